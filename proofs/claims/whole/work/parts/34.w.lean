theorem d_Mo_split_0 : decode M_Mo_split.2.1 0 = .ok (.aload_n 0, 1) := by decide +kernel
theorem d_Mo_split_1 : decode M_Mo_split.2.1 1 = .ok (.iload_n 1, 1) := by decide +kernel
theorem d_Mo_split_2 : decode M_Mo_split.2.1 2 = .ok (.invokevirtual 217, 3) := by decide +kernel
theorem d_Mo_split_5 : decode M_Mo_split.2.1 5 = .ok (.ifCond .eq 36, 3) := by decide +kernel
theorem d_Mo_split_8 : decode M_Mo_split.2.1 8 = .ok (.iload_n 2, 1) := by decide +kernel
theorem d_Mo_split_9 : decode M_Mo_split.2.1 9 = .ok (.iconst 1, 1) := by decide +kernel
theorem d_Mo_split_10 : decode M_Mo_split.2.1 10 = .ok (.if_icmp .lt 31, 3) := by decide +kernel
theorem d_Mo_split_13 : decode M_Mo_split.2.1 13 = .ok (.iload_n 2, 1) := by decide +kernel
theorem d_Mo_split_14 : decode M_Mo_split.2.1 14 = .ok (.aload_n 0, 1) := by decide +kernel
theorem d_Mo_split_15 : decode M_Mo_split.2.1 15 = .ok (.getfield 27, 3) := by decide +kernel
theorem d_Mo_split_18 : decode M_Mo_split.2.1 18 = .ok (.iload_n 1, 1) := by decide +kernel
theorem d_Mo_split_19 : decode M_Mo_split.2.1 19 = .ok (.iaload, 1) := by decide +kernel
theorem d_Mo_split_20 : decode M_Mo_split.2.1 20 = .ok (.if_icmp .ge 21, 3) := by decide +kernel
theorem d_Mo_split_23 : decode M_Mo_split.2.1 23 = .ok (.aload_n 0, 1) := by decide +kernel
theorem d_Mo_split_24 : decode M_Mo_split.2.1 24 = .ok (.getfield 30, 3) := by decide +kernel
theorem d_Mo_split_27 : decode M_Mo_split.2.1 27 = .ok (.bipush 64, 2) := by decide +kernel
theorem d_Mo_split_29 : decode M_Mo_split.2.1 29 = .ok (.iload_n 1, 1) := by decide +kernel
theorem d_Mo_split_30 : decode M_Mo_split.2.1 30 = .ok (.imul, 1) := by decide +kernel
theorem d_Mo_split_31 : decode M_Mo_split.2.1 31 = .ok (.iload_n 2, 1) := by decide +kernel
theorem d_Mo_split_32 : decode M_Mo_split.2.1 32 = .ok (.iadd, 1) := by decide +kernel
theorem d_Mo_split_33 : decode M_Mo_split.2.1 33 = .ok (.iconst 1, 1) := by decide +kernel
theorem d_Mo_split_34 : decode M_Mo_split.2.1 34 = .ok (.isub, 1) := by decide +kernel
theorem d_Mo_split_35 : decode M_Mo_split.2.1 35 = .ok (.iaload, 1) := by decide +kernel
theorem d_Mo_split_36 : decode M_Mo_split.2.1 36 = .ok (.bipush 10, 2) := by decide +kernel
theorem d_Mo_split_38 : decode M_Mo_split.2.1 38 = .ok (.if_icmp .ne 6, 3) := by decide +kernel
theorem d_Mo_split_41 : decode M_Mo_split.2.1 41 = .ok (.bipush (-2), 2) := by decide +kernel
theorem d_Mo_split_43 : decode M_Mo_split.2.1 43 = .ok (.ireturn, 1) := by decide +kernel
theorem d_Mo_split_44 : decode M_Mo_split.2.1 44 = .ok (.aload_n 0, 1) := by decide +kernel
theorem d_Mo_split_45 : decode M_Mo_split.2.1 45 = .ok (.getfield 27, 3) := by decide +kernel
theorem d_Mo_split_48 : decode M_Mo_split.2.1 48 = .ok (.iload_n 1, 1) := by decide +kernel
theorem d_Mo_split_49 : decode M_Mo_split.2.1 49 = .ok (.iaload, 1) := by decide +kernel
theorem d_Mo_split_50 : decode M_Mo_split.2.1 50 = .ok (.istore_n 3, 1) := by decide +kernel
theorem d_Mo_split_51 : decode M_Mo_split.2.1 51 = .ok (.aload_n 0, 1) := by decide +kernel
theorem d_Mo_split_52 : decode M_Mo_split.2.1 52 = .ok (.getfield 30, 3) := by decide +kernel
theorem d_Mo_split_55 : decode M_Mo_split.2.1 55 = .ok (.bipush 64, 2) := by decide +kernel
theorem d_Mo_split_57 : decode M_Mo_split.2.1 57 = .ok (.iload_n 1, 1) := by decide +kernel
theorem d_Mo_split_58 : decode M_Mo_split.2.1 58 = .ok (.imul, 1) := by decide +kernel
theorem d_Mo_split_59 : decode M_Mo_split.2.1 59 = .ok (.iload_n 2, 1) := by decide +kernel
theorem d_Mo_split_60 : decode M_Mo_split.2.1 60 = .ok (.iadd, 1) := by decide +kernel
theorem d_Mo_split_61 : decode M_Mo_split.2.1 61 = .ok (.iaload, 1) := by decide +kernel
theorem d_Mo_split_62 : decode M_Mo_split.2.1 62 = .ok (.bipush 10, 2) := by decide +kernel
theorem d_Mo_split_64 : decode M_Mo_split.2.1 64 = .ok (.if_icmp .ne 9, 3) := by decide +kernel
theorem d_Mo_split_67 : decode M_Mo_split.2.1 67 = .ok (.iload_n 2, 1) := by decide +kernel
theorem d_Mo_split_68 : decode M_Mo_split.2.1 68 = .ok (.iconst 1, 1) := by decide +kernel
theorem d_Mo_split_69 : decode M_Mo_split.2.1 69 = .ok (.iadd, 1) := by decide +kernel
theorem d_Mo_split_70 : decode M_Mo_split.2.1 70 = .ok (.goto 4, 3) := by decide +kernel
theorem d_Mo_split_73 : decode M_Mo_split.2.1 73 = .ok (.iload_n 2, 1) := by decide +kernel
theorem d_Mo_split_74 : decode M_Mo_split.2.1 74 = .ok (.istore 4, 2) := by decide +kernel
theorem d_Mo_split_76 : decode M_Mo_split.2.1 76 = .ok (.aload_n 0, 1) := by decide +kernel
theorem d_Mo_split_77 : decode M_Mo_split.2.1 77 = .ok (.iload_n 1, 1) := by decide +kernel
theorem d_Mo_split_78 : decode M_Mo_split.2.1 78 = .ok (.iconst 0, 1) := by decide +kernel
theorem d_Mo_split_79 : decode M_Mo_split.2.1 79 = .ok (.iload_n 2, 1) := by decide +kernel
theorem d_Mo_split_80 : decode M_Mo_split.2.1 80 = .ok (.invokevirtual 222, 3) := by decide +kernel
theorem d_Mo_split_83 : decode M_Mo_split.2.1 83 = .ok (.istore 5, 2) := by decide +kernel
theorem d_Mo_split_85 : decode M_Mo_split.2.1 85 = .ok (.iload 5, 2) := by decide +kernel
theorem d_Mo_split_87 : decode M_Mo_split.2.1 87 = .ok (.aload_n 0, 1) := by decide +kernel
theorem d_Mo_split_88 : decode M_Mo_split.2.1 88 = .ok (.iload_n 1, 1) := by decide +kernel
theorem d_Mo_split_89 : decode M_Mo_split.2.1 89 = .ok (.iload 4, 2) := by decide +kernel
theorem d_Mo_split_91 : decode M_Mo_split.2.1 91 = .ok (.iload_n 3, 1) := by decide +kernel
theorem d_Mo_split_92 : decode M_Mo_split.2.1 92 = .ok (.invokevirtual 222, 3) := by decide +kernel
theorem d_Mo_split_95 : decode M_Mo_split.2.1 95 = .ok (.iadd, 1) := by decide +kernel
theorem d_Mo_split_96 : decode M_Mo_split.2.1 96 = .ok (.istore 6, 2) := by decide +kernel
theorem d_Mo_split_98 : decode M_Mo_split.2.1 98 = .ok (.iload 6, 2) := by decide +kernel
theorem d_Mo_split_100 : decode M_Mo_split.2.1 100 = .ok (.ifCond .ne 7, 3) := by decide +kernel
theorem d_Mo_split_103 : decode M_Mo_split.2.1 103 = .ok (.lconst 1, 1) := by decide +kernel
theorem d_Mo_split_104 : decode M_Mo_split.2.1 104 = .ok (.goto 6, 3) := by decide +kernel
theorem d_Mo_split_107 : decode M_Mo_split.2.1 107 = .ok (.iload 5, 2) := by decide +kernel
theorem d_Mo_split_109 : decode M_Mo_split.2.1 109 = .ok (.i2l, 1) := by decide +kernel
theorem d_Mo_split_110 : decode M_Mo_split.2.1 110 = .ok (.lstore 7, 2) := by decide +kernel
theorem d_Mo_split_112 : decode M_Mo_split.2.1 112 = .ok (.iload 6, 2) := by decide +kernel
theorem d_Mo_split_114 : decode M_Mo_split.2.1 114 = .ok (.ifCond .ne 9, 3) := by decide +kernel
theorem d_Mo_split_117 : decode M_Mo_split.2.1 117 = .ok (.ldc2_w 84, 3) := by decide +kernel
theorem d_Mo_split_120 : decode M_Mo_split.2.1 120 = .ok (.goto 6, 3) := by decide +kernel
theorem d_Mo_split_123 : decode M_Mo_split.2.1 123 = .ok (.iload 6, 2) := by decide +kernel
theorem d_Mo_split_125 : decode M_Mo_split.2.1 125 = .ok (.i2l, 1) := by decide +kernel
theorem d_Mo_split_126 : decode M_Mo_split.2.1 126 = .ok (.lstore 9, 2) := by decide +kernel
theorem d_Mo_split_128 : decode M_Mo_split.2.1 128 = .ok (.aload_n 0, 1) := by decide +kernel
theorem d_Mo_split_129 : decode M_Mo_split.2.1 129 = .ok (.getfield 20, 3) := by decide +kernel
theorem d_Mo_split_132 : decode M_Mo_split.2.1 132 = .ok (.iload_n 1, 1) := by decide +kernel
theorem d_Mo_split_133 : decode M_Mo_split.2.1 133 = .ok (.laload, 1) := by decide +kernel
theorem d_Mo_split_134 : decode M_Mo_split.2.1 134 = .ok (.lload 9, 2) := by decide +kernel
theorem d_Mo_split_136 : decode M_Mo_split.2.1 136 = .ok (.lmul, 1) := by decide +kernel
theorem d_Mo_split_137 : decode M_Mo_split.2.1 137 = .ok (.aload_n 0, 1) := by decide +kernel
theorem d_Mo_split_138 : decode M_Mo_split.2.1 138 = .ok (.getfield 24, 3) := by decide +kernel
theorem d_Mo_split_141 : decode M_Mo_split.2.1 141 = .ok (.iload_n 1, 1) := by decide +kernel
theorem d_Mo_split_142 : decode M_Mo_split.2.1 142 = .ok (.laload, 1) := by decide +kernel
theorem d_Mo_split_143 : decode M_Mo_split.2.1 143 = .ok (.aload_n 0, 1) := by decide +kernel
theorem d_Mo_split_144 : decode M_Mo_split.2.1 144 = .ok (.getfield 20, 3) := by decide +kernel
theorem d_Mo_split_147 : decode M_Mo_split.2.1 147 = .ok (.iload_n 1, 1) := by decide +kernel
theorem d_Mo_split_148 : decode M_Mo_split.2.1 148 = .ok (.laload, 1) := by decide +kernel
theorem d_Mo_split_149 : decode M_Mo_split.2.1 149 = .ok (.lsub, 1) := by decide +kernel
theorem d_Mo_split_150 : decode M_Mo_split.2.1 150 = .ok (.lload 7, 2) := by decide +kernel
theorem d_Mo_split_152 : decode M_Mo_split.2.1 152 = .ok (.lmul, 1) := by decide +kernel
theorem d_Mo_split_153 : decode M_Mo_split.2.1 153 = .ok (.ladd, 1) := by decide +kernel
theorem d_Mo_split_154 : decode M_Mo_split.2.1 154 = .ok (.lload 9, 2) := by decide +kernel
theorem d_Mo_split_156 : decode M_Mo_split.2.1 156 = .ok (.invokestatic 189, 3) := by decide +kernel
theorem d_Mo_split_159 : decode M_Mo_split.2.1 159 = .ok (.lstore 11, 2) := by decide +kernel
theorem d_Mo_split_161 : decode M_Mo_split.2.1 161 = .ok (.lload 11, 2) := by decide +kernel
theorem d_Mo_split_163 : decode M_Mo_split.2.1 163 = .ok (.aload_n 0, 1) := by decide +kernel
theorem d_Mo_split_164 : decode M_Mo_split.2.1 164 = .ok (.getfield 20, 3) := by decide +kernel
theorem d_Mo_split_167 : decode M_Mo_split.2.1 167 = .ok (.iload_n 1, 1) := by decide +kernel
theorem d_Mo_split_168 : decode M_Mo_split.2.1 168 = .ok (.laload, 1) := by decide +kernel
theorem d_Mo_split_169 : decode M_Mo_split.2.1 169 = .ok (.lcmp, 1) := by decide +kernel
theorem d_Mo_split_170 : decode M_Mo_split.2.1 170 = .ok (.ifCond .le 39, 3) := by decide +kernel
theorem d_Mo_split_173 : decode M_Mo_split.2.1 173 = .ok (.lload 11, 2) := by decide +kernel
theorem d_Mo_split_175 : decode M_Mo_split.2.1 175 = .ok (.aload_n 0, 1) := by decide +kernel
theorem d_Mo_split_176 : decode M_Mo_split.2.1 176 = .ok (.getfield 24, 3) := by decide +kernel
theorem d_Mo_split_179 : decode M_Mo_split.2.1 179 = .ok (.iload_n 1, 1) := by decide +kernel
theorem d_Mo_split_180 : decode M_Mo_split.2.1 180 = .ok (.laload, 1) := by decide +kernel
theorem d_Mo_split_181 : decode M_Mo_split.2.1 181 = .ok (.lcmp, 1) := by decide +kernel
theorem d_Mo_split_182 : decode M_Mo_split.2.1 182 = .ok (.ifCond .ge 27, 3) := by decide +kernel
theorem d_Mo_split_185 : decode M_Mo_split.2.1 185 = .ok (.iload_n 1, 1) := by decide +kernel
theorem d_Mo_split_186 : decode M_Mo_split.2.1 186 = .ok (.iconst 1, 1) := by decide +kernel
theorem d_Mo_split_187 : decode M_Mo_split.2.1 187 = .ok (.iadd, 1) := by decide +kernel
theorem d_Mo_split_188 : decode M_Mo_split.2.1 188 = .ok (.aload_n 0, 1) := by decide +kernel
theorem d_Mo_split_189 : decode M_Mo_split.2.1 189 = .ok (.getfield 92, 3) := by decide +kernel
theorem d_Mo_split_192 : decode M_Mo_split.2.1 192 = .ok (.if_icmp .ge 20, 3) := by decide +kernel
theorem d_Mo_split_195 : decode M_Mo_split.2.1 195 = .ok (.aload_n 0, 1) := by decide +kernel
theorem d_Mo_split_196 : decode M_Mo_split.2.1 196 = .ok (.getfield 20, 3) := by decide +kernel
theorem d_Mo_split_199 : decode M_Mo_split.2.1 199 = .ok (.iload_n 1, 1) := by decide +kernel
theorem d_Mo_split_200 : decode M_Mo_split.2.1 200 = .ok (.iconst 1, 1) := by decide +kernel
theorem d_Mo_split_201 : decode M_Mo_split.2.1 201 = .ok (.iadd, 1) := by decide +kernel
theorem d_Mo_split_202 : decode M_Mo_split.2.1 202 = .ok (.laload, 1) := by decide +kernel
theorem d_Mo_split_203 : decode M_Mo_split.2.1 203 = .ok (.lload 11, 2) := by decide +kernel
theorem d_Mo_split_205 : decode M_Mo_split.2.1 205 = .ok (.lcmp, 1) := by decide +kernel
theorem d_Mo_split_206 : decode M_Mo_split.2.1 206 = .ok (.ifCond .ge 6, 3) := by decide +kernel
theorem d_Mo_split_209 : decode M_Mo_split.2.1 209 = .ok (.bipush (-2), 2) := by decide +kernel
theorem d_Mo_split_211 : decode M_Mo_split.2.1 211 = .ok (.ireturn, 1) := by decide +kernel
theorem d_Mo_split_212 : decode M_Mo_split.2.1 212 = .ok (.aload_n 0, 1) := by decide +kernel
theorem d_Mo_split_213 : decode M_Mo_split.2.1 213 = .ok (.getfield 92, 3) := by decide +kernel
theorem d_Mo_split_216 : decode M_Mo_split.2.1 216 = .ok (.bipush 16, 2) := by decide +kernel
theorem d_Mo_split_218 : decode M_Mo_split.2.1 218 = .ok (.if_icmp .ne 6, 3) := by decide +kernel
theorem d_Mo_split_221 : decode M_Mo_split.2.1 221 = .ok (.bipush (-3), 2) := by decide +kernel
theorem d_Mo_split_223 : decode M_Mo_split.2.1 223 = .ok (.ireturn, 1) := by decide +kernel
theorem d_Mo_split_224 : decode M_Mo_split.2.1 224 = .ok (.aload_n 0, 1) := by decide +kernel
theorem d_Mo_split_225 : decode M_Mo_split.2.1 225 = .ok (.invokevirtual 176, 3) := by decide +kernel
theorem d_Mo_split_228 : decode M_Mo_split.2.1 228 = .ok (.aload_n 0, 1) := by decide +kernel
theorem d_Mo_split_229 : decode M_Mo_split.2.1 229 = .ok (.getfield 92, 3) := by decide +kernel
theorem d_Mo_split_232 : decode M_Mo_split.2.1 232 = .ok (.istore 13, 2) := by decide +kernel
theorem d_Mo_split_234 : decode M_Mo_split.2.1 234 = .ok (.iload 13, 2) := by decide +kernel
theorem d_Mo_split_236 : decode M_Mo_split.2.1 236 = .ok (.iload_n 1, 1) := by decide +kernel
theorem d_Mo_split_237 : decode M_Mo_split.2.1 237 = .ok (.if_icmp .le 19, 3) := by decide +kernel
theorem d_Mo_split_240 : decode M_Mo_split.2.1 240 = .ok (.aload_n 0, 1) := by decide +kernel
theorem d_Mo_split_241 : decode M_Mo_split.2.1 241 = .ok (.iload 13, 2) := by decide +kernel
theorem d_Mo_split_243 : decode M_Mo_split.2.1 243 = .ok (.iconst 1, 1) := by decide +kernel
theorem d_Mo_split_244 : decode M_Mo_split.2.1 244 = .ok (.isub, 1) := by decide +kernel
theorem d_Mo_split_245 : decode M_Mo_split.2.1 245 = .ok (.iload 13, 2) := by decide +kernel
theorem d_Mo_split_247 : decode M_Mo_split.2.1 247 = .ok (.invokevirtual 275, 3) := by decide +kernel
theorem d_Mo_split_250 : decode M_Mo_split.2.1 250 = .ok (.iinc 13 (-1), 3) := by decide +kernel
theorem d_Mo_split_253 : decode M_Mo_split.2.1 253 = .ok (.goto (-19), 3) := by decide +kernel
theorem d_Mo_split_256 : decode M_Mo_split.2.1 256 = .ok (.aload_n 0, 1) := by decide +kernel
theorem d_Mo_split_257 : decode M_Mo_split.2.1 257 = .ok (.dup, 1) := by decide +kernel
theorem d_Mo_split_258 : decode M_Mo_split.2.1 258 = .ok (.getfield 92, 3) := by decide +kernel
theorem d_Mo_split_261 : decode M_Mo_split.2.1 261 = .ok (.iconst 1, 1) := by decide +kernel
theorem d_Mo_split_262 : decode M_Mo_split.2.1 262 = .ok (.iadd, 1) := by decide +kernel
theorem d_Mo_split_263 : decode M_Mo_split.2.1 263 = .ok (.putfield 92, 3) := by decide +kernel
theorem d_Mo_split_266 : decode M_Mo_split.2.1 266 = .ok (.aload_n 0, 1) := by decide +kernel
theorem d_Mo_split_267 : decode M_Mo_split.2.1 267 = .ok (.getfield 27, 3) := by decide +kernel
theorem d_Mo_split_270 : decode M_Mo_split.2.1 270 = .ok (.iload_n 1, 1) := by decide +kernel
theorem d_Mo_split_271 : decode M_Mo_split.2.1 271 = .ok (.iload_n 2, 1) := by decide +kernel
theorem d_Mo_split_272 : decode M_Mo_split.2.1 272 = .ok (.iastore, 1) := by decide +kernel
theorem d_Mo_split_273 : decode M_Mo_split.2.1 273 = .ok (.aload_n 0, 1) := by decide +kernel
theorem d_Mo_split_274 : decode M_Mo_split.2.1 274 = .ok (.getfield 24, 3) := by decide +kernel
theorem d_Mo_split_277 : decode M_Mo_split.2.1 277 = .ok (.iload_n 1, 1) := by decide +kernel
theorem d_Mo_split_278 : decode M_Mo_split.2.1 278 = .ok (.lload 11, 2) := by decide +kernel
theorem d_Mo_split_280 : decode M_Mo_split.2.1 280 = .ok (.lastore, 1) := by decide +kernel
theorem d_Mo_split_281 : decode M_Mo_split.2.1 281 = .ok (.aload_n 0, 1) := by decide +kernel
theorem d_Mo_split_282 : decode M_Mo_split.2.1 282 = .ok (.getfield 20, 3) := by decide +kernel
theorem d_Mo_split_285 : decode M_Mo_split.2.1 285 = .ok (.iload_n 1, 1) := by decide +kernel
theorem d_Mo_split_286 : decode M_Mo_split.2.1 286 = .ok (.iconst 1, 1) := by decide +kernel
theorem d_Mo_split_287 : decode M_Mo_split.2.1 287 = .ok (.iadd, 1) := by decide +kernel
theorem d_Mo_split_288 : decode M_Mo_split.2.1 288 = .ok (.lload 11, 2) := by decide +kernel
theorem d_Mo_split_290 : decode M_Mo_split.2.1 290 = .ok (.lastore, 1) := by decide +kernel
theorem d_Mo_split_291 : decode M_Mo_split.2.1 291 = .ok (.aload_n 0, 1) := by decide +kernel
theorem d_Mo_split_292 : decode M_Mo_split.2.1 292 = .ok (.getfield 27, 3) := by decide +kernel
theorem d_Mo_split_295 : decode M_Mo_split.2.1 295 = .ok (.iload_n 1, 1) := by decide +kernel
theorem d_Mo_split_296 : decode M_Mo_split.2.1 296 = .ok (.iconst 1, 1) := by decide +kernel
theorem d_Mo_split_297 : decode M_Mo_split.2.1 297 = .ok (.iadd, 1) := by decide +kernel
theorem d_Mo_split_298 : decode M_Mo_split.2.1 298 = .ok (.iload_n 3, 1) := by decide +kernel
theorem d_Mo_split_299 : decode M_Mo_split.2.1 299 = .ok (.iload 4, 2) := by decide +kernel
theorem d_Mo_split_301 : decode M_Mo_split.2.1 301 = .ok (.isub, 1) := by decide +kernel
theorem d_Mo_split_302 : decode M_Mo_split.2.1 302 = .ok (.iastore, 1) := by decide +kernel
theorem d_Mo_split_303 : decode M_Mo_split.2.1 303 = .ok (.iload 4, 2) := by decide +kernel
theorem d_Mo_split_305 : decode M_Mo_split.2.1 305 = .ok (.istore 13, 2) := by decide +kernel
theorem d_Mo_split_307 : decode M_Mo_split.2.1 307 = .ok (.iload 13, 2) := by decide +kernel
theorem d_Mo_split_309 : decode M_Mo_split.2.1 309 = .ok (.iload_n 3, 1) := by decide +kernel
theorem d_Mo_split_310 : decode M_Mo_split.2.1 310 = .ok (.if_icmp .ge 39, 3) := by decide +kernel
theorem d_Mo_split_313 : decode M_Mo_split.2.1 313 = .ok (.aload_n 0, 1) := by decide +kernel
theorem d_Mo_split_314 : decode M_Mo_split.2.1 314 = .ok (.getfield 30, 3) := by decide +kernel
theorem d_Mo_split_317 : decode M_Mo_split.2.1 317 = .ok (.bipush 64, 2) := by decide +kernel
theorem d_Mo_split_319 : decode M_Mo_split.2.1 319 = .ok (.iload_n 1, 1) := by decide +kernel
theorem d_Mo_split_320 : decode M_Mo_split.2.1 320 = .ok (.imul, 1) := by decide +kernel
theorem d_Mo_split_321 : decode M_Mo_split.2.1 321 = .ok (.bipush 64, 2) := by decide +kernel
theorem d_Mo_split_323 : decode M_Mo_split.2.1 323 = .ok (.iadd, 1) := by decide +kernel
theorem d_Mo_split_324 : decode M_Mo_split.2.1 324 = .ok (.iload 13, 2) := by decide +kernel
theorem d_Mo_split_326 : decode M_Mo_split.2.1 326 = .ok (.iadd, 1) := by decide +kernel
theorem d_Mo_split_327 : decode M_Mo_split.2.1 327 = .ok (.iload 4, 2) := by decide +kernel
theorem d_Mo_split_329 : decode M_Mo_split.2.1 329 = .ok (.isub, 1) := by decide +kernel
theorem d_Mo_split_330 : decode M_Mo_split.2.1 330 = .ok (.aload_n 0, 1) := by decide +kernel
theorem d_Mo_split_331 : decode M_Mo_split.2.1 331 = .ok (.getfield 30, 3) := by decide +kernel
theorem d_Mo_split_334 : decode M_Mo_split.2.1 334 = .ok (.bipush 64, 2) := by decide +kernel
theorem d_Mo_split_336 : decode M_Mo_split.2.1 336 = .ok (.iload_n 1, 1) := by decide +kernel
theorem d_Mo_split_337 : decode M_Mo_split.2.1 337 = .ok (.imul, 1) := by decide +kernel
theorem d_Mo_split_338 : decode M_Mo_split.2.1 338 = .ok (.iload 13, 2) := by decide +kernel
theorem d_Mo_split_340 : decode M_Mo_split.2.1 340 = .ok (.iadd, 1) := by decide +kernel
theorem d_Mo_split_341 : decode M_Mo_split.2.1 341 = .ok (.iaload, 1) := by decide +kernel
theorem d_Mo_split_342 : decode M_Mo_split.2.1 342 = .ok (.iastore, 1) := by decide +kernel
theorem d_Mo_split_343 : decode M_Mo_split.2.1 343 = .ok (.iinc 13 1, 3) := by decide +kernel
theorem d_Mo_split_346 : decode M_Mo_split.2.1 346 = .ok (.goto (-39), 3) := by decide +kernel
theorem d_Mo_split_349 : decode M_Mo_split.2.1 349 = .ok (.aload_n 0, 1) := by decide +kernel
theorem d_Mo_split_350 : decode M_Mo_split.2.1 350 = .ok (.getfield 92, 3) := by decide +kernel
theorem d_Mo_split_353 : decode M_Mo_split.2.1 353 = .ok (.ireturn, 1) := by decide +kernel
theorem cpy_dn {F : Nat → Int} {k n : Nat} (hk : 1 ≤ k) (hn : k ≤ n) : zup (va_cpy F F k (k + 1) (n - k)) k (va_cpy F F k (k + 1) (n - k) (k - 1)) = va_cpy F F (k - 1) (k - 1 + 1) (n - (k - 1)) := by
  funext p
  show (if p = k then va_cpy F F k (k + 1) (n - k) (k - 1) else va_cpy F F k (k + 1) (n - k) p) = _
  simp only [cpy_i]
  by_cases q : p = k
  · subst q
    rw [if_pos rfl, if_neg (by omega), if_pos (by omega)]
    congr 1; omega
  · rw [if_neg q]
    by_cases q2 : k + 1 ≤ p ∧ p < k + 1 + (n - k)
    · rw [if_pos q2, if_pos (by omega)]
      congr 1; omega
    · rw [if_neg q2, if_neg (by omega)]
theorem cpy_dnb {F : Nat → Int} {k n : Nat} (hk : 1 ≤ k) (hn : k ≤ n) : va_cpy (va_cpy F F (64 * k) (64 * (k + 1)) (64 * (n - k))) (va_cpy F F (64 * k) (64 * (k + 1)) (64 * (n - k))) (64 * (k - 1)) (64 * k) 64 = va_cpy F F (64 * (k - 1)) (64 * (k - 1 + 1)) (64 * (n - (k - 1))) := by
  funext p
  simp only [cpy_i]
  by_cases q : 64 * k ≤ p ∧ p < 64 * k + 64
  · rw [if_pos q, if_neg (by omega), if_pos (by omega)]
    congr 1; omega
  · rw [if_neg q]
    by_cases q2 : 64 * (k + 1) ≤ p ∧ p < 64 * (k + 1) + 64 * (n - k)
    · rw [if_pos q2, if_pos (by omega)]
      congr 1; omega
    · rw [if_neg q2, if_neg (by omega)]
theorem cellsN_app {F : Nat → Int} {o a : Nat} : ∀ b : Nat, cellsN F o (a + b) = cellsN F o a + cellsN F (o + a) b
  | 0 => by show cellsN F o a = cellsN F o a + 0; omega
  | b + 1 => by
    show cellsN F o (a + b) + cellZ (F (o + (a + b))) = cellsN F o a + (cellsN F (o + a) b + cellZ (F (o + a + b)))
    rw [cellsN_app b, Nat.add_assoc]
    omega
theorem cells_sp {F : Nat → Int} {i j z : Nat} (h : j < z) : cellsN F (i * 64) j + cellsN F (i * 64 + spF F i j) (z - spF F i j) = cellsN F (i * 64) z := by
  unfold spF
  split
  · rename_i q
    rw [show z = j + (1 + (z - (j + 1))) by omega, cellsN_app, cellsN_app, show cellsN F (i * 64 + j) 1 = 0 from by show 0 + cellZ (F (i * 64 + j + 0)) = 0; rw [Nat.add_zero, q]; rfl, show i * 64 + j + 1 = i * 64 + (j + 1) by omega, show j + (1 + (z - (j + 1))) - (j + 1) = z - (j + 1) by omega]
    omega
  · rw [show z = j + (z - j) by omega, cellsN_app, show j + (z - j) - j = z - j by omega]
/-- the reference's row with cue i parted -/
def spM (c : Cu) (i j : Nat) (t : Int) : Cu :=
  let T1 := va_cpy c.2.1 c.2.1 i (i + 1) (c.1 - i)
  let T2 := va_cpy c.2.2.1 c.2.2.1 i (i + 1) (c.1 - i)
  let T3 := va_cpy c.2.2.2.1 c.2.2.2.1 i (i + 1) (c.1 - i)
  let T4 := va_cpy c.2.2.2.2 c.2.2.2.2 (64 * i) (64 * (i + 1)) (64 * (c.1 - i))
  let f := spF c.2.2.2.2 i j
  (c.1 + 1, zup T1 (i + 1) t, zup T2 i t, zup (zup T3 i j) (i + 1) (((c.2.2.2.1 i).toNat : Int) - (f : Int)), va_cpy T4 T4 (64 * i + f) (64 * i + 64) ((c.2.2.2.1 i).toNat - f))
set_option maxHeartbeats 4000000 in
set_option maxRecDepth 100000 in
theorem lp_Mo_sp1 (G : GT) (Q : Option Value → HM → Prop) (h0 : HM) (i j z f n : Nat) (t : Int) (hi : i < n) (hn : n < 16) (σ : Nat → Value) (m s1 s2 s3 s4 : Nat) (S1 S2 S3 S4 : Nat → Int) (f4 : σ 4 = .int (iZ (n : Int))) (f5 : σ 5 = .ref s1) (f6 : σ 6 = .ref s2) (f7 : σ 7 = .ref s3) (f8 : σ 8 = .ref s4) (n_s : s1 ≠ s2) (kk : ∀ h (k : Nat), k = i → h m = some (.inr (11, fsN 34 σ)) → h s1 = some (.inl (G_j G, 16, .inr (.inl (lA (va_cpy S1 S1 k (k + 1) (n - k)))))) → h s2 = some (.inl (G_j G, 16, .inr (.inl (lA (va_cpy S2 S2 k (k + 1) (n - k)))))) → h s3 = some (.inl (G_i G, 16, .inl (iA (va_cpy S3 S3 k (k + 1) (n - k))))) → h s4 = some (.inl (G_i G, 1024, .inl (iA (va_cpy S4 S4 (64 * k) (64 * (k + 1)) (64 * (n - k)))))) → Fm [s1, s2, s3, s4] h0 h → Ev G M_Mo_split (rm 2 60) Q 256 [(0, .ref m), (1, .int (iZ (i : Int))), (2, .int (iZ (j : Int))), (3, .int (iZ (z : Int))), (4, .int (iZ (f : Int))), (11, .long (lZ t)), (13, .int (iZ (k : Int)))] [] h 0 0) : ∀ (d : Nat) (k : Nat) (h : HM), k = i + d → k ≤ n → h m = some (.inr (11, fsN 34 σ)) → h s1 = some (.inl (G_j G, 16, .inr (.inl (lA (va_cpy S1 S1 k (k + 1) (n - k)))))) → h s2 = some (.inl (G_j G, 16, .inr (.inl (lA (va_cpy S2 S2 k (k + 1) (n - k)))))) → h s3 = some (.inl (G_i G, 16, .inl (iA (va_cpy S3 S3 k (k + 1) (n - k))))) → h s4 = some (.inl (G_i G, 1024, .inl (iA (va_cpy S4 S4 (64 * k) (64 * (k + 1)) (64 * (n - k)))))) → Fm [s1, s2, s3, s4] h0 h → Ev G M_Mo_split (rm 2 60) (Q) 234 [(0, .ref m), (1, .int (iZ (i : Int))), (2, .int (iZ (j : Int))), (3, .int (iZ (z : Int))), (4, .int (iZ (f : Int))), (11, .long (lZ t)), (13, .int (iZ (k : Int)))] [] h 0 0 := by
  intro d
  induction d using Nat.strongRecOn with
  | ind d ih =>
  intro k h hd hkn hm hs1 hs2 hs3 hs4 fm
  refine ev_iload d_Mo_split_234 rfl ?_
  refine ev_iload_n d_Mo_split_236 rfl rfl ?_
  refine ez_icmp_le (tgt := 256) (by omega) (by omega) d_Mo_split_237 rfl (fun c237 => ?_) (fun c237 => ?_)
  · exact kk h k (by omega) hm hs1 hs2 hs3 hs4 fm
  · refine ev_aload_n d_Mo_split_240 rfl rfl ?_
    refine ev_iload d_Mo_split_241 rfl ?_
    refine ev_iconst (v := iZ 1) d_Mo_split_243 rfl ?_
    refine ez_isub d_Mo_split_244 ?_
    rw [show ((k : Int) - 1 : Int) = ((k - 1 : Nat) : Int) from by omega]
    refine ev_iload d_Mo_split_245 rfl ?_
    refine ev_callV M_Mo_copy (rm 0 0) _ (As := [.int (iZ ((k - 1 : Nat) : Int)), .int (iZ (k : Int))]) (c_Mo_copy G h (k - 1) k σ m s1 s2 s3 s4 (va_cpy S1 S1 k (k + 1) (n - k)) (va_cpy S2 S2 k (k + 1) (n - k)) (va_cpy S3 S3 k (k + 1) (n - k)) (va_cpy S4 S4 (64 * k) (64 * (k + 1)) (64 * (n - k))) hm f5 f6 f7 f8 hs1 hs2 hs3 hs4 (by omega) (by omega) (by omega) n_s) d_Mo_split_247 mk_Mo_copy ml_Mo_275 mv_Mo_copy hm rfl rfl rfl (Nat.le_of_ble_eq_true rfl) ⟨by decide, by decide⟩ ⟨by decide, by decide⟩ (fun r h9 hq => ?_)
    obtain ⟨rfl, gs1, gs2, gs3, gs4, fmc⟩ := hq
    have hm := (fmc _ (ninc (cne hm hs1 (by simp)) (ninc (cne hm hs2 (by simp)) (ninc (cne hm hs3 (by simp)) (ninc (cne hm hs4 (by simp)) nin0))))).trans hm
    have fm := fm.call (by simp) fmc
    refine ez_iinc (L' := [(0, .ref m), (1, .int (iZ (i : Int))), (2, .int (iZ (j : Int))), (3, .int (iZ (z : Int))), (4, .int (iZ (f : Int))), (11, .long (lZ t)), (13, .int (iZ ((k : Int) + (-1))))]) d_Mo_split_250 rfl (by decide) rfl ?_
    refine ev_goto (tgt := 234) d_Mo_split_253 rfl ?_
    rw [show ((k : Int) + (-1)) = ((k - 1 : Nat) : Int) from by omega]
    exact ih (d - 1) (by omega) (k - 1) h9 (by omega) (by omega) hm (by rw [← cpy_dn (by omega) (by omega)]; exact gs1) (by rw [← cpy_dn (by omega) (by omega)]; exact gs2) (by rw [← cpy_dn (by omega) (by omega)]; exact gs3) (by rw [← cpy_dnb (by omega) (by omega)]; exact gs4) fm
set_option maxHeartbeats 4000000 in
set_option maxRecDepth 100000 in
theorem lp_Mo_sp2 (G : GT) (Q : Option Value → HM → Prop) (h0 : HM) (i j z f : Nat) (t : Int) (hi : i + 1 < 16) (hz : f ≤ z ∧ z ≤ 64) (σ : Nat → Value) (m s4 : Nat) (T : Nat → Int) (f8 : σ 8 = .ref s4) (kk : ∀ h (q : Nat), q = z - f → h m = some (.inr (11, fsN 34 σ)) → h s4 = some (.inl (G_i G, 1024, .inl (iA (va_cpy T T (64 * i + f) (64 * i + 64) q)))) → Fm [s4] h0 h → Ev G M_Mo_split (rm 2 60) Q 349 [(0, .ref m), (1, .int (iZ (i : Int))), (2, .int (iZ (j : Int))), (3, .int (iZ (z : Int))), (4, .int (iZ (f : Int))), (11, .long (lZ t)), (13, .int (iZ ((f + q : Nat) : Int)))] [] h 0 0) : ∀ (d : Nat) (q : Nat) (h : HM), f + q + d = z → h m = some (.inr (11, fsN 34 σ)) → h s4 = some (.inl (G_i G, 1024, .inl (iA (va_cpy T T (64 * i + f) (64 * i + 64) q)))) → Fm [s4] h0 h → Ev G M_Mo_split (rm 2 60) (Q) 307 [(0, .ref m), (1, .int (iZ (i : Int))), (2, .int (iZ (j : Int))), (3, .int (iZ (z : Int))), (4, .int (iZ (f : Int))), (11, .long (lZ t)), (13, .int (iZ ((f + q : Nat) : Int)))] [] h 0 0 := by
  intro d
  induction d using Nat.strongRecOn with
  | ind d ih =>
  intro q h hd hm hs4 fm
  refine ev_iload d_Mo_split_307 rfl ?_
  refine ev_iload_n d_Mo_split_309 rfl rfl ?_
  refine ez_icmp_ge (tgt := 349) (by omega) (by omega) d_Mo_split_310 rfl (fun c310 => ?_) (fun c310 => ?_)
  · exact kk h q (by omega) hm hs4 fm
  · refine ev_aload_n d_Mo_split_313 rfl rfl ?_
    refine ev_getF d_Mo_split_314 fl_Mo_30 hm (by decide) f8 ?_
    refine ev_bipush (v := iZ 64) d_Mo_split_317 rfl ?_
    refine ev_iload_n d_Mo_split_319 rfl rfl ?_
    refine ez_imul d_Mo_split_320 ?_
    refine ev_bipush (v := iZ 64) d_Mo_split_321 rfl ?_
    refine ez_iadd d_Mo_split_323 ?_
    refine ev_iload d_Mo_split_324 rfl ?_
    refine ez_iadd d_Mo_split_326 ?_
    refine ev_iload d_Mo_split_327 rfl ?_
    refine ez_isub d_Mo_split_329 ?_
    refine ev_aload_n d_Mo_split_330 rfl rfl ?_
    refine ev_getF d_Mo_split_331 fl_Mo_30 hm (by decide) f8 ?_
    refine ev_bipush (v := iZ 64) d_Mo_split_334 rfl ?_
    refine ev_iload_n d_Mo_split_336 rfl rfl ?_
    refine ez_imul d_Mo_split_337 ?_
    refine ev_iload d_Mo_split_338 rfl ?_
    refine ez_iadd d_Mo_split_340 ?_
    refine ez_iaload (64 * i + f + q) d_Mo_split_341 hs4 (by omega) (by omega) (by decide) ?_
    refine ez_iastore (F' := zup (va_cpy T T (64 * i + f) (64 * i + 64) q) (64 * i + 64 + q) ((va_cpy T T (64 * i + f) (64 * i + 64) q) (64 * i + f + q))) (64 * i + 64 + q) d_Mo_split_342 hs4 (by omega) (by omega) (by decide) rfl (fun h1 h1a h1o => ?_)
    have hm := (h1o _ (cne hm hs4 (by simp))).trans hm
    have hs4 := h1a
    have fm := fm.step (by simp) h1o
    refine ez_iinc (L' := [(0, .ref m), (1, .int (iZ (i : Int))), (2, .int (iZ (j : Int))), (3, .int (iZ (z : Int))), (4, .int (iZ (f : Int))), (11, .long (lZ t)), (13, .int (iZ ((f + (q + 1) : Nat) : Int)))]) d_Mo_split_343 rfl (by decide) rfl ?_
    refine ev_goto (tgt := 307) d_Mo_split_346 rfl ?_
    exact ih (d - 1) (by omega) (q + 1) h1 (by omega) hm (by rw [← cpy_ss rfl rfl (by omega)]; exact hs4) fm
set_option maxHeartbeats 4000000 in
set_option maxRecDepth 100000 in
theorem c_Mo_splitB (G : GT) (h : HM) (σ : Nat → Value) (m s3 n : Nat) (S3 : Nat → Int) (i j : Int) (hm : h m = some (.inr (11, fsN 34 σ))) (f4 : σ 4 = .int (iZ (n : Int))) (f7 : σ 7 = .ref s3) (hs3 : h s3 = some (.inl (G_i G, 16, .inl (iA S3)))) (hn : n ≤ 16) (hZ : ∀ k, 0 ≤ S3 k ∧ S3 k ≤ 64) (hi : iR i) (hj : iR j) (hb : ¬ (0 ≤ i ∧ i < n ∧ 1 ≤ j ∧ j < S3 i.toNat)) : Rn G M_Mo_split (rm 1 40) [.ref m, .int (iZ i), .int (iZ j)] h (Pu (.int (iZ (-2))) h) := by
  refine rn_of (by decide) (Nat.le_of_ble_eq_true rfl) ?_
  show Ev G M_Mo_split _ _ 0 [(0, .ref m), (1, .int (iZ i)), (2, .int (iZ j))] [] _ 0 0
  refine ev_aload_n d_Mo_split_0 rfl rfl ?_
  refine ev_iload_n d_Mo_split_1 rfl rfl ?_
  have hr9 := hasZ_r (n : Int) i
  refine ev_pV M_Mo_isCue 0 0 (As := [.int (iZ i)]) (c_Mo_isCue G h σ m (n : Int) i hm f4 (by omega) (by omega)) d_Mo_split_2 mk_Mo_isCue ml_Mo_217 mv_Mo_isCue hm rfl rfl rfl (Nat.le_of_ble_eq_true rfl) ⟨by decide, by decide⟩ ⟨by decide, by decide⟩ ?_
  refine ez_if_eq (tgt := 41) (by omega) d_Mo_split_5 rfl (fun c5 => ?_) (fun c5 => ?_)
  · have z5 := hasZ_0 c5
    refine ev_bipush (v := iZ (-2)) d_Mo_split_41 rfl ?_
    exact ev_ireturn d_Mo_split_43 rfl (by decide) (by decide) (⟨rfl, rfl⟩)
  · have z5 := hasZ_1 c5
    refine ev_iload_n d_Mo_split_8 rfl rfl ?_
    refine ev_iconst (v := iZ 1) d_Mo_split_9 rfl ?_
    refine ez_icmp_lt (tgt := 41) (by omega) (by decide) d_Mo_split_10 rfl (fun c10 => ?_) (fun c10 => ?_)
    · refine ev_bipush (v := iZ (-2)) d_Mo_split_41 rfl ?_
      exact ev_ireturn d_Mo_split_43 rfl (by decide) (by decide) (⟨rfl, rfl⟩)
    · refine ev_iload_n d_Mo_split_13 rfl rfl ?_
      refine ev_aload_n d_Mo_split_14 rfl rfl ?_
      refine ev_getF d_Mo_split_15 fl_Mo_27 hm (by decide) f7 ?_
      refine ev_iload_n d_Mo_split_18 rfl rfl ?_
      refine ez_iaload i.toNat d_Mo_split_19 hs3 (by omega) (by omega) (by decide) ?_
      have z3 := hZ i.toNat
      have hb2 : ¬ (j < S3 i.toNat) := fun q => hb ⟨z5.1, z5.2, by omega, q⟩
      refine ez_icmp_ge (tgt := 41) (by omega) (by omega) d_Mo_split_20 rfl (fun c20 => ?_) (fun c20 => absurd c20 (by omega))
      refine ev_bipush (v := iZ (-2)) d_Mo_split_41 rfl ?_
      exact ev_ireturn d_Mo_split_43 rfl (by decide) (by decide) (⟨rfl, rfl⟩)
set_option maxHeartbeats 4000000 in
set_option maxRecDepth 100000 in
theorem c_Mo_split (G : GT) (h : HM) (σ : Nat → Value) (m s1 s2 s3 s4 k0 k1 k2 k3 k4 : Nat) (n c bk : Nat) (S1 S2 S3 S4 K0 K1 K2 K3 K4 : Nat → Int) (i j : Nat) (hm : h m = some (.inr (11, fsN 34 σ))) (f4 : σ 4 = .int (iZ (n : Int))) (f5 : σ 5 = .ref s1) (f6 : σ 6 = .ref s2) (f7 : σ 7 = .ref s3) (f8 : σ 8 = .ref s4) (f9 : σ 9 = .int (iZ (c : Int))) (f10 : σ 10 = .int (iZ (bk : Int))) (f11 : σ 11 = .ref k0) (f12 : σ 12 = .ref k1) (f13 : σ 13 = .ref k2) (f14 : σ 14 = .ref k3) (f15 : σ 15 = .ref k4) (hs1 : h s1 = some (.inl (G_j G, 16, .inr (.inl (lA S1))))) (hs2 : h s2 = some (.inl (G_j G, 16, .inr (.inl (lA S2))))) (hs3 : h s3 = some (.inl (G_i G, 16, .inl (iA S3)))) (hs4 : h s4 = some (.inl (G_i G, 1024, .inl (iA S4)))) (hk0 : h k0 = some (.inl (G_i G, 10, .inl (iA K0)))) (hk1 : h k1 = some (.inl (G_j G, 160, .inr (.inl (lA K1))))) (hk2 : h k2 = some (.inl (G_j G, 160, .inr (.inl (lA K2))))) (hk3 : h k3 = some (.inl (G_i G, 160, .inl (iA K3)))) (hk4 : h k4 = some (.inl (G_i G, 10240, .inl (iA K4)))) (hn : n ≤ 16) (hT : ∀ k, 0 ≤ S1 k ∧ S1 k ≤ 2540160000000) (hE : ∀ k, 0 ≤ S2 k ∧ S2 k ≤ 2540160000000) (hZ : ∀ k, 0 ≤ S3 k ∧ S3 k ≤ 64) (hB : ∀ k, 0 ≤ S4 k ∧ S4 k ≤ 255) (hi : i < n) (hj : 1 ≤ j ∧ (j : Int) < S3 i) (hc : c ≤ 1000) (hbk : bk ≤ 10) (n_s : s1 ≠ s2) (n_k : k1 ≠ k2) : Rn G M_Mo_split (rm 2 60) [.ref m, .int (iZ (i : Int)), .int (iZ (j : Int))] h (fun r h' => (spBad S1 S2 S3 S4 n i j → r = some (.int (iZ (-2))) ∧ h' = h) ∧ (¬ spBad S1 S2 S3 S4 n i j → n = 16 → r = some (.int (iZ (-3))) ∧ h' = h) ∧ (¬ spBad S1 S2 S3 S4 n i j → n < 16 → r = some (.int (iZ ((n + 1 : Nat) : Int))) ∧ (∃ σ', h' m = some (.inr (11, fsN 34 σ')) ∧ σ' 4 = .int (iZ ((n + 1 : Nat) : Int)) ∧ σ' 9 = .int (iZ ((c : Int) + 1)) ∧ σ' 10 = .int (iZ ((min (bk + 1) 10 : Nat) : Int)) ∧ Fs [4, 9, 10] σ σ') ∧ h' s1 = some (.inl (G_j G, 16, .inr (.inl (lA (spM (n, S1, S2, S3, S4) i j (spTm S1 S2 S3 S4 i j)).2.1)))) ∧ h' s2 = some (.inl (G_j G, 16, .inr (.inl (lA (spM (n, S1, S2, S3, S4) i j (spTm S1 S2 S3 S4 i j)).2.2.1)))) ∧ h' s3 = some (.inl (G_i G, 16, .inl (iA (spM (n, S1, S2, S3, S4) i j (spTm S1 S2 S3 S4 i j)).2.2.2.1))) ∧ h' s4 = some (.inl (G_i G, 1024, .inl (iA (spM (n, S1, S2, S3, S4) i j (spTm S1 S2 S3 S4 i j)).2.2.2.2))) ∧ h' k0 = some (.inl (G_i G, 10, .inl (iA (zup K0 (c % 10) n)))) ∧ h' k1 = some (.inl (G_j G, 160, .inr (.inl (lA (va_cpy S1 K1 0 (16 * (c % 10)) 16))))) ∧ h' k2 = some (.inl (G_j G, 160, .inr (.inl (lA (va_cpy S2 K2 0 (16 * (c % 10)) 16))))) ∧ h' k3 = some (.inl (G_i G, 160, .inl (iA (va_cpy S3 K3 0 (16 * (c % 10)) 16)))) ∧ h' k4 = some (.inl (G_i G, 10240, .inl (iA (va_cpy S4 K4 0 (1024 * (c % 10)) 1024)))) ∧ Fm [m, s1, s2, s3, s4, k0, k1, k2, k3, k4] h h')) := by
  refine rn_of (by decide) (Nat.le_of_ble_eq_true rfl) ?_
  show Ev G M_Mo_split _ _ 0 [(0, .ref m), (1, .int (iZ (i : Int))), (2, .int (iZ (j : Int)))] [] _ 0 0
  have fm : Fm [m, s1, s2, s3, s4, k0, k1, k2, k3, k4] h h := Fm.rf
  have fs : Fs [4, 9, 10] σ σ := Fs.rf
  have z0 := hZ i
  have t0 := hT i
  have e0 := hE i
  have t1 := hT (i + 1)
  have sr := spF_r S4 i j
  refine ev_aload_n d_Mo_split_0 rfl rfl ?_
  refine ev_iload_n d_Mo_split_1 rfl rfl ?_
  have hr9 := hasZ_r (n : Int) (i : Int)
  refine ev_pV M_Mo_isCue 0 0 (As := [.int (iZ (i : Int))]) (c_Mo_isCue G h σ m (n : Int) (i : Int) hm f4 (by omega) (by omega)) d_Mo_split_2 mk_Mo_isCue ml_Mo_217 mv_Mo_isCue hm rfl rfl rfl (Nat.le_of_ble_eq_true rfl) ⟨by decide, by decide⟩ ⟨by decide, by decide⟩ ?_
  refine ez_if_eq (tgt := 41) (by omega) d_Mo_split_5 rfl (fun c5 => ?_) (fun c5 => ?_)
  · have z5 := hasZ_0 c5
    omega
  · have z5 := hasZ_1 c5
    refine ev_iload_n d_Mo_split_8 rfl rfl ?_
    refine ev_iconst (v := iZ 1) d_Mo_split_9 rfl ?_
    refine ez_icmp_lt (tgt := 41) (by omega) (by decide) d_Mo_split_10 rfl (fun c10 => absurd c10 (by omega)) (fun c10 => ?_)
    refine ev_iload_n d_Mo_split_13 rfl rfl ?_
    refine ev_aload_n d_Mo_split_14 rfl rfl ?_
    refine ev_getF d_Mo_split_15 fl_Mo_27 hm (by decide) f7 ?_
    refine ev_iload_n d_Mo_split_18 rfl rfl ?_
    refine ez_iaload i d_Mo_split_19 hs3 (by omega) (by omega) (by decide) ?_
    refine ez_icmp_ge (tgt := 41) (by omega) (by omega) d_Mo_split_20 rfl (fun c20 => absurd c20 (by omega)) (fun c20 => ?_)
    refine ev_aload_n d_Mo_split_23 rfl rfl ?_
    refine ev_getF d_Mo_split_24 fl_Mo_30 hm (by decide) f8 ?_
    refine ev_bipush (v := iZ 64) d_Mo_split_27 rfl ?_
    refine ev_iload_n d_Mo_split_29 rfl rfl ?_
    refine ez_imul d_Mo_split_30 ?_
    refine ev_iload_n d_Mo_split_31 rfl rfl ?_
    refine ez_iadd d_Mo_split_32 ?_
    refine ev_iconst (v := iZ 1) d_Mo_split_33 rfl ?_
    refine ez_isub d_Mo_split_34 ?_
    refine ez_iaload (i * 64 + (j - 1)) d_Mo_split_35 hs4 (by omega) (by omega) (by decide) ?_
    have rb1 := hB (i * 64 + (j - 1))
    refine ev_bipush (v := iZ 10) d_Mo_split_36 rfl ?_
    refine ez_icmp_ne (tgt := 44) (by omega) (by decide) d_Mo_split_38 rfl (fun c38 => ?_) (fun c38 => ?_)
    · refine ev_aload_n d_Mo_split_44 rfl rfl ?_
      refine ev_getF d_Mo_split_45 fl_Mo_27 hm (by decide) f7 ?_
      refine ev_iload_n d_Mo_split_48 rfl rfl ?_
      refine ez_iaload i d_Mo_split_49 hs3 (by omega) (by omega) (by decide) ?_
      refine ev_top (((S3 i).toNat : Int)) (by omega) ?_
      skip
      refine ev_istore_n (L' := [(0, .ref m), (1, .int (iZ (i : Int))), (2, .int (iZ (j : Int))), (3, .int (iZ ((S3 i).toNat : Int)))]) d_Mo_split_50 rfl (by decide) rfl ?_
      refine ev_aload_n d_Mo_split_51 rfl rfl ?_
      refine ev_getF d_Mo_split_52 fl_Mo_30 hm (by decide) f8 ?_
      refine ev_bipush (v := iZ 64) d_Mo_split_55 rfl ?_
      refine ev_iload_n d_Mo_split_57 rfl rfl ?_
      refine ez_imul d_Mo_split_58 ?_
      refine ev_iload_n d_Mo_split_59 rfl rfl ?_
      refine ez_iadd d_Mo_split_60 ?_
      refine ez_iaload (i * 64 + j) d_Mo_split_61 hs4 (by omega) (by omega) (by decide) ?_
      have rb2 := hB (i * 64 + j)
      refine ev_bipush (v := iZ 10) d_Mo_split_62 rfl ?_
      refine ez_icmp_ne (tgt := 73) (by omega) (by decide) d_Mo_split_64 rfl (fun c64 => ?_) (fun c64 => ?_)
      · refine ev_iload_n d_Mo_split_73 rfl rfl ?_
        have e9 : spF S4 i j = j := if_neg (by omega)
        refine ev_top (((spF S4 i j : Nat) : Int)) (by omega) ?_
        refine ev_istore (L' := [(0, .ref m), (1, .int (iZ (i : Int))), (2, .int (iZ (j : Int))), (3, .int (iZ ((S3 i).toNat : Int))), (4, .int (iZ ((spF S4 i j : Nat) : Int)))]) d_Mo_split_74 (by decide) rfl ?_
        refine ev_aload_n d_Mo_split_76 rfl rfl ?_
        refine ev_iload_n d_Mo_split_77 rfl rfl ?_
        refine ev_iconst (v := iZ 0) d_Mo_split_78 rfl ?_
        refine ev_iload_n d_Mo_split_79 rfl rfl ?_
        refine ev_pV M_Mo_cells 1 22 (As := [.int (iZ (i : Int)), .int (iZ 0), .int (iZ (j : Int))]) (c_Mo_cells G h σ m s4 S4 hm f8 hs4 i 0 j (by omega) (by omega) hB) d_Mo_split_80 mk_Mo_cells ml_Mo_222 mv_Mo_cells hm rfl rfl rfl (Nat.le_of_ble_eq_true rfl) ⟨by decide, by decide⟩ ⟨by decide, by decide⟩ ?_
        refine ev_top (cellsN S4 (i * 64) j) (rfl) ?_
        have rl80 := cellsN_r S4 (i * 64) j
        refine ev_istore (L' := [(0, .ref m), (1, .int (iZ (i : Int))), (2, .int (iZ (j : Int))), (3, .int (iZ ((S3 i).toNat : Int))), (4, .int (iZ ((spF S4 i j : Nat) : Int))), (5, .int (iZ (cellsN S4 (i * 64) j)))]) d_Mo_split_83 (by decide) rfl ?_
        refine ev_iload d_Mo_split_85 rfl ?_
        refine ev_aload_n d_Mo_split_87 rfl rfl ?_
        refine ev_iload_n d_Mo_split_88 rfl rfl ?_
        refine ev_iload d_Mo_split_89 rfl ?_
        refine ev_iload_n d_Mo_split_91 rfl rfl ?_
        refine ev_pV M_Mo_cells 1 22 (As := [.int (iZ (i : Int)), .int (iZ ((spF S4 i j : Nat) : Int)), .int (iZ ((S3 i).toNat : Int))]) (c_Mo_cells G h σ m s4 S4 hm f8 hs4 i (spF S4 i j) (S3 i).toNat (by omega) (by omega) hB) d_Mo_split_92 mk_Mo_cells ml_Mo_222 mv_Mo_cells hm rfl rfl rfl (Nat.le_of_ble_eq_true rfl) ⟨by decide, by decide⟩ ⟨by decide, by decide⟩ ?_
        have rl92 := cellsN_r S4 (i * 64 + spF S4 i j) ((S3 i).toNat - spF S4 i j)
        refine ez_iadd d_Mo_split_95 ?_
        rw [show ((cellsN S4 (i * 64) j) + (cellsN S4 (i * 64 + (spF S4 i j)) ((S3 i).toNat - (spF S4 i j))) : Int) = cellsN S4 (i * 64) (S3 i).toNat from cells_sp (by omega)]
        have rla := cellsN_r S4 (i * 64) (S3 i).toNat
        refine ev_istore (L' := [(0, .ref m), (1, .int (iZ (i : Int))), (2, .int (iZ (j : Int))), (3, .int (iZ ((S3 i).toNat : Int))), (4, .int (iZ ((spF S4 i j : Nat) : Int))), (5, .int (iZ (cellsN S4 (i * 64) j))), (6, .int (iZ (cellsN S4 (i * 64) (S3 i).toNat)))]) d_Mo_split_96 (by decide) rfl ?_
        refine ev_iload d_Mo_split_98 rfl ?_
        refine ez_if_ne (tgt := 107) (by omega) d_Mo_split_100 rfl (fun c100 => ?_) (fun c100 => ?_)
        · refine ev_iload d_Mo_split_107 rfl ?_
          refine ez_i2l (by omega) d_Mo_split_109 ?_
          refine ev_lstore (L' := [(0, .ref m), (1, .int (iZ (i : Int))), (2, .int (iZ (j : Int))), (3, .int (iZ ((S3 i).toNat : Int))), (4, .int (iZ ((spF S4 i j : Nat) : Int))), (5, .int (iZ (cellsN S4 (i * 64) j))), (6, .int (iZ (cellsN S4 (i * 64) (S3 i).toNat))), (7, .long (lZ (cellsN S4 (i * 64) j)))]) d_Mo_split_110 (by decide) rfl ?_
          refine ev_iload d_Mo_split_112 rfl ?_
          refine ez_if_ne (tgt := 123) (by omega) d_Mo_split_114 rfl (fun c114 => ?_) (fun c114 => absurd c114 (by omega))
          refine ev_iload d_Mo_split_123 rfl ?_
          refine ez_i2l (by omega) d_Mo_split_125 ?_
          refine ev_lstore (L' := [(0, .ref m), (1, .int (iZ (i : Int))), (2, .int (iZ (j : Int))), (3, .int (iZ ((S3 i).toNat : Int))), (4, .int (iZ ((spF S4 i j : Nat) : Int))), (5, .int (iZ (cellsN S4 (i * 64) j))), (6, .int (iZ (cellsN S4 (i * 64) (S3 i).toNat))), (7, .long (lZ (cellsN S4 (i * 64) j))), (9, .long (lZ (cellsN S4 (i * 64) (S3 i).toNat)))]) d_Mo_split_126 (by decide) rfl ?_
          refine ev_aload_n d_Mo_split_128 rfl rfl ?_
          refine ev_getF d_Mo_split_129 fl_Mo_20 hm (by decide) f5 ?_
          refine ev_iload_n d_Mo_split_132 rfl rfl ?_
          refine ez_laload i d_Mo_split_133 hs1 (by omega) (by omega) (by decide) ?_
          refine ev_lload d_Mo_split_134 rfl ?_
          refine ez_lmul d_Mo_split_136 ?_
          refine ev_aload_n d_Mo_split_137 rfl rfl ?_
          refine ev_getF d_Mo_split_138 fl_Mo_24 hm (by decide) f6 ?_
          refine ev_iload_n d_Mo_split_141 rfl rfl ?_
          refine ez_laload i d_Mo_split_142 hs2 (by omega) (by omega) (by decide) ?_
          refine ev_aload_n d_Mo_split_143 rfl rfl ?_
          refine ev_getF d_Mo_split_144 fl_Mo_20 hm (by decide) f5 ?_
          refine ev_iload_n d_Mo_split_147 rfl rfl ?_
          refine ez_laload i d_Mo_split_148 hs1 (by omega) (by omega) (by decide) ?_
          refine ez_lsub d_Mo_split_149 ?_
          refine ev_lload d_Mo_split_150 rfl ?_
          refine ez_lmul d_Mo_split_152 ?_
          refine ez_ladd d_Mo_split_153 ?_
          refine ev_lload d_Mo_split_154 rfl ?_
          have m1 := mulB (x := S1 i) (y := cellsN S4 (i * 64) (S3 i).toNat) (L := 2540160000000) (M := 128) (by omega) (by omega) (by omega) (by omega)
          have m2 := mulB (x := S2 i - S1 i) (y := cellsN S4 (i * 64) j) (L := 2540160000000) (M := 128) (by omega) (by omega) (by omega) (by omega)
          refine ev_pS M_Mo_nearest 0 0 (As := [.long (lZ (((S1 i) * (cellsN S4 (i * 64) (S3 i).toNat)) + (((S2 i) - (S1 i)) * (cellsN S4 (i * 64) j)))), .long (lZ (cellsN S4 (i * 64) (S3 i).toNat))]) (c_Mo_nearest G h _ _ (by omega) (by omega)) d_Mo_split_156 mk_Mo_nearest ml_Mo_189 ms_Mo_nearest rfl rfl (Nat.le_of_ble_eq_true rfl) ⟨by decide, by decide⟩ ⟨by decide, by decide⟩ ?_
          refine ev_topl (spTm S1 S2 S3 S4 i j) (Eq.symm (if_neg (by omega))) ?_
          have rt : -1000000000000000 ≤ spTm S1 S2 S3 S4 i j ∧ spTm S1 S2 S3 S4 i j ≤ 1000000000000000 := splT_r (hT i) (hE i) (by omega) (by omega)
          refine ev_lstore (L' := [(0, .ref m), (1, .int (iZ (i : Int))), (2, .int (iZ (j : Int))), (3, .int (iZ ((S3 i).toNat : Int))), (4, .int (iZ ((spF S4 i j : Nat) : Int))), (5, .int (iZ (cellsN S4 (i * 64) j))), (6, .int (iZ (cellsN S4 (i * 64) (S3 i).toNat))), (7, .long (lZ (cellsN S4 (i * 64) j))), (9, .long (lZ (cellsN S4 (i * 64) (S3 i).toNat))), (11, .long (lZ (spTm S1 S2 S3 S4 i j)))]) d_Mo_split_159 (by decide) rfl ?_
          refine ev_lload d_Mo_split_161 rfl ?_
          refine ev_aload_n d_Mo_split_163 rfl rfl ?_
          refine ev_getF d_Mo_split_164 fl_Mo_20 hm (by decide) f5 ?_
          refine ev_iload_n d_Mo_split_167 rfl rfl ?_
          refine ez_laload i d_Mo_split_168 hs1 (by omega) (by omega) (by decide) ?_
          refine ev_lcmp d_Mo_split_169 ?_
          refine ez_lif_le (tgt := 209) (by omega) (by omega) d_Mo_split_170 rfl (fun c170 => ?_) (fun c170 => ?_)
          · refine ev_bipush (v := iZ (-2)) d_Mo_split_209 rfl ?_
            exact ev_ireturn d_Mo_split_211 rfl (by decide) (by decide) (⟨fun _ => ⟨rfl, rfl⟩, fun q => absurd (Or.inr (by first | exact Or.inl (by omega) | exact Or.inr (Or.inl (by omega)) | exact Or.inr (Or.inr ⟨by omega, by omega⟩))) q, fun q => absurd (Or.inr (by first | exact Or.inl (by omega) | exact Or.inr (Or.inl (by omega)) | exact Or.inr (Or.inr ⟨by omega, by omega⟩))) q⟩)
          · refine ev_lload d_Mo_split_173 rfl ?_
            refine ev_aload_n d_Mo_split_175 rfl rfl ?_
            refine ev_getF d_Mo_split_176 fl_Mo_24 hm (by decide) f6 ?_
            refine ev_iload_n d_Mo_split_179 rfl rfl ?_
            refine ez_laload i d_Mo_split_180 hs2 (by omega) (by omega) (by decide) ?_
            refine ev_lcmp d_Mo_split_181 ?_
            refine ez_lif_ge (tgt := 209) (by omega) (by omega) d_Mo_split_182 rfl (fun c182 => ?_) (fun c182 => ?_)
            · refine ev_bipush (v := iZ (-2)) d_Mo_split_209 rfl ?_
              exact ev_ireturn d_Mo_split_211 rfl (by decide) (by decide) (⟨fun _ => ⟨rfl, rfl⟩, fun q => absurd (Or.inr (by first | exact Or.inl (by omega) | exact Or.inr (Or.inl (by omega)) | exact Or.inr (Or.inr ⟨by omega, by omega⟩))) q, fun q => absurd (Or.inr (by first | exact Or.inl (by omega) | exact Or.inr (Or.inl (by omega)) | exact Or.inr (Or.inr ⟨by omega, by omega⟩))) q⟩)
            · refine ev_iload_n d_Mo_split_185 rfl rfl ?_
              refine ev_iconst (v := iZ 1) d_Mo_split_186 rfl ?_
              refine ez_iadd d_Mo_split_187 ?_
              refine ev_aload_n d_Mo_split_188 rfl rfl ?_
              refine ev_getF d_Mo_split_189 fl_Mo_92 hm (by decide) f4 ?_
              refine ez_icmp_ge (tgt := 212) (by omega) (by omega) d_Mo_split_192 rfl (fun c192 => ?_) (fun c192 => ?_)
              · refine ev_aload_n d_Mo_split_212 rfl rfl ?_
                refine ev_getF d_Mo_split_213 fl_Mo_92 hm (by decide) f4 ?_
                refine ev_bipush (v := iZ 16) d_Mo_split_216 rfl ?_
                refine ez_icmp_ne (tgt := 224) (by omega) (by decide) d_Mo_split_218 rfl (fun c218 => ?_) (fun c218 => ?_)
                · refine ev_aload_n d_Mo_split_224 rfl rfl ?_
                  refine ev_callV M_Mo_keep (rm 0 0) _ (As := []) (c_Mo_keep G h σ m s1 s2 s3 s4 k0 k1 k2 k3 k4 n c bk S1 S2 S3 S4 K0 K1 K2 K3 K4 hm f4 f5 f6 f7 f8 f9 f10 f11 f12 f13 f14 f15 hs1 hs2 hs3 hs4 hk0 hk1 hk2 hk3 hk4 hc hbk n_s n_k) d_Mo_split_225 mk_Mo_keep ml_Mo_176 mv_Mo_keep hm rfl rfl rfl (Nat.le_of_ble_eq_true rfl) ⟨by decide, by decide⟩ ⟨by decide, by decide⟩ (fun r h8 hq => ?_)
                  obtain ⟨rfl, ⟨σ9, gm, g9, g10, gs⟩, gk0, gk1, gk2, gk3, gk4, fmk⟩ := hq
                  have hs1 := (fmk _ (ninc (cne hs1 hm (by simp)) (ninc (cne hs1 hk0 (by simp)) (ninc (cne hs1 hk1 (by simp)) (ninc (cne hs1 hk2 (by simp)) (ninc (cne hs1 hk3 (by simp)) (ninc (cne hs1 hk4 (by simp)) nin0))))))).trans hs1
                  have hs2 := (fmk _ (ninc (cne hs2 hm (by simp)) (ninc (cne hs2 hk0 (by simp)) (ninc (cne hs2 hk1 (by simp)) (ninc (cne hs2 hk2 (by simp)) (ninc (cne hs2 hk3 (by simp)) (ninc (cne hs2 hk4 (by simp)) nin0))))))).trans hs2
                  have hs3 := (fmk _ (ninc (cne hs3 hm (by simp)) (ninc (cne hs3 hk0 (by simp)) (ninc (cne hs3 hk1 (by simp)) (ninc (cne hs3 hk2 (by simp)) (ninc (cne hs3 hk3 (by simp)) (ninc (cne hs3 hk4 (by simp)) nin0))))))).trans hs3
                  have hs4 := (fmk _ (ninc (cne hs4 hm (by simp)) (ninc (cne hs4 hk0 (by simp)) (ninc (cne hs4 hk1 (by simp)) (ninc (cne hs4 hk2 (by simp)) (ninc (cne hs4 hk3 (by simp)) (ninc (cne hs4 hk4 (by simp)) nin0))))))).trans hs4
                  have hm := gm
                  have hk0 := gk0
                  have hk1 := gk1
                  have hk2 := gk2
                  have hk3 := gk3
                  have hk4 := gk4
                  have f4 := (gs 4 (by decide)).trans f4
                  have f5 := (gs 5 (by decide)).trans f5
                  have f6 := (gs 6 (by decide)).trans f6
                  have f7 := (gs 7 (by decide)).trans f7
                  have f8 := (gs 8 (by decide)).trans f8
                  have f11 := (gs 11 (by decide)).trans f11
                  have f12 := (gs 12 (by decide)).trans f12
                  have f13 := (gs 13 (by decide)).trans f13
                  have f14 := (gs 14 (by decide)).trans f14
                  have f15 := (gs 15 (by decide)).trans f15
                  have f9 := g9
                  have f10 := g10
                  have fm := fm.call (by simp) fmk
                  have fs := fs.call (by simp) gs
                  refine ev_aload_n d_Mo_split_228 rfl rfl ?_
                  refine ev_getF d_Mo_split_229 fl_Mo_92 hm (by decide) f4 ?_
                  refine ev_istore (L' := [(0, .ref m), (1, .int (iZ (i : Int))), (2, .int (iZ (j : Int))), (3, .int (iZ ((S3 i).toNat : Int))), (4, .int (iZ ((spF S4 i j : Nat) : Int))), (5, .int (iZ (cellsN S4 (i * 64) j))), (6, .int (iZ (cellsN S4 (i * 64) (S3 i).toNat))), (7, .long (lZ (cellsN S4 (i * 64) j))), (9, .long (lZ (cellsN S4 (i * 64) (S3 i).toNat))), (11, .long (lZ (spTm S1 S2 S3 S4 i j))), (13, .int (iZ (n : Int)))]) d_Mo_split_232 (by decide) rfl ?_
                  refine ev_loc [(0, .ref m), (1, .int (iZ (i : Int))), (2, .int (iZ (j : Int))), (3, .int (iZ ((S3 i).toNat : Int))), (4, .int (iZ ((spF S4 i j : Nat) : Int))), (11, .long (lZ (spTm S1 S2 S3 S4 i j))), (13, .int (iZ (n : Int)))] (by simp) ?_
                  refine lp_Mo_sp1 G _ h8 i j (S3 i).toNat (spF S4 i j) n (spTm S1 S2 S3 S4 i j) hi (by omega) σ9 m s1 s2 s3 s4 S1 S2 S3 S4 f4 f5 f6 f7 f8 n_s ?_ (n - i) n h8 (by omega) (by omega) hm (by rw [Nat.sub_self, cpy_z]; exact hs1) (by rw [Nat.sub_self, cpy_z]; exact hs2) (by rw [Nat.sub_self, cpy_z]; exact hs3) (by rw [Nat.sub_self, Nat.mul_zero, cpy_z]; exact hs4) Fm.rf
                  have jm := hm
                  have js1 := hs1
                  have js2 := hs2
                  have js3 := hs3
                  have js4 := hs4
                  have jk0 := hk0
                  have jk1 := hk1
                  have jk2 := hk2
                  have jk3 := hk3
                  have jk4 := hk4
                  rintro h10 k rfl hm hs1 hs2 hs3 hs4 fm2
                  have hk0 := (fm2 _ (ninc (cne jk0 js1 (by simp)) (ninc (cne jk0 js2 (by simp)) (ninc (cne jk0 js3 (by simp)) (ninc (cne jk0 js4 (by simp)) nin0))))).trans jk0
                  have hk1 := (fm2 _ (ninc (cne jk1 js1 (by simp)) (ninc (cne jk1 js2 (by simp)) (ninc (cne jk1 js3 (by simp)) (ninc (cne jk1 js4 (by simp)) nin0))))).trans jk1
                  have hk2 := (fm2 _ (ninc (cne jk2 js1 (by simp)) (ninc (cne jk2 js2 (by simp)) (ninc (cne jk2 js3 (by simp)) (ninc (cne jk2 js4 (by simp)) nin0))))).trans jk2
                  have hk3 := (fm2 _ (ninc (cne jk3 js1 (by simp)) (ninc (cne jk3 js2 (by simp)) (ninc (cne jk3 js3 (by simp)) (ninc (cne jk3 js4 (by simp)) nin0))))).trans jk3
                  have hk4 := (fm2 _ (ninc (cne jk4 js1 (by simp)) (ninc (cne jk4 js2 (by simp)) (ninc (cne jk4 js3 (by simp)) (ninc (cne jk4 js4 (by simp)) nin0))))).trans jk4
                  have fm := fm.call (by simp) fm2
                  refine ev_aload_n d_Mo_split_256 rfl rfl ?_
                  refine ev_dup d_Mo_split_257 rfl ?_
                  refine ev_getF d_Mo_split_258 fl_Mo_92 hm (by decide) f4 ?_
                  refine ev_iconst (v := iZ 1) d_Mo_split_261 rfl ?_
                  refine ez_iadd d_Mo_split_262 ?_
                  rw [show ((n : Int) + 1 : Int) = ((n + 1 : Nat) : Int) from by omega]
                  refine ev_putF2 d_Mo_split_263 fw_Mo_92 (Or.inr (fun _ _ _ q => by cases q; rfl)) hm (by decide) rfl rfl (fun h1 σ2 h1a σ2j σ2o h1o => ?_)
                  have f5 := (σ2o 5 (by decide)).trans f5
                  have f6 := (σ2o 6 (by decide)).trans f6
                  have f7 := (σ2o 7 (by decide)).trans f7
                  have f8 := (σ2o 8 (by decide)).trans f8
                  have f9 := (σ2o 9 (by decide)).trans f9
                  have f10 := (σ2o 10 (by decide)).trans f10
                  have f11 := (σ2o 11 (by decide)).trans f11
                  have f12 := (σ2o 12 (by decide)).trans f12
                  have f13 := (σ2o 13 (by decide)).trans f13
                  have f14 := (σ2o 14 (by decide)).trans f14
                  have f15 := (σ2o 15 (by decide)).trans f15
                  have f4 := σ2j
                  have fs := fs.step (by simp) σ2o
                  have hs1 := (h1o _ (cne hs1 hm (by simp))).trans hs1
                  have hs2 := (h1o _ (cne hs2 hm (by simp))).trans hs2
                  have hs3 := (h1o _ (cne hs3 hm (by simp))).trans hs3
                  have hs4 := (h1o _ (cne hs4 hm (by simp))).trans hs4
                  have hk0 := (h1o _ (cne hk0 hm (by simp))).trans hk0
                  have hk1 := (h1o _ (cne hk1 hm (by simp))).trans hk1
                  have hk2 := (h1o _ (cne hk2 hm (by simp))).trans hk2
                  have hk3 := (h1o _ (cne hk3 hm (by simp))).trans hk3
                  have hk4 := (h1o _ (cne hk4 hm (by simp))).trans hk4
                  have hm := h1a
                  have fm := fm.step (by simp) h1o
                  refine ev_aload_n d_Mo_split_266 rfl rfl ?_
                  refine ev_getF d_Mo_split_267 fl_Mo_27 hm (by decide) f7 ?_
                  refine ev_iload_n d_Mo_split_270 rfl rfl ?_
                  refine ev_iload_n d_Mo_split_271 rfl rfl ?_
                  refine ez_iastore (F' := zup (va_cpy S3 S3 k (k + 1) (n - k)) k (j : Int)) k d_Mo_split_272 hs3 (by omega) (by omega) (by decide) rfl (fun h3 h3a h3o => ?_)
                  have hm := (h3o _ (cne hm hs3 (by simp))).trans hm
                  have hs1 := (h3o _ (cne hs1 hs3 (by simp))).trans hs1
                  have hs2 := (h3o _ (cne hs2 hs3 (by simp))).trans hs2
                  have hs4 := (h3o _ (cne hs4 hs3 (by simp))).trans hs4
                  have hk0 := (h3o _ (cne hk0 hs3 (by simp))).trans hk0
                  have hk1 := (h3o _ (cne hk1 hs3 (by simp))).trans hk1
                  have hk2 := (h3o _ (cne hk2 hs3 (by simp))).trans hk2
                  have hk3 := (h3o _ (cne hk3 hs3 (by simp))).trans hk3
                  have hk4 := (h3o _ (cne hk4 hs3 (by simp))).trans hk4
                  have hs3 := h3a
                  have fm := fm.step (by simp) h3o
                  refine ev_aload_n d_Mo_split_273 rfl rfl ?_
                  refine ev_getF d_Mo_split_274 fl_Mo_24 hm (by decide) f6 ?_
                  refine ev_iload_n d_Mo_split_277 rfl rfl ?_
                  refine ev_lload d_Mo_split_278 rfl ?_
                  refine ez_lastore (F' := zup (va_cpy S2 S2 k (k + 1) (n - k)) k (spTm S1 S2 S3 S4 k j)) k d_Mo_split_280 hs2 (by omega) (by omega) (by decide) rfl (fun h4 h4a h4o => ?_)
                  have hm := (h4o _ (cne hm hs2 (by simp))).trans hm
                  have hs1 := (h4o _ n_s).trans hs1
                  have hs3 := (h4o _ (cne hs3 hs2 (by simp))).trans hs3
                  have hs4 := (h4o _ (cne hs4 hs2 (by simp))).trans hs4
                  have hk0 := (h4o _ (cne hk0 hs2 (by simp))).trans hk0
                  have hk1 := (h4o _ (cne hk1 hs2 (by simp))).trans hk1
                  have hk2 := (h4o _ (cne hk2 hs2 (by simp))).trans hk2
                  have hk3 := (h4o _ (cne hk3 hs2 (by simp))).trans hk3
                  have hk4 := (h4o _ (cne hk4 hs2 (by simp))).trans hk4
                  have hs2 := h4a
                  have fm := fm.step (by simp) h4o
                  refine ev_aload_n d_Mo_split_281 rfl rfl ?_
                  refine ev_getF d_Mo_split_282 fl_Mo_20 hm (by decide) f5 ?_
                  refine ev_iload_n d_Mo_split_285 rfl rfl ?_
                  refine ev_iconst (v := iZ 1) d_Mo_split_286 rfl ?_
                  refine ez_iadd d_Mo_split_287 ?_
                  refine ev_lload d_Mo_split_288 rfl ?_
                  refine ez_lastore (F' := zup (va_cpy S1 S1 k (k + 1) (n - k)) (k + 1) (spTm S1 S2 S3 S4 k j)) (k + 1) d_Mo_split_290 hs1 (by omega) (by omega) (by decide) rfl (fun h5 h5a h5o => ?_)
                  have hm := (h5o _ (cne hm hs1 (by simp))).trans hm
                  have hs2 := (h5o _ (Ne.symm n_s)).trans hs2
                  have hs3 := (h5o _ (cne hs3 hs1 (by simp))).trans hs3
                  have hs4 := (h5o _ (cne hs4 hs1 (by simp))).trans hs4
                  have hk0 := (h5o _ (cne hk0 hs1 (by simp))).trans hk0
                  have hk1 := (h5o _ (cne hk1 hs1 (by simp))).trans hk1
                  have hk2 := (h5o _ (cne hk2 hs1 (by simp))).trans hk2
                  have hk3 := (h5o _ (cne hk3 hs1 (by simp))).trans hk3
                  have hk4 := (h5o _ (cne hk4 hs1 (by simp))).trans hk4
                  have hs1 := h5a
                  have fm := fm.step (by simp) h5o
                  refine ev_aload_n d_Mo_split_291 rfl rfl ?_
                  refine ev_getF d_Mo_split_292 fl_Mo_27 hm (by decide) f7 ?_
                  refine ev_iload_n d_Mo_split_295 rfl rfl ?_
                  refine ev_iconst (v := iZ 1) d_Mo_split_296 rfl ?_
                  refine ez_iadd d_Mo_split_297 ?_
                  refine ev_iload_n d_Mo_split_298 rfl rfl ?_
                  refine ev_iload d_Mo_split_299 rfl ?_
                  refine ez_isub d_Mo_split_301 ?_
                  refine ez_iastore (F' := zup (zup (va_cpy S3 S3 k (k + 1) (n - k)) k (j : Int)) (k + 1) (((S3 k).toNat : Int) - ((spF S4 k j : Nat) : Int))) (k + 1) d_Mo_split_302 hs3 (by omega) (by omega) (by decide) rfl (fun h6 h6a h6o => ?_)
                  have hm := (h6o _ (cne hm hs3 (by simp))).trans hm
                  have hs1 := (h6o _ (cne hs1 hs3 (by simp))).trans hs1
                  have hs2 := (h6o _ (cne hs2 hs3 (by simp))).trans hs2
                  have hs4 := (h6o _ (cne hs4 hs3 (by simp))).trans hs4
                  have hk0 := (h6o _ (cne hk0 hs3 (by simp))).trans hk0
                  have hk1 := (h6o _ (cne hk1 hs3 (by simp))).trans hk1
                  have hk2 := (h6o _ (cne hk2 hs3 (by simp))).trans hk2
                  have hk3 := (h6o _ (cne hk3 hs3 (by simp))).trans hk3
                  have hk4 := (h6o _ (cne hk4 hs3 (by simp))).trans hk4
                  have hs3 := h6a
                  have fm := fm.step (by simp) h6o
                  refine ev_iload d_Mo_split_303 rfl ?_
                  refine ev_istore (L' := [(0, .ref m), (1, .int (iZ (k : Int))), (2, .int (iZ (j : Int))), (3, .int (iZ ((S3 k).toNat : Int))), (4, .int (iZ ((spF S4 k j : Nat) : Int))), (11, .long (lZ (spTm S1 S2 S3 S4 k j))), (13, .int (iZ ((spF S4 k j : Nat) : Int)))]) d_Mo_split_305 (by decide) rfl ?_
                  refine lp_Mo_sp2 G _ h6 k j (S3 k).toNat (spF S4 k j) (spTm S1 S2 S3 S4 k j) (by omega) (by omega) σ2 m s4 (va_cpy S4 S4 (64 * k) (64 * (k + 1)) (64 * (n - k))) f8 ?_ ((S3 k).toNat - spF S4 k j) 0 h6 (by omega) hm (by rw [cpy_z]; exact hs4) Fm.rf
                  have jm := hm
                  have js1 := hs1
                  have js2 := hs2
                  have js3 := hs3
                  have js4 := hs4
                  have jk0 := hk0
                  have jk1 := hk1
                  have jk2 := hk2
                  have jk3 := hk3
                  have jk4 := hk4
                  rintro h20 q rfl hm hs4 fm2
                  have hs1 := (fm2 _ (ninc (cne js1 js4 (by simp)) nin0)).trans js1
                  have hs2 := (fm2 _ (ninc (cne js2 js4 (by simp)) nin0)).trans js2
                  have hs3 := (fm2 _ (ninc (cne js3 js4 (by simp)) nin0)).trans js3
                  have hk0 := (fm2 _ (ninc (cne jk0 js4 (by simp)) nin0)).trans jk0
                  have hk1 := (fm2 _ (ninc (cne jk1 js4 (by simp)) nin0)).trans jk1
                  have hk2 := (fm2 _ (ninc (cne jk2 js4 (by simp)) nin0)).trans jk2
                  have hk3 := (fm2 _ (ninc (cne jk3 js4 (by simp)) nin0)).trans jk3
                  have hk4 := (fm2 _ (ninc (cne jk4 js4 (by simp)) nin0)).trans jk4
                  have fm := fm.call (by simp) fm2
                  refine ev_aload_n d_Mo_split_349 rfl rfl ?_
                  refine ev_getF d_Mo_split_350 fl_Mo_92 hm (by decide) f4 ?_
                  exact ev_ireturn d_Mo_split_353 rfl (by decide) (by decide) (⟨fun q => absurd q (fun q => by rcases q with q | q | q | q <;> omega), fun _ q => absurd q (by omega), fun _ _ => ⟨rfl, ⟨σ2, hm, f4, f9, f10, fs⟩, hs1, hs2, hs3, hs4, hk0, hk1, hk2, hk3, hk4, fm⟩⟩)
                · refine ev_bipush (v := iZ (-3)) d_Mo_split_221 rfl ?_
                  exact ev_ireturn d_Mo_split_223 rfl (by decide) (by decide) (⟨fun q => absurd q (fun q => by rcases q with q | q | q | q <;> omega), fun _ _ => ⟨rfl, rfl⟩, fun _ q => absurd q (by omega)⟩)
              · refine ev_aload_n d_Mo_split_195 rfl rfl ?_
                refine ev_getF d_Mo_split_196 fl_Mo_20 hm (by decide) f5 ?_
                refine ev_iload_n d_Mo_split_199 rfl rfl ?_
                refine ev_iconst (v := iZ 1) d_Mo_split_200 rfl ?_
                refine ez_iadd d_Mo_split_201 ?_
                refine ez_laload (i + 1) d_Mo_split_202 hs1 (by omega) (by omega) (by decide) ?_
                refine ev_lload d_Mo_split_203 rfl ?_
                refine ev_lcmp d_Mo_split_205 ?_
                refine ez_lif_ge (tgt := 212) (by omega) (by omega) d_Mo_split_206 rfl (fun c206 => ?_) (fun c206 => ?_)
                · refine ev_aload_n d_Mo_split_212 rfl rfl ?_
                  refine ev_getF d_Mo_split_213 fl_Mo_92 hm (by decide) f4 ?_
                  refine ev_bipush (v := iZ 16) d_Mo_split_216 rfl ?_
                  refine ez_icmp_ne (tgt := 224) (by omega) (by decide) d_Mo_split_218 rfl (fun c218 => ?_) (fun c218 => ?_)
                  · refine ev_aload_n d_Mo_split_224 rfl rfl ?_
                    refine ev_callV M_Mo_keep (rm 0 0) _ (As := []) (c_Mo_keep G h σ m s1 s2 s3 s4 k0 k1 k2 k3 k4 n c bk S1 S2 S3 S4 K0 K1 K2 K3 K4 hm f4 f5 f6 f7 f8 f9 f10 f11 f12 f13 f14 f15 hs1 hs2 hs3 hs4 hk0 hk1 hk2 hk3 hk4 hc hbk n_s n_k) d_Mo_split_225 mk_Mo_keep ml_Mo_176 mv_Mo_keep hm rfl rfl rfl (Nat.le_of_ble_eq_true rfl) ⟨by decide, by decide⟩ ⟨by decide, by decide⟩ (fun r h8 hq => ?_)
                    obtain ⟨rfl, ⟨σ9, gm, g9, g10, gs⟩, gk0, gk1, gk2, gk3, gk4, fmk⟩ := hq
                    have hs1 := (fmk _ (ninc (cne hs1 hm (by simp)) (ninc (cne hs1 hk0 (by simp)) (ninc (cne hs1 hk1 (by simp)) (ninc (cne hs1 hk2 (by simp)) (ninc (cne hs1 hk3 (by simp)) (ninc (cne hs1 hk4 (by simp)) nin0))))))).trans hs1
                    have hs2 := (fmk _ (ninc (cne hs2 hm (by simp)) (ninc (cne hs2 hk0 (by simp)) (ninc (cne hs2 hk1 (by simp)) (ninc (cne hs2 hk2 (by simp)) (ninc (cne hs2 hk3 (by simp)) (ninc (cne hs2 hk4 (by simp)) nin0))))))).trans hs2
                    have hs3 := (fmk _ (ninc (cne hs3 hm (by simp)) (ninc (cne hs3 hk0 (by simp)) (ninc (cne hs3 hk1 (by simp)) (ninc (cne hs3 hk2 (by simp)) (ninc (cne hs3 hk3 (by simp)) (ninc (cne hs3 hk4 (by simp)) nin0))))))).trans hs3
                    have hs4 := (fmk _ (ninc (cne hs4 hm (by simp)) (ninc (cne hs4 hk0 (by simp)) (ninc (cne hs4 hk1 (by simp)) (ninc (cne hs4 hk2 (by simp)) (ninc (cne hs4 hk3 (by simp)) (ninc (cne hs4 hk4 (by simp)) nin0))))))).trans hs4
                    have hm := gm
                    have hk0 := gk0
                    have hk1 := gk1
                    have hk2 := gk2
                    have hk3 := gk3
                    have hk4 := gk4
                    have f4 := (gs 4 (by decide)).trans f4
                    have f5 := (gs 5 (by decide)).trans f5
                    have f6 := (gs 6 (by decide)).trans f6
                    have f7 := (gs 7 (by decide)).trans f7
                    have f8 := (gs 8 (by decide)).trans f8
                    have f11 := (gs 11 (by decide)).trans f11
                    have f12 := (gs 12 (by decide)).trans f12
                    have f13 := (gs 13 (by decide)).trans f13
                    have f14 := (gs 14 (by decide)).trans f14
                    have f15 := (gs 15 (by decide)).trans f15
                    have f9 := g9
                    have f10 := g10
                    have fm := fm.call (by simp) fmk
                    have fs := fs.call (by simp) gs
                    refine ev_aload_n d_Mo_split_228 rfl rfl ?_
                    refine ev_getF d_Mo_split_229 fl_Mo_92 hm (by decide) f4 ?_
                    refine ev_istore (L' := [(0, .ref m), (1, .int (iZ (i : Int))), (2, .int (iZ (j : Int))), (3, .int (iZ ((S3 i).toNat : Int))), (4, .int (iZ ((spF S4 i j : Nat) : Int))), (5, .int (iZ (cellsN S4 (i * 64) j))), (6, .int (iZ (cellsN S4 (i * 64) (S3 i).toNat))), (7, .long (lZ (cellsN S4 (i * 64) j))), (9, .long (lZ (cellsN S4 (i * 64) (S3 i).toNat))), (11, .long (lZ (spTm S1 S2 S3 S4 i j))), (13, .int (iZ (n : Int)))]) d_Mo_split_232 (by decide) rfl ?_
                    refine ev_loc [(0, .ref m), (1, .int (iZ (i : Int))), (2, .int (iZ (j : Int))), (3, .int (iZ ((S3 i).toNat : Int))), (4, .int (iZ ((spF S4 i j : Nat) : Int))), (11, .long (lZ (spTm S1 S2 S3 S4 i j))), (13, .int (iZ (n : Int)))] (by simp) ?_
                    refine lp_Mo_sp1 G _ h8 i j (S3 i).toNat (spF S4 i j) n (spTm S1 S2 S3 S4 i j) hi (by omega) σ9 m s1 s2 s3 s4 S1 S2 S3 S4 f4 f5 f6 f7 f8 n_s ?_ (n - i) n h8 (by omega) (by omega) hm (by rw [Nat.sub_self, cpy_z]; exact hs1) (by rw [Nat.sub_self, cpy_z]; exact hs2) (by rw [Nat.sub_self, cpy_z]; exact hs3) (by rw [Nat.sub_self, Nat.mul_zero, cpy_z]; exact hs4) Fm.rf
                    have jm := hm
                    have js1 := hs1
                    have js2 := hs2
                    have js3 := hs3
                    have js4 := hs4
                    have jk0 := hk0
                    have jk1 := hk1
                    have jk2 := hk2
                    have jk3 := hk3
                    have jk4 := hk4
                    rintro h10 k rfl hm hs1 hs2 hs3 hs4 fm2
                    have hk0 := (fm2 _ (ninc (cne jk0 js1 (by simp)) (ninc (cne jk0 js2 (by simp)) (ninc (cne jk0 js3 (by simp)) (ninc (cne jk0 js4 (by simp)) nin0))))).trans jk0
                    have hk1 := (fm2 _ (ninc (cne jk1 js1 (by simp)) (ninc (cne jk1 js2 (by simp)) (ninc (cne jk1 js3 (by simp)) (ninc (cne jk1 js4 (by simp)) nin0))))).trans jk1
                    have hk2 := (fm2 _ (ninc (cne jk2 js1 (by simp)) (ninc (cne jk2 js2 (by simp)) (ninc (cne jk2 js3 (by simp)) (ninc (cne jk2 js4 (by simp)) nin0))))).trans jk2
                    have hk3 := (fm2 _ (ninc (cne jk3 js1 (by simp)) (ninc (cne jk3 js2 (by simp)) (ninc (cne jk3 js3 (by simp)) (ninc (cne jk3 js4 (by simp)) nin0))))).trans jk3
                    have hk4 := (fm2 _ (ninc (cne jk4 js1 (by simp)) (ninc (cne jk4 js2 (by simp)) (ninc (cne jk4 js3 (by simp)) (ninc (cne jk4 js4 (by simp)) nin0))))).trans jk4
                    have fm := fm.call (by simp) fm2
                    refine ev_aload_n d_Mo_split_256 rfl rfl ?_
                    refine ev_dup d_Mo_split_257 rfl ?_
                    refine ev_getF d_Mo_split_258 fl_Mo_92 hm (by decide) f4 ?_
                    refine ev_iconst (v := iZ 1) d_Mo_split_261 rfl ?_
                    refine ez_iadd d_Mo_split_262 ?_
                    rw [show ((n : Int) + 1 : Int) = ((n + 1 : Nat) : Int) from by omega]
                    refine ev_putF2 d_Mo_split_263 fw_Mo_92 (Or.inr (fun _ _ _ q => by cases q; rfl)) hm (by decide) rfl rfl (fun h7 σ8 h7a σ8j σ8o h7o => ?_)
                    have f5 := (σ8o 5 (by decide)).trans f5
                    have f6 := (σ8o 6 (by decide)).trans f6
                    have f7 := (σ8o 7 (by decide)).trans f7
                    have f8 := (σ8o 8 (by decide)).trans f8
                    have f9 := (σ8o 9 (by decide)).trans f9
                    have f10 := (σ8o 10 (by decide)).trans f10
                    have f11 := (σ8o 11 (by decide)).trans f11
                    have f12 := (σ8o 12 (by decide)).trans f12
                    have f13 := (σ8o 13 (by decide)).trans f13
                    have f14 := (σ8o 14 (by decide)).trans f14
                    have f15 := (σ8o 15 (by decide)).trans f15
                    have f4 := σ8j
                    have fs := fs.step (by simp) σ8o
                    have hs1 := (h7o _ (cne hs1 hm (by simp))).trans hs1
                    have hs2 := (h7o _ (cne hs2 hm (by simp))).trans hs2
                    have hs3 := (h7o _ (cne hs3 hm (by simp))).trans hs3
                    have hs4 := (h7o _ (cne hs4 hm (by simp))).trans hs4
                    have hk0 := (h7o _ (cne hk0 hm (by simp))).trans hk0
                    have hk1 := (h7o _ (cne hk1 hm (by simp))).trans hk1
                    have hk2 := (h7o _ (cne hk2 hm (by simp))).trans hk2
                    have hk3 := (h7o _ (cne hk3 hm (by simp))).trans hk3
                    have hk4 := (h7o _ (cne hk4 hm (by simp))).trans hk4
                    have hm := h7a
                    have fm := fm.step (by simp) h7o
                    refine ev_aload_n d_Mo_split_266 rfl rfl ?_
                    refine ev_getF d_Mo_split_267 fl_Mo_27 hm (by decide) f7 ?_
                    refine ev_iload_n d_Mo_split_270 rfl rfl ?_
                    refine ev_iload_n d_Mo_split_271 rfl rfl ?_
                    refine ez_iastore (F' := zup (va_cpy S3 S3 k (k + 1) (n - k)) k (j : Int)) k d_Mo_split_272 hs3 (by omega) (by omega) (by decide) rfl (fun h9 h9a h9o => ?_)
                    have hm := (h9o _ (cne hm hs3 (by simp))).trans hm
                    have hs1 := (h9o _ (cne hs1 hs3 (by simp))).trans hs1
                    have hs2 := (h9o _ (cne hs2 hs3 (by simp))).trans hs2
                    have hs4 := (h9o _ (cne hs4 hs3 (by simp))).trans hs4
                    have hk0 := (h9o _ (cne hk0 hs3 (by simp))).trans hk0
                    have hk1 := (h9o _ (cne hk1 hs3 (by simp))).trans hk1
                    have hk2 := (h9o _ (cne hk2 hs3 (by simp))).trans hk2
                    have hk3 := (h9o _ (cne hk3 hs3 (by simp))).trans hk3
                    have hk4 := (h9o _ (cne hk4 hs3 (by simp))).trans hk4
                    have hs3 := h9a
                    have fm := fm.step (by simp) h9o
                    refine ev_aload_n d_Mo_split_273 rfl rfl ?_
                    refine ev_getF d_Mo_split_274 fl_Mo_24 hm (by decide) f6 ?_
                    refine ev_iload_n d_Mo_split_277 rfl rfl ?_
                    refine ev_lload d_Mo_split_278 rfl ?_
                    refine ez_lastore (F' := zup (va_cpy S2 S2 k (k + 1) (n - k)) k (spTm S1 S2 S3 S4 k j)) k d_Mo_split_280 hs2 (by omega) (by omega) (by decide) rfl (fun h10 h10a h10o => ?_)
                    have hm := (h10o _ (cne hm hs2 (by simp))).trans hm
                    have hs1 := (h10o _ n_s).trans hs1
                    have hs3 := (h10o _ (cne hs3 hs2 (by simp))).trans hs3
                    have hs4 := (h10o _ (cne hs4 hs2 (by simp))).trans hs4
                    have hk0 := (h10o _ (cne hk0 hs2 (by simp))).trans hk0
                    have hk1 := (h10o _ (cne hk1 hs2 (by simp))).trans hk1
                    have hk2 := (h10o _ (cne hk2 hs2 (by simp))).trans hk2
                    have hk3 := (h10o _ (cne hk3 hs2 (by simp))).trans hk3
                    have hk4 := (h10o _ (cne hk4 hs2 (by simp))).trans hk4
                    have hs2 := h10a
                    have fm := fm.step (by simp) h10o
                    refine ev_aload_n d_Mo_split_281 rfl rfl ?_
                    refine ev_getF d_Mo_split_282 fl_Mo_20 hm (by decide) f5 ?_
                    refine ev_iload_n d_Mo_split_285 rfl rfl ?_
                    refine ev_iconst (v := iZ 1) d_Mo_split_286 rfl ?_
                    refine ez_iadd d_Mo_split_287 ?_
                    refine ev_lload d_Mo_split_288 rfl ?_
                    refine ez_lastore (F' := zup (va_cpy S1 S1 k (k + 1) (n - k)) (k + 1) (spTm S1 S2 S3 S4 k j)) (k + 1) d_Mo_split_290 hs1 (by omega) (by omega) (by decide) rfl (fun h11 h11a h11o => ?_)
                    have hm := (h11o _ (cne hm hs1 (by simp))).trans hm
                    have hs2 := (h11o _ (Ne.symm n_s)).trans hs2
                    have hs3 := (h11o _ (cne hs3 hs1 (by simp))).trans hs3
                    have hs4 := (h11o _ (cne hs4 hs1 (by simp))).trans hs4
                    have hk0 := (h11o _ (cne hk0 hs1 (by simp))).trans hk0
                    have hk1 := (h11o _ (cne hk1 hs1 (by simp))).trans hk1
                    have hk2 := (h11o _ (cne hk2 hs1 (by simp))).trans hk2
                    have hk3 := (h11o _ (cne hk3 hs1 (by simp))).trans hk3
                    have hk4 := (h11o _ (cne hk4 hs1 (by simp))).trans hk4
                    have hs1 := h11a
                    have fm := fm.step (by simp) h11o
                    refine ev_aload_n d_Mo_split_291 rfl rfl ?_
                    refine ev_getF d_Mo_split_292 fl_Mo_27 hm (by decide) f7 ?_
                    refine ev_iload_n d_Mo_split_295 rfl rfl ?_
                    refine ev_iconst (v := iZ 1) d_Mo_split_296 rfl ?_
                    refine ez_iadd d_Mo_split_297 ?_
                    refine ev_iload_n d_Mo_split_298 rfl rfl ?_
                    refine ev_iload d_Mo_split_299 rfl ?_
                    refine ez_isub d_Mo_split_301 ?_
                    refine ez_iastore (F' := zup (zup (va_cpy S3 S3 k (k + 1) (n - k)) k (j : Int)) (k + 1) (((S3 k).toNat : Int) - ((spF S4 k j : Nat) : Int))) (k + 1) d_Mo_split_302 hs3 (by omega) (by omega) (by decide) rfl (fun h12 h12a h12o => ?_)
                    have hm := (h12o _ (cne hm hs3 (by simp))).trans hm
                    have hs1 := (h12o _ (cne hs1 hs3 (by simp))).trans hs1
                    have hs2 := (h12o _ (cne hs2 hs3 (by simp))).trans hs2
                    have hs4 := (h12o _ (cne hs4 hs3 (by simp))).trans hs4
                    have hk0 := (h12o _ (cne hk0 hs3 (by simp))).trans hk0
                    have hk1 := (h12o _ (cne hk1 hs3 (by simp))).trans hk1
                    have hk2 := (h12o _ (cne hk2 hs3 (by simp))).trans hk2
                    have hk3 := (h12o _ (cne hk3 hs3 (by simp))).trans hk3
                    have hk4 := (h12o _ (cne hk4 hs3 (by simp))).trans hk4
                    have hs3 := h12a
                    have fm := fm.step (by simp) h12o
                    refine ev_iload d_Mo_split_303 rfl ?_
                    refine ev_istore (L' := [(0, .ref m), (1, .int (iZ (k : Int))), (2, .int (iZ (j : Int))), (3, .int (iZ ((S3 k).toNat : Int))), (4, .int (iZ ((spF S4 k j : Nat) : Int))), (11, .long (lZ (spTm S1 S2 S3 S4 k j))), (13, .int (iZ ((spF S4 k j : Nat) : Int)))]) d_Mo_split_305 (by decide) rfl ?_
                    refine lp_Mo_sp2 G _ h12 k j (S3 k).toNat (spF S4 k j) (spTm S1 S2 S3 S4 k j) (by omega) (by omega) σ8 m s4 (va_cpy S4 S4 (64 * k) (64 * (k + 1)) (64 * (n - k))) f8 ?_ ((S3 k).toNat - spF S4 k j) 0 h12 (by omega) hm (by rw [cpy_z]; exact hs4) Fm.rf
                    have jm := hm
                    have js1 := hs1
                    have js2 := hs2
                    have js3 := hs3
                    have js4 := hs4
                    have jk0 := hk0
                    have jk1 := hk1
                    have jk2 := hk2
                    have jk3 := hk3
                    have jk4 := hk4
                    rintro h20 q rfl hm hs4 fm2
                    have hs1 := (fm2 _ (ninc (cne js1 js4 (by simp)) nin0)).trans js1
                    have hs2 := (fm2 _ (ninc (cne js2 js4 (by simp)) nin0)).trans js2
                    have hs3 := (fm2 _ (ninc (cne js3 js4 (by simp)) nin0)).trans js3
                    have hk0 := (fm2 _ (ninc (cne jk0 js4 (by simp)) nin0)).trans jk0
                    have hk1 := (fm2 _ (ninc (cne jk1 js4 (by simp)) nin0)).trans jk1
                    have hk2 := (fm2 _ (ninc (cne jk2 js4 (by simp)) nin0)).trans jk2
                    have hk3 := (fm2 _ (ninc (cne jk3 js4 (by simp)) nin0)).trans jk3
                    have hk4 := (fm2 _ (ninc (cne jk4 js4 (by simp)) nin0)).trans jk4
                    have fm := fm.call (by simp) fm2
                    refine ev_aload_n d_Mo_split_349 rfl rfl ?_
                    refine ev_getF d_Mo_split_350 fl_Mo_92 hm (by decide) f4 ?_
                    exact ev_ireturn d_Mo_split_353 rfl (by decide) (by decide) (⟨fun q => absurd q (fun q => by rcases q with q | q | q | q <;> omega), fun _ q => absurd q (by omega), fun _ _ => ⟨rfl, ⟨σ8, hm, f4, f9, f10, fs⟩, hs1, hs2, hs3, hs4, hk0, hk1, hk2, hk3, hk4, fm⟩⟩)
                  · refine ev_bipush (v := iZ (-3)) d_Mo_split_221 rfl ?_
                    exact ev_ireturn d_Mo_split_223 rfl (by decide) (by decide) (⟨fun q => absurd q (fun q => by rcases q with q | q | q | q <;> omega), fun _ _ => ⟨rfl, rfl⟩, fun _ q => absurd q (by omega)⟩)
                · refine ev_bipush (v := iZ (-2)) d_Mo_split_209 rfl ?_
                  exact ev_ireturn d_Mo_split_211 rfl (by decide) (by decide) (⟨fun _ => ⟨rfl, rfl⟩, fun q => absurd (Or.inr (by first | exact Or.inl (by omega) | exact Or.inr (Or.inl (by omega)) | exact Or.inr (Or.inr ⟨by omega, by omega⟩))) q, fun q => absurd (Or.inr (by first | exact Or.inl (by omega) | exact Or.inr (Or.inl (by omega)) | exact Or.inr (Or.inr ⟨by omega, by omega⟩))) q⟩)
        · refine ev_lconst (v := lZ 1) d_Mo_split_103 rfl ?_
          refine ev_goto (tgt := 110) d_Mo_split_104 rfl ?_
          refine ev_lstore (L' := [(0, .ref m), (1, .int (iZ (i : Int))), (2, .int (iZ (j : Int))), (3, .int (iZ ((S3 i).toNat : Int))), (4, .int (iZ ((spF S4 i j : Nat) : Int))), (5, .int (iZ (cellsN S4 (i * 64) j))), (6, .int (iZ (cellsN S4 (i * 64) (S3 i).toNat))), (7, .long (lZ 1))]) d_Mo_split_110 (by decide) rfl ?_
          refine ev_iload d_Mo_split_112 rfl ?_
          refine ez_if_ne (tgt := 123) (by omega) d_Mo_split_114 rfl (fun c114 => absurd c114 (by omega)) (fun c114 => ?_)
          refine ev_ldc2 (v := lZ 2) d_Mo_split_117 kc_Mo_84 ?_
          refine ev_goto (tgt := 126) d_Mo_split_120 rfl ?_
          refine ev_lstore (L' := [(0, .ref m), (1, .int (iZ (i : Int))), (2, .int (iZ (j : Int))), (3, .int (iZ ((S3 i).toNat : Int))), (4, .int (iZ ((spF S4 i j : Nat) : Int))), (5, .int (iZ (cellsN S4 (i * 64) j))), (6, .int (iZ (cellsN S4 (i * 64) (S3 i).toNat))), (7, .long (lZ 1)), (9, .long (lZ 2))]) d_Mo_split_126 (by decide) rfl ?_
          refine ev_aload_n d_Mo_split_128 rfl rfl ?_
          refine ev_getF d_Mo_split_129 fl_Mo_20 hm (by decide) f5 ?_
          refine ev_iload_n d_Mo_split_132 rfl rfl ?_
          refine ez_laload i d_Mo_split_133 hs1 (by omega) (by omega) (by decide) ?_
          refine ev_lload d_Mo_split_134 rfl ?_
          refine ez_lmul d_Mo_split_136 ?_
          refine ev_aload_n d_Mo_split_137 rfl rfl ?_
          refine ev_getF d_Mo_split_138 fl_Mo_24 hm (by decide) f6 ?_
          refine ev_iload_n d_Mo_split_141 rfl rfl ?_
          refine ez_laload i d_Mo_split_142 hs2 (by omega) (by omega) (by decide) ?_
          refine ev_aload_n d_Mo_split_143 rfl rfl ?_
          refine ev_getF d_Mo_split_144 fl_Mo_20 hm (by decide) f5 ?_
          refine ev_iload_n d_Mo_split_147 rfl rfl ?_
          refine ez_laload i d_Mo_split_148 hs1 (by omega) (by omega) (by decide) ?_
          refine ez_lsub d_Mo_split_149 ?_
          refine ev_lload d_Mo_split_150 rfl ?_
          refine ez_lmul d_Mo_split_152 ?_
          refine ez_ladd d_Mo_split_153 ?_
          refine ev_lload d_Mo_split_154 rfl ?_
          have m1 := mulB (x := S1 i) (y := 2) (L := 2540160000000) (M := 128) (by omega) (by omega) (by omega) (by omega)
          have m2 := mulB (x := S2 i - S1 i) (y := 1) (L := 2540160000000) (M := 128) (by omega) (by omega) (by omega) (by omega)
          refine ev_pS M_Mo_nearest 0 0 (As := [.long (lZ (((S1 i) * 2) + (((S2 i) - (S1 i)) * 1))), .long (lZ 2)]) (c_Mo_nearest G h _ _ (by omega) (by omega)) d_Mo_split_156 mk_Mo_nearest ml_Mo_189 ms_Mo_nearest rfl rfl (Nat.le_of_ble_eq_true rfl) ⟨by decide, by decide⟩ ⟨by decide, by decide⟩ ?_
          refine ev_topl (spTm S1 S2 S3 S4 i j) (Eq.symm (if_pos (by omega))) ?_
          have rt : -1000000000000000 ≤ spTm S1 S2 S3 S4 i j ∧ spTm S1 S2 S3 S4 i j ≤ 1000000000000000 := splT_r (hT i) (hE i) (by omega) (by omega)
          refine ev_lstore (L' := [(0, .ref m), (1, .int (iZ (i : Int))), (2, .int (iZ (j : Int))), (3, .int (iZ ((S3 i).toNat : Int))), (4, .int (iZ ((spF S4 i j : Nat) : Int))), (5, .int (iZ (cellsN S4 (i * 64) j))), (6, .int (iZ (cellsN S4 (i * 64) (S3 i).toNat))), (7, .long (lZ 1)), (9, .long (lZ 2)), (11, .long (lZ (spTm S1 S2 S3 S4 i j)))]) d_Mo_split_159 (by decide) rfl ?_
          refine ev_lload d_Mo_split_161 rfl ?_
          refine ev_aload_n d_Mo_split_163 rfl rfl ?_
          refine ev_getF d_Mo_split_164 fl_Mo_20 hm (by decide) f5 ?_
          refine ev_iload_n d_Mo_split_167 rfl rfl ?_
          refine ez_laload i d_Mo_split_168 hs1 (by omega) (by omega) (by decide) ?_
          refine ev_lcmp d_Mo_split_169 ?_
          refine ez_lif_le (tgt := 209) (by omega) (by omega) d_Mo_split_170 rfl (fun c170 => ?_) (fun c170 => ?_)
          · refine ev_bipush (v := iZ (-2)) d_Mo_split_209 rfl ?_
            exact ev_ireturn d_Mo_split_211 rfl (by decide) (by decide) (⟨fun _ => ⟨rfl, rfl⟩, fun q => absurd (Or.inr (by first | exact Or.inl (by omega) | exact Or.inr (Or.inl (by omega)) | exact Or.inr (Or.inr ⟨by omega, by omega⟩))) q, fun q => absurd (Or.inr (by first | exact Or.inl (by omega) | exact Or.inr (Or.inl (by omega)) | exact Or.inr (Or.inr ⟨by omega, by omega⟩))) q⟩)
          · refine ev_lload d_Mo_split_173 rfl ?_
            refine ev_aload_n d_Mo_split_175 rfl rfl ?_
            refine ev_getF d_Mo_split_176 fl_Mo_24 hm (by decide) f6 ?_
            refine ev_iload_n d_Mo_split_179 rfl rfl ?_
            refine ez_laload i d_Mo_split_180 hs2 (by omega) (by omega) (by decide) ?_
            refine ev_lcmp d_Mo_split_181 ?_
            refine ez_lif_ge (tgt := 209) (by omega) (by omega) d_Mo_split_182 rfl (fun c182 => ?_) (fun c182 => ?_)
            · refine ev_bipush (v := iZ (-2)) d_Mo_split_209 rfl ?_
              exact ev_ireturn d_Mo_split_211 rfl (by decide) (by decide) (⟨fun _ => ⟨rfl, rfl⟩, fun q => absurd (Or.inr (by first | exact Or.inl (by omega) | exact Or.inr (Or.inl (by omega)) | exact Or.inr (Or.inr ⟨by omega, by omega⟩))) q, fun q => absurd (Or.inr (by first | exact Or.inl (by omega) | exact Or.inr (Or.inl (by omega)) | exact Or.inr (Or.inr ⟨by omega, by omega⟩))) q⟩)
            · refine ev_iload_n d_Mo_split_185 rfl rfl ?_
              refine ev_iconst (v := iZ 1) d_Mo_split_186 rfl ?_
              refine ez_iadd d_Mo_split_187 ?_
              refine ev_aload_n d_Mo_split_188 rfl rfl ?_
              refine ev_getF d_Mo_split_189 fl_Mo_92 hm (by decide) f4 ?_
              refine ez_icmp_ge (tgt := 212) (by omega) (by omega) d_Mo_split_192 rfl (fun c192 => ?_) (fun c192 => ?_)
              · refine ev_aload_n d_Mo_split_212 rfl rfl ?_
                refine ev_getF d_Mo_split_213 fl_Mo_92 hm (by decide) f4 ?_
                refine ev_bipush (v := iZ 16) d_Mo_split_216 rfl ?_
                refine ez_icmp_ne (tgt := 224) (by omega) (by decide) d_Mo_split_218 rfl (fun c218 => ?_) (fun c218 => ?_)
                · refine ev_aload_n d_Mo_split_224 rfl rfl ?_
                  refine ev_callV M_Mo_keep (rm 0 0) _ (As := []) (c_Mo_keep G h σ m s1 s2 s3 s4 k0 k1 k2 k3 k4 n c bk S1 S2 S3 S4 K0 K1 K2 K3 K4 hm f4 f5 f6 f7 f8 f9 f10 f11 f12 f13 f14 f15 hs1 hs2 hs3 hs4 hk0 hk1 hk2 hk3 hk4 hc hbk n_s n_k) d_Mo_split_225 mk_Mo_keep ml_Mo_176 mv_Mo_keep hm rfl rfl rfl (Nat.le_of_ble_eq_true rfl) ⟨by decide, by decide⟩ ⟨by decide, by decide⟩ (fun r h8 hq => ?_)
                  obtain ⟨rfl, ⟨σ9, gm, g9, g10, gs⟩, gk0, gk1, gk2, gk3, gk4, fmk⟩ := hq
                  have hs1 := (fmk _ (ninc (cne hs1 hm (by simp)) (ninc (cne hs1 hk0 (by simp)) (ninc (cne hs1 hk1 (by simp)) (ninc (cne hs1 hk2 (by simp)) (ninc (cne hs1 hk3 (by simp)) (ninc (cne hs1 hk4 (by simp)) nin0))))))).trans hs1
                  have hs2 := (fmk _ (ninc (cne hs2 hm (by simp)) (ninc (cne hs2 hk0 (by simp)) (ninc (cne hs2 hk1 (by simp)) (ninc (cne hs2 hk2 (by simp)) (ninc (cne hs2 hk3 (by simp)) (ninc (cne hs2 hk4 (by simp)) nin0))))))).trans hs2
                  have hs3 := (fmk _ (ninc (cne hs3 hm (by simp)) (ninc (cne hs3 hk0 (by simp)) (ninc (cne hs3 hk1 (by simp)) (ninc (cne hs3 hk2 (by simp)) (ninc (cne hs3 hk3 (by simp)) (ninc (cne hs3 hk4 (by simp)) nin0))))))).trans hs3
                  have hs4 := (fmk _ (ninc (cne hs4 hm (by simp)) (ninc (cne hs4 hk0 (by simp)) (ninc (cne hs4 hk1 (by simp)) (ninc (cne hs4 hk2 (by simp)) (ninc (cne hs4 hk3 (by simp)) (ninc (cne hs4 hk4 (by simp)) nin0))))))).trans hs4
                  have hm := gm
                  have hk0 := gk0
                  have hk1 := gk1
                  have hk2 := gk2
                  have hk3 := gk3
                  have hk4 := gk4
                  have f4 := (gs 4 (by decide)).trans f4
                  have f5 := (gs 5 (by decide)).trans f5
                  have f6 := (gs 6 (by decide)).trans f6
                  have f7 := (gs 7 (by decide)).trans f7
                  have f8 := (gs 8 (by decide)).trans f8
                  have f11 := (gs 11 (by decide)).trans f11
                  have f12 := (gs 12 (by decide)).trans f12
                  have f13 := (gs 13 (by decide)).trans f13
                  have f14 := (gs 14 (by decide)).trans f14
                  have f15 := (gs 15 (by decide)).trans f15
                  have f9 := g9
                  have f10 := g10
                  have fm := fm.call (by simp) fmk
                  have fs := fs.call (by simp) gs
                  refine ev_aload_n d_Mo_split_228 rfl rfl ?_
                  refine ev_getF d_Mo_split_229 fl_Mo_92 hm (by decide) f4 ?_
                  refine ev_istore (L' := [(0, .ref m), (1, .int (iZ (i : Int))), (2, .int (iZ (j : Int))), (3, .int (iZ ((S3 i).toNat : Int))), (4, .int (iZ ((spF S4 i j : Nat) : Int))), (5, .int (iZ (cellsN S4 (i * 64) j))), (6, .int (iZ (cellsN S4 (i * 64) (S3 i).toNat))), (7, .long (lZ 1)), (9, .long (lZ 2)), (11, .long (lZ (spTm S1 S2 S3 S4 i j))), (13, .int (iZ (n : Int)))]) d_Mo_split_232 (by decide) rfl ?_
                  refine ev_loc [(0, .ref m), (1, .int (iZ (i : Int))), (2, .int (iZ (j : Int))), (3, .int (iZ ((S3 i).toNat : Int))), (4, .int (iZ ((spF S4 i j : Nat) : Int))), (11, .long (lZ (spTm S1 S2 S3 S4 i j))), (13, .int (iZ (n : Int)))] (by simp) ?_
                  refine lp_Mo_sp1 G _ h8 i j (S3 i).toNat (spF S4 i j) n (spTm S1 S2 S3 S4 i j) hi (by omega) σ9 m s1 s2 s3 s4 S1 S2 S3 S4 f4 f5 f6 f7 f8 n_s ?_ (n - i) n h8 (by omega) (by omega) hm (by rw [Nat.sub_self, cpy_z]; exact hs1) (by rw [Nat.sub_self, cpy_z]; exact hs2) (by rw [Nat.sub_self, cpy_z]; exact hs3) (by rw [Nat.sub_self, Nat.mul_zero, cpy_z]; exact hs4) Fm.rf
                  have jm := hm
                  have js1 := hs1
                  have js2 := hs2
                  have js3 := hs3
                  have js4 := hs4
                  have jk0 := hk0
                  have jk1 := hk1
                  have jk2 := hk2
                  have jk3 := hk3
                  have jk4 := hk4
                  rintro h10 k rfl hm hs1 hs2 hs3 hs4 fm2
                  have hk0 := (fm2 _ (ninc (cne jk0 js1 (by simp)) (ninc (cne jk0 js2 (by simp)) (ninc (cne jk0 js3 (by simp)) (ninc (cne jk0 js4 (by simp)) nin0))))).trans jk0
                  have hk1 := (fm2 _ (ninc (cne jk1 js1 (by simp)) (ninc (cne jk1 js2 (by simp)) (ninc (cne jk1 js3 (by simp)) (ninc (cne jk1 js4 (by simp)) nin0))))).trans jk1
                  have hk2 := (fm2 _ (ninc (cne jk2 js1 (by simp)) (ninc (cne jk2 js2 (by simp)) (ninc (cne jk2 js3 (by simp)) (ninc (cne jk2 js4 (by simp)) nin0))))).trans jk2
                  have hk3 := (fm2 _ (ninc (cne jk3 js1 (by simp)) (ninc (cne jk3 js2 (by simp)) (ninc (cne jk3 js3 (by simp)) (ninc (cne jk3 js4 (by simp)) nin0))))).trans jk3
                  have hk4 := (fm2 _ (ninc (cne jk4 js1 (by simp)) (ninc (cne jk4 js2 (by simp)) (ninc (cne jk4 js3 (by simp)) (ninc (cne jk4 js4 (by simp)) nin0))))).trans jk4
                  have fm := fm.call (by simp) fm2
                  refine ev_aload_n d_Mo_split_256 rfl rfl ?_
                  refine ev_dup d_Mo_split_257 rfl ?_
                  refine ev_getF d_Mo_split_258 fl_Mo_92 hm (by decide) f4 ?_
                  refine ev_iconst (v := iZ 1) d_Mo_split_261 rfl ?_
                  refine ez_iadd d_Mo_split_262 ?_
                  rw [show ((n : Int) + 1 : Int) = ((n + 1 : Nat) : Int) from by omega]
                  refine ev_putF2 d_Mo_split_263 fw_Mo_92 (Or.inr (fun _ _ _ q => by cases q; rfl)) hm (by decide) rfl rfl (fun h13 σ14 h13a σ14j σ14o h13o => ?_)
                  have f5 := (σ14o 5 (by decide)).trans f5
                  have f6 := (σ14o 6 (by decide)).trans f6
                  have f7 := (σ14o 7 (by decide)).trans f7
                  have f8 := (σ14o 8 (by decide)).trans f8
                  have f9 := (σ14o 9 (by decide)).trans f9
                  have f10 := (σ14o 10 (by decide)).trans f10
                  have f11 := (σ14o 11 (by decide)).trans f11
                  have f12 := (σ14o 12 (by decide)).trans f12
                  have f13 := (σ14o 13 (by decide)).trans f13
                  have f14 := (σ14o 14 (by decide)).trans f14
                  have f15 := (σ14o 15 (by decide)).trans f15
                  have f4 := σ14j
                  have fs := fs.step (by simp) σ14o
                  have hs1 := (h13o _ (cne hs1 hm (by simp))).trans hs1
                  have hs2 := (h13o _ (cne hs2 hm (by simp))).trans hs2
                  have hs3 := (h13o _ (cne hs3 hm (by simp))).trans hs3
                  have hs4 := (h13o _ (cne hs4 hm (by simp))).trans hs4
                  have hk0 := (h13o _ (cne hk0 hm (by simp))).trans hk0
                  have hk1 := (h13o _ (cne hk1 hm (by simp))).trans hk1
                  have hk2 := (h13o _ (cne hk2 hm (by simp))).trans hk2
                  have hk3 := (h13o _ (cne hk3 hm (by simp))).trans hk3
                  have hk4 := (h13o _ (cne hk4 hm (by simp))).trans hk4
                  have hm := h13a
                  have fm := fm.step (by simp) h13o
                  refine ev_aload_n d_Mo_split_266 rfl rfl ?_
                  refine ev_getF d_Mo_split_267 fl_Mo_27 hm (by decide) f7 ?_
                  refine ev_iload_n d_Mo_split_270 rfl rfl ?_
                  refine ev_iload_n d_Mo_split_271 rfl rfl ?_
                  refine ez_iastore (F' := zup (va_cpy S3 S3 k (k + 1) (n - k)) k (j : Int)) k d_Mo_split_272 hs3 (by omega) (by omega) (by decide) rfl (fun h15 h15a h15o => ?_)
                  have hm := (h15o _ (cne hm hs3 (by simp))).trans hm
                  have hs1 := (h15o _ (cne hs1 hs3 (by simp))).trans hs1
                  have hs2 := (h15o _ (cne hs2 hs3 (by simp))).trans hs2
                  have hs4 := (h15o _ (cne hs4 hs3 (by simp))).trans hs4
                  have hk0 := (h15o _ (cne hk0 hs3 (by simp))).trans hk0
                  have hk1 := (h15o _ (cne hk1 hs3 (by simp))).trans hk1
                  have hk2 := (h15o _ (cne hk2 hs3 (by simp))).trans hk2
                  have hk3 := (h15o _ (cne hk3 hs3 (by simp))).trans hk3
                  have hk4 := (h15o _ (cne hk4 hs3 (by simp))).trans hk4
                  have hs3 := h15a
                  have fm := fm.step (by simp) h15o
                  refine ev_aload_n d_Mo_split_273 rfl rfl ?_
                  refine ev_getF d_Mo_split_274 fl_Mo_24 hm (by decide) f6 ?_
                  refine ev_iload_n d_Mo_split_277 rfl rfl ?_
                  refine ev_lload d_Mo_split_278 rfl ?_
                  refine ez_lastore (F' := zup (va_cpy S2 S2 k (k + 1) (n - k)) k (spTm S1 S2 S3 S4 k j)) k d_Mo_split_280 hs2 (by omega) (by omega) (by decide) rfl (fun h16 h16a h16o => ?_)
                  have hm := (h16o _ (cne hm hs2 (by simp))).trans hm
                  have hs1 := (h16o _ n_s).trans hs1
                  have hs3 := (h16o _ (cne hs3 hs2 (by simp))).trans hs3
                  have hs4 := (h16o _ (cne hs4 hs2 (by simp))).trans hs4
                  have hk0 := (h16o _ (cne hk0 hs2 (by simp))).trans hk0
                  have hk1 := (h16o _ (cne hk1 hs2 (by simp))).trans hk1
                  have hk2 := (h16o _ (cne hk2 hs2 (by simp))).trans hk2
                  have hk3 := (h16o _ (cne hk3 hs2 (by simp))).trans hk3
                  have hk4 := (h16o _ (cne hk4 hs2 (by simp))).trans hk4
                  have hs2 := h16a
                  have fm := fm.step (by simp) h16o
                  refine ev_aload_n d_Mo_split_281 rfl rfl ?_
                  refine ev_getF d_Mo_split_282 fl_Mo_20 hm (by decide) f5 ?_
                  refine ev_iload_n d_Mo_split_285 rfl rfl ?_
                  refine ev_iconst (v := iZ 1) d_Mo_split_286 rfl ?_
                  refine ez_iadd d_Mo_split_287 ?_
                  refine ev_lload d_Mo_split_288 rfl ?_
                  refine ez_lastore (F' := zup (va_cpy S1 S1 k (k + 1) (n - k)) (k + 1) (spTm S1 S2 S3 S4 k j)) (k + 1) d_Mo_split_290 hs1 (by omega) (by omega) (by decide) rfl (fun h17 h17a h17o => ?_)
                  have hm := (h17o _ (cne hm hs1 (by simp))).trans hm
                  have hs2 := (h17o _ (Ne.symm n_s)).trans hs2
                  have hs3 := (h17o _ (cne hs3 hs1 (by simp))).trans hs3
                  have hs4 := (h17o _ (cne hs4 hs1 (by simp))).trans hs4
                  have hk0 := (h17o _ (cne hk0 hs1 (by simp))).trans hk0
                  have hk1 := (h17o _ (cne hk1 hs1 (by simp))).trans hk1
                  have hk2 := (h17o _ (cne hk2 hs1 (by simp))).trans hk2
                  have hk3 := (h17o _ (cne hk3 hs1 (by simp))).trans hk3
                  have hk4 := (h17o _ (cne hk4 hs1 (by simp))).trans hk4
                  have hs1 := h17a
                  have fm := fm.step (by simp) h17o
                  refine ev_aload_n d_Mo_split_291 rfl rfl ?_
                  refine ev_getF d_Mo_split_292 fl_Mo_27 hm (by decide) f7 ?_
                  refine ev_iload_n d_Mo_split_295 rfl rfl ?_
                  refine ev_iconst (v := iZ 1) d_Mo_split_296 rfl ?_
                  refine ez_iadd d_Mo_split_297 ?_
                  refine ev_iload_n d_Mo_split_298 rfl rfl ?_
                  refine ev_iload d_Mo_split_299 rfl ?_
                  refine ez_isub d_Mo_split_301 ?_
                  refine ez_iastore (F' := zup (zup (va_cpy S3 S3 k (k + 1) (n - k)) k (j : Int)) (k + 1) (((S3 k).toNat : Int) - ((spF S4 k j : Nat) : Int))) (k + 1) d_Mo_split_302 hs3 (by omega) (by omega) (by decide) rfl (fun h18 h18a h18o => ?_)
                  have hm := (h18o _ (cne hm hs3 (by simp))).trans hm
                  have hs1 := (h18o _ (cne hs1 hs3 (by simp))).trans hs1
                  have hs2 := (h18o _ (cne hs2 hs3 (by simp))).trans hs2
                  have hs4 := (h18o _ (cne hs4 hs3 (by simp))).trans hs4
                  have hk0 := (h18o _ (cne hk0 hs3 (by simp))).trans hk0
                  have hk1 := (h18o _ (cne hk1 hs3 (by simp))).trans hk1
                  have hk2 := (h18o _ (cne hk2 hs3 (by simp))).trans hk2
                  have hk3 := (h18o _ (cne hk3 hs3 (by simp))).trans hk3
                  have hk4 := (h18o _ (cne hk4 hs3 (by simp))).trans hk4
                  have hs3 := h18a
                  have fm := fm.step (by simp) h18o
                  refine ev_iload d_Mo_split_303 rfl ?_
                  refine ev_istore (L' := [(0, .ref m), (1, .int (iZ (k : Int))), (2, .int (iZ (j : Int))), (3, .int (iZ ((S3 k).toNat : Int))), (4, .int (iZ ((spF S4 k j : Nat) : Int))), (11, .long (lZ (spTm S1 S2 S3 S4 k j))), (13, .int (iZ ((spF S4 k j : Nat) : Int)))]) d_Mo_split_305 (by decide) rfl ?_
                  refine lp_Mo_sp2 G _ h18 k j (S3 k).toNat (spF S4 k j) (spTm S1 S2 S3 S4 k j) (by omega) (by omega) σ14 m s4 (va_cpy S4 S4 (64 * k) (64 * (k + 1)) (64 * (n - k))) f8 ?_ ((S3 k).toNat - spF S4 k j) 0 h18 (by omega) hm (by rw [cpy_z]; exact hs4) Fm.rf
                  have jm := hm
                  have js1 := hs1
                  have js2 := hs2
                  have js3 := hs3
                  have js4 := hs4
                  have jk0 := hk0
                  have jk1 := hk1
                  have jk2 := hk2
                  have jk3 := hk3
                  have jk4 := hk4
                  rintro h20 q rfl hm hs4 fm2
                  have hs1 := (fm2 _ (ninc (cne js1 js4 (by simp)) nin0)).trans js1
                  have hs2 := (fm2 _ (ninc (cne js2 js4 (by simp)) nin0)).trans js2
                  have hs3 := (fm2 _ (ninc (cne js3 js4 (by simp)) nin0)).trans js3
                  have hk0 := (fm2 _ (ninc (cne jk0 js4 (by simp)) nin0)).trans jk0
                  have hk1 := (fm2 _ (ninc (cne jk1 js4 (by simp)) nin0)).trans jk1
                  have hk2 := (fm2 _ (ninc (cne jk2 js4 (by simp)) nin0)).trans jk2
                  have hk3 := (fm2 _ (ninc (cne jk3 js4 (by simp)) nin0)).trans jk3
                  have hk4 := (fm2 _ (ninc (cne jk4 js4 (by simp)) nin0)).trans jk4
                  have fm := fm.call (by simp) fm2
                  refine ev_aload_n d_Mo_split_349 rfl rfl ?_
                  refine ev_getF d_Mo_split_350 fl_Mo_92 hm (by decide) f4 ?_
                  exact ev_ireturn d_Mo_split_353 rfl (by decide) (by decide) (⟨fun q => absurd q (fun q => by rcases q with q | q | q | q <;> omega), fun _ q => absurd q (by omega), fun _ _ => ⟨rfl, ⟨σ14, hm, f4, f9, f10, fs⟩, hs1, hs2, hs3, hs4, hk0, hk1, hk2, hk3, hk4, fm⟩⟩)
                · refine ev_bipush (v := iZ (-3)) d_Mo_split_221 rfl ?_
                  exact ev_ireturn d_Mo_split_223 rfl (by decide) (by decide) (⟨fun q => absurd q (fun q => by rcases q with q | q | q | q <;> omega), fun _ _ => ⟨rfl, rfl⟩, fun _ q => absurd q (by omega)⟩)
              · refine ev_aload_n d_Mo_split_195 rfl rfl ?_
                refine ev_getF d_Mo_split_196 fl_Mo_20 hm (by decide) f5 ?_
                refine ev_iload_n d_Mo_split_199 rfl rfl ?_
                refine ev_iconst (v := iZ 1) d_Mo_split_200 rfl ?_
                refine ez_iadd d_Mo_split_201 ?_
                refine ez_laload (i + 1) d_Mo_split_202 hs1 (by omega) (by omega) (by decide) ?_
                refine ev_lload d_Mo_split_203 rfl ?_
                refine ev_lcmp d_Mo_split_205 ?_
                refine ez_lif_ge (tgt := 212) (by omega) (by omega) d_Mo_split_206 rfl (fun c206 => ?_) (fun c206 => ?_)
                · refine ev_aload_n d_Mo_split_212 rfl rfl ?_
                  refine ev_getF d_Mo_split_213 fl_Mo_92 hm (by decide) f4 ?_
                  refine ev_bipush (v := iZ 16) d_Mo_split_216 rfl ?_
                  refine ez_icmp_ne (tgt := 224) (by omega) (by decide) d_Mo_split_218 rfl (fun c218 => ?_) (fun c218 => ?_)
                  · refine ev_aload_n d_Mo_split_224 rfl rfl ?_
                    refine ev_callV M_Mo_keep (rm 0 0) _ (As := []) (c_Mo_keep G h σ m s1 s2 s3 s4 k0 k1 k2 k3 k4 n c bk S1 S2 S3 S4 K0 K1 K2 K3 K4 hm f4 f5 f6 f7 f8 f9 f10 f11 f12 f13 f14 f15 hs1 hs2 hs3 hs4 hk0 hk1 hk2 hk3 hk4 hc hbk n_s n_k) d_Mo_split_225 mk_Mo_keep ml_Mo_176 mv_Mo_keep hm rfl rfl rfl (Nat.le_of_ble_eq_true rfl) ⟨by decide, by decide⟩ ⟨by decide, by decide⟩ (fun r h8 hq => ?_)
                    obtain ⟨rfl, ⟨σ9, gm, g9, g10, gs⟩, gk0, gk1, gk2, gk3, gk4, fmk⟩ := hq
                    have hs1 := (fmk _ (ninc (cne hs1 hm (by simp)) (ninc (cne hs1 hk0 (by simp)) (ninc (cne hs1 hk1 (by simp)) (ninc (cne hs1 hk2 (by simp)) (ninc (cne hs1 hk3 (by simp)) (ninc (cne hs1 hk4 (by simp)) nin0))))))).trans hs1
                    have hs2 := (fmk _ (ninc (cne hs2 hm (by simp)) (ninc (cne hs2 hk0 (by simp)) (ninc (cne hs2 hk1 (by simp)) (ninc (cne hs2 hk2 (by simp)) (ninc (cne hs2 hk3 (by simp)) (ninc (cne hs2 hk4 (by simp)) nin0))))))).trans hs2
                    have hs3 := (fmk _ (ninc (cne hs3 hm (by simp)) (ninc (cne hs3 hk0 (by simp)) (ninc (cne hs3 hk1 (by simp)) (ninc (cne hs3 hk2 (by simp)) (ninc (cne hs3 hk3 (by simp)) (ninc (cne hs3 hk4 (by simp)) nin0))))))).trans hs3
                    have hs4 := (fmk _ (ninc (cne hs4 hm (by simp)) (ninc (cne hs4 hk0 (by simp)) (ninc (cne hs4 hk1 (by simp)) (ninc (cne hs4 hk2 (by simp)) (ninc (cne hs4 hk3 (by simp)) (ninc (cne hs4 hk4 (by simp)) nin0))))))).trans hs4
                    have hm := gm
                    have hk0 := gk0
                    have hk1 := gk1
                    have hk2 := gk2
                    have hk3 := gk3
                    have hk4 := gk4
                    have f4 := (gs 4 (by decide)).trans f4
                    have f5 := (gs 5 (by decide)).trans f5
                    have f6 := (gs 6 (by decide)).trans f6
                    have f7 := (gs 7 (by decide)).trans f7
                    have f8 := (gs 8 (by decide)).trans f8
                    have f11 := (gs 11 (by decide)).trans f11
                    have f12 := (gs 12 (by decide)).trans f12
                    have f13 := (gs 13 (by decide)).trans f13
                    have f14 := (gs 14 (by decide)).trans f14
                    have f15 := (gs 15 (by decide)).trans f15
                    have f9 := g9
                    have f10 := g10
                    have fm := fm.call (by simp) fmk
                    have fs := fs.call (by simp) gs
                    refine ev_aload_n d_Mo_split_228 rfl rfl ?_
                    refine ev_getF d_Mo_split_229 fl_Mo_92 hm (by decide) f4 ?_
                    refine ev_istore (L' := [(0, .ref m), (1, .int (iZ (i : Int))), (2, .int (iZ (j : Int))), (3, .int (iZ ((S3 i).toNat : Int))), (4, .int (iZ ((spF S4 i j : Nat) : Int))), (5, .int (iZ (cellsN S4 (i * 64) j))), (6, .int (iZ (cellsN S4 (i * 64) (S3 i).toNat))), (7, .long (lZ 1)), (9, .long (lZ 2)), (11, .long (lZ (spTm S1 S2 S3 S4 i j))), (13, .int (iZ (n : Int)))]) d_Mo_split_232 (by decide) rfl ?_
                    refine ev_loc [(0, .ref m), (1, .int (iZ (i : Int))), (2, .int (iZ (j : Int))), (3, .int (iZ ((S3 i).toNat : Int))), (4, .int (iZ ((spF S4 i j : Nat) : Int))), (11, .long (lZ (spTm S1 S2 S3 S4 i j))), (13, .int (iZ (n : Int)))] (by simp) ?_
                    refine lp_Mo_sp1 G _ h8 i j (S3 i).toNat (spF S4 i j) n (spTm S1 S2 S3 S4 i j) hi (by omega) σ9 m s1 s2 s3 s4 S1 S2 S3 S4 f4 f5 f6 f7 f8 n_s ?_ (n - i) n h8 (by omega) (by omega) hm (by rw [Nat.sub_self, cpy_z]; exact hs1) (by rw [Nat.sub_self, cpy_z]; exact hs2) (by rw [Nat.sub_self, cpy_z]; exact hs3) (by rw [Nat.sub_self, Nat.mul_zero, cpy_z]; exact hs4) Fm.rf
                    have jm := hm
                    have js1 := hs1
                    have js2 := hs2
                    have js3 := hs3
                    have js4 := hs4
                    have jk0 := hk0
                    have jk1 := hk1
                    have jk2 := hk2
                    have jk3 := hk3
                    have jk4 := hk4
                    rintro h10 k rfl hm hs1 hs2 hs3 hs4 fm2
                    have hk0 := (fm2 _ (ninc (cne jk0 js1 (by simp)) (ninc (cne jk0 js2 (by simp)) (ninc (cne jk0 js3 (by simp)) (ninc (cne jk0 js4 (by simp)) nin0))))).trans jk0
                    have hk1 := (fm2 _ (ninc (cne jk1 js1 (by simp)) (ninc (cne jk1 js2 (by simp)) (ninc (cne jk1 js3 (by simp)) (ninc (cne jk1 js4 (by simp)) nin0))))).trans jk1
                    have hk2 := (fm2 _ (ninc (cne jk2 js1 (by simp)) (ninc (cne jk2 js2 (by simp)) (ninc (cne jk2 js3 (by simp)) (ninc (cne jk2 js4 (by simp)) nin0))))).trans jk2
                    have hk3 := (fm2 _ (ninc (cne jk3 js1 (by simp)) (ninc (cne jk3 js2 (by simp)) (ninc (cne jk3 js3 (by simp)) (ninc (cne jk3 js4 (by simp)) nin0))))).trans jk3
                    have hk4 := (fm2 _ (ninc (cne jk4 js1 (by simp)) (ninc (cne jk4 js2 (by simp)) (ninc (cne jk4 js3 (by simp)) (ninc (cne jk4 js4 (by simp)) nin0))))).trans jk4
                    have fm := fm.call (by simp) fm2
                    refine ev_aload_n d_Mo_split_256 rfl rfl ?_
                    refine ev_dup d_Mo_split_257 rfl ?_
                    refine ev_getF d_Mo_split_258 fl_Mo_92 hm (by decide) f4 ?_
                    refine ev_iconst (v := iZ 1) d_Mo_split_261 rfl ?_
                    refine ez_iadd d_Mo_split_262 ?_
                    rw [show ((n : Int) + 1 : Int) = ((n + 1 : Nat) : Int) from by omega]
                    refine ev_putF2 d_Mo_split_263 fw_Mo_92 (Or.inr (fun _ _ _ q => by cases q; rfl)) hm (by decide) rfl rfl (fun h19 σ20 h19a σ20j σ20o h19o => ?_)
                    have f5 := (σ20o 5 (by decide)).trans f5
                    have f6 := (σ20o 6 (by decide)).trans f6
                    have f7 := (σ20o 7 (by decide)).trans f7
                    have f8 := (σ20o 8 (by decide)).trans f8
                    have f9 := (σ20o 9 (by decide)).trans f9
                    have f10 := (σ20o 10 (by decide)).trans f10
                    have f11 := (σ20o 11 (by decide)).trans f11
                    have f12 := (σ20o 12 (by decide)).trans f12
                    have f13 := (σ20o 13 (by decide)).trans f13
                    have f14 := (σ20o 14 (by decide)).trans f14
                    have f15 := (σ20o 15 (by decide)).trans f15
                    have f4 := σ20j
                    have fs := fs.step (by simp) σ20o
                    have hs1 := (h19o _ (cne hs1 hm (by simp))).trans hs1
                    have hs2 := (h19o _ (cne hs2 hm (by simp))).trans hs2
                    have hs3 := (h19o _ (cne hs3 hm (by simp))).trans hs3
                    have hs4 := (h19o _ (cne hs4 hm (by simp))).trans hs4
                    have hk0 := (h19o _ (cne hk0 hm (by simp))).trans hk0
                    have hk1 := (h19o _ (cne hk1 hm (by simp))).trans hk1
                    have hk2 := (h19o _ (cne hk2 hm (by simp))).trans hk2
                    have hk3 := (h19o _ (cne hk3 hm (by simp))).trans hk3
                    have hk4 := (h19o _ (cne hk4 hm (by simp))).trans hk4
                    have hm := h19a
                    have fm := fm.step (by simp) h19o
                    refine ev_aload_n d_Mo_split_266 rfl rfl ?_
                    refine ev_getF d_Mo_split_267 fl_Mo_27 hm (by decide) f7 ?_
                    refine ev_iload_n d_Mo_split_270 rfl rfl ?_
                    refine ev_iload_n d_Mo_split_271 rfl rfl ?_
                    refine ez_iastore (F' := zup (va_cpy S3 S3 k (k + 1) (n - k)) k (j : Int)) k d_Mo_split_272 hs3 (by omega) (by omega) (by decide) rfl (fun h21 h21a h21o => ?_)
                    have hm := (h21o _ (cne hm hs3 (by simp))).trans hm
                    have hs1 := (h21o _ (cne hs1 hs3 (by simp))).trans hs1
                    have hs2 := (h21o _ (cne hs2 hs3 (by simp))).trans hs2
                    have hs4 := (h21o _ (cne hs4 hs3 (by simp))).trans hs4
                    have hk0 := (h21o _ (cne hk0 hs3 (by simp))).trans hk0
                    have hk1 := (h21o _ (cne hk1 hs3 (by simp))).trans hk1
                    have hk2 := (h21o _ (cne hk2 hs3 (by simp))).trans hk2
                    have hk3 := (h21o _ (cne hk3 hs3 (by simp))).trans hk3
                    have hk4 := (h21o _ (cne hk4 hs3 (by simp))).trans hk4
                    have hs3 := h21a
                    have fm := fm.step (by simp) h21o
                    refine ev_aload_n d_Mo_split_273 rfl rfl ?_
                    refine ev_getF d_Mo_split_274 fl_Mo_24 hm (by decide) f6 ?_
                    refine ev_iload_n d_Mo_split_277 rfl rfl ?_
                    refine ev_lload d_Mo_split_278 rfl ?_
                    refine ez_lastore (F' := zup (va_cpy S2 S2 k (k + 1) (n - k)) k (spTm S1 S2 S3 S4 k j)) k d_Mo_split_280 hs2 (by omega) (by omega) (by decide) rfl (fun h22 h22a h22o => ?_)
                    have hm := (h22o _ (cne hm hs2 (by simp))).trans hm
                    have hs1 := (h22o _ n_s).trans hs1
                    have hs3 := (h22o _ (cne hs3 hs2 (by simp))).trans hs3
                    have hs4 := (h22o _ (cne hs4 hs2 (by simp))).trans hs4
                    have hk0 := (h22o _ (cne hk0 hs2 (by simp))).trans hk0
                    have hk1 := (h22o _ (cne hk1 hs2 (by simp))).trans hk1
                    have hk2 := (h22o _ (cne hk2 hs2 (by simp))).trans hk2
                    have hk3 := (h22o _ (cne hk3 hs2 (by simp))).trans hk3
                    have hk4 := (h22o _ (cne hk4 hs2 (by simp))).trans hk4
                    have hs2 := h22a
                    have fm := fm.step (by simp) h22o
                    refine ev_aload_n d_Mo_split_281 rfl rfl ?_
                    refine ev_getF d_Mo_split_282 fl_Mo_20 hm (by decide) f5 ?_
                    refine ev_iload_n d_Mo_split_285 rfl rfl ?_
                    refine ev_iconst (v := iZ 1) d_Mo_split_286 rfl ?_
                    refine ez_iadd d_Mo_split_287 ?_
                    refine ev_lload d_Mo_split_288 rfl ?_
                    refine ez_lastore (F' := zup (va_cpy S1 S1 k (k + 1) (n - k)) (k + 1) (spTm S1 S2 S3 S4 k j)) (k + 1) d_Mo_split_290 hs1 (by omega) (by omega) (by decide) rfl (fun h23 h23a h23o => ?_)
                    have hm := (h23o _ (cne hm hs1 (by simp))).trans hm
                    have hs2 := (h23o _ (Ne.symm n_s)).trans hs2
                    have hs3 := (h23o _ (cne hs3 hs1 (by simp))).trans hs3
                    have hs4 := (h23o _ (cne hs4 hs1 (by simp))).trans hs4
                    have hk0 := (h23o _ (cne hk0 hs1 (by simp))).trans hk0
                    have hk1 := (h23o _ (cne hk1 hs1 (by simp))).trans hk1
                    have hk2 := (h23o _ (cne hk2 hs1 (by simp))).trans hk2
                    have hk3 := (h23o _ (cne hk3 hs1 (by simp))).trans hk3
                    have hk4 := (h23o _ (cne hk4 hs1 (by simp))).trans hk4
                    have hs1 := h23a
                    have fm := fm.step (by simp) h23o
                    refine ev_aload_n d_Mo_split_291 rfl rfl ?_
                    refine ev_getF d_Mo_split_292 fl_Mo_27 hm (by decide) f7 ?_
                    refine ev_iload_n d_Mo_split_295 rfl rfl ?_
                    refine ev_iconst (v := iZ 1) d_Mo_split_296 rfl ?_
                    refine ez_iadd d_Mo_split_297 ?_
                    refine ev_iload_n d_Mo_split_298 rfl rfl ?_
                    refine ev_iload d_Mo_split_299 rfl ?_
                    refine ez_isub d_Mo_split_301 ?_
                    refine ez_iastore (F' := zup (zup (va_cpy S3 S3 k (k + 1) (n - k)) k (j : Int)) (k + 1) (((S3 k).toNat : Int) - ((spF S4 k j : Nat) : Int))) (k + 1) d_Mo_split_302 hs3 (by omega) (by omega) (by decide) rfl (fun h24 h24a h24o => ?_)
                    have hm := (h24o _ (cne hm hs3 (by simp))).trans hm
                    have hs1 := (h24o _ (cne hs1 hs3 (by simp))).trans hs1
                    have hs2 := (h24o _ (cne hs2 hs3 (by simp))).trans hs2
                    have hs4 := (h24o _ (cne hs4 hs3 (by simp))).trans hs4
                    have hk0 := (h24o _ (cne hk0 hs3 (by simp))).trans hk0
                    have hk1 := (h24o _ (cne hk1 hs3 (by simp))).trans hk1
                    have hk2 := (h24o _ (cne hk2 hs3 (by simp))).trans hk2
                    have hk3 := (h24o _ (cne hk3 hs3 (by simp))).trans hk3
                    have hk4 := (h24o _ (cne hk4 hs3 (by simp))).trans hk4
                    have hs3 := h24a
                    have fm := fm.step (by simp) h24o
                    refine ev_iload d_Mo_split_303 rfl ?_
                    refine ev_istore (L' := [(0, .ref m), (1, .int (iZ (k : Int))), (2, .int (iZ (j : Int))), (3, .int (iZ ((S3 k).toNat : Int))), (4, .int (iZ ((spF S4 k j : Nat) : Int))), (11, .long (lZ (spTm S1 S2 S3 S4 k j))), (13, .int (iZ ((spF S4 k j : Nat) : Int)))]) d_Mo_split_305 (by decide) rfl ?_
                    refine lp_Mo_sp2 G _ h24 k j (S3 k).toNat (spF S4 k j) (spTm S1 S2 S3 S4 k j) (by omega) (by omega) σ20 m s4 (va_cpy S4 S4 (64 * k) (64 * (k + 1)) (64 * (n - k))) f8 ?_ ((S3 k).toNat - spF S4 k j) 0 h24 (by omega) hm (by rw [cpy_z]; exact hs4) Fm.rf
                    have jm := hm
                    have js1 := hs1
                    have js2 := hs2
                    have js3 := hs3
                    have js4 := hs4
                    have jk0 := hk0
                    have jk1 := hk1
                    have jk2 := hk2
                    have jk3 := hk3
                    have jk4 := hk4
                    rintro h20 q rfl hm hs4 fm2
                    have hs1 := (fm2 _ (ninc (cne js1 js4 (by simp)) nin0)).trans js1
                    have hs2 := (fm2 _ (ninc (cne js2 js4 (by simp)) nin0)).trans js2
                    have hs3 := (fm2 _ (ninc (cne js3 js4 (by simp)) nin0)).trans js3
                    have hk0 := (fm2 _ (ninc (cne jk0 js4 (by simp)) nin0)).trans jk0
                    have hk1 := (fm2 _ (ninc (cne jk1 js4 (by simp)) nin0)).trans jk1
                    have hk2 := (fm2 _ (ninc (cne jk2 js4 (by simp)) nin0)).trans jk2
                    have hk3 := (fm2 _ (ninc (cne jk3 js4 (by simp)) nin0)).trans jk3
                    have hk4 := (fm2 _ (ninc (cne jk4 js4 (by simp)) nin0)).trans jk4
                    have fm := fm.call (by simp) fm2
                    refine ev_aload_n d_Mo_split_349 rfl rfl ?_
                    refine ev_getF d_Mo_split_350 fl_Mo_92 hm (by decide) f4 ?_
                    exact ev_ireturn d_Mo_split_353 rfl (by decide) (by decide) (⟨fun q => absurd q (fun q => by rcases q with q | q | q | q <;> omega), fun _ q => absurd q (by omega), fun _ _ => ⟨rfl, ⟨σ20, hm, f4, f9, f10, fs⟩, hs1, hs2, hs3, hs4, hk0, hk1, hk2, hk3, hk4, fm⟩⟩)
                  · refine ev_bipush (v := iZ (-3)) d_Mo_split_221 rfl ?_
                    exact ev_ireturn d_Mo_split_223 rfl (by decide) (by decide) (⟨fun q => absurd q (fun q => by rcases q with q | q | q | q <;> omega), fun _ _ => ⟨rfl, rfl⟩, fun _ q => absurd q (by omega)⟩)
                · refine ev_bipush (v := iZ (-2)) d_Mo_split_209 rfl ?_
                  exact ev_ireturn d_Mo_split_211 rfl (by decide) (by decide) (⟨fun _ => ⟨rfl, rfl⟩, fun q => absurd (Or.inr (by first | exact Or.inl (by omega) | exact Or.inr (Or.inl (by omega)) | exact Or.inr (Or.inr ⟨by omega, by omega⟩))) q, fun q => absurd (Or.inr (by first | exact Or.inl (by omega) | exact Or.inr (Or.inl (by omega)) | exact Or.inr (Or.inr ⟨by omega, by omega⟩))) q⟩)
      · refine ev_iload_n d_Mo_split_67 rfl rfl ?_
        refine ev_iconst (v := iZ 1) d_Mo_split_68 rfl ?_
        refine ez_iadd d_Mo_split_69 ?_
        refine ev_goto (tgt := 74) d_Mo_split_70 rfl ?_
        have e9 : spF S4 i j = j + 1 := if_pos (by omega)
        refine ev_top (((spF S4 i j : Nat) : Int)) (by omega) ?_
        refine ev_istore (L' := [(0, .ref m), (1, .int (iZ (i : Int))), (2, .int (iZ (j : Int))), (3, .int (iZ ((S3 i).toNat : Int))), (4, .int (iZ ((spF S4 i j : Nat) : Int)))]) d_Mo_split_74 (by decide) rfl ?_
        refine ev_aload_n d_Mo_split_76 rfl rfl ?_
        refine ev_iload_n d_Mo_split_77 rfl rfl ?_
        refine ev_iconst (v := iZ 0) d_Mo_split_78 rfl ?_
        refine ev_iload_n d_Mo_split_79 rfl rfl ?_
        refine ev_pV M_Mo_cells 1 22 (As := [.int (iZ (i : Int)), .int (iZ 0), .int (iZ (j : Int))]) (c_Mo_cells G h σ m s4 S4 hm f8 hs4 i 0 j (by omega) (by omega) hB) d_Mo_split_80 mk_Mo_cells ml_Mo_222 mv_Mo_cells hm rfl rfl rfl (Nat.le_of_ble_eq_true rfl) ⟨by decide, by decide⟩ ⟨by decide, by decide⟩ ?_
        refine ev_top (cellsN S4 (i * 64) j) (rfl) ?_
        have rl80 := cellsN_r S4 (i * 64) j
        refine ev_istore (L' := [(0, .ref m), (1, .int (iZ (i : Int))), (2, .int (iZ (j : Int))), (3, .int (iZ ((S3 i).toNat : Int))), (4, .int (iZ ((spF S4 i j : Nat) : Int))), (5, .int (iZ (cellsN S4 (i * 64) j)))]) d_Mo_split_83 (by decide) rfl ?_
        refine ev_iload d_Mo_split_85 rfl ?_
        refine ev_aload_n d_Mo_split_87 rfl rfl ?_
        refine ev_iload_n d_Mo_split_88 rfl rfl ?_
        refine ev_iload d_Mo_split_89 rfl ?_
        refine ev_iload_n d_Mo_split_91 rfl rfl ?_
        refine ev_pV M_Mo_cells 1 22 (As := [.int (iZ (i : Int)), .int (iZ ((spF S4 i j : Nat) : Int)), .int (iZ ((S3 i).toNat : Int))]) (c_Mo_cells G h σ m s4 S4 hm f8 hs4 i (spF S4 i j) (S3 i).toNat (by omega) (by omega) hB) d_Mo_split_92 mk_Mo_cells ml_Mo_222 mv_Mo_cells hm rfl rfl rfl (Nat.le_of_ble_eq_true rfl) ⟨by decide, by decide⟩ ⟨by decide, by decide⟩ ?_
        have rl92 := cellsN_r S4 (i * 64 + spF S4 i j) ((S3 i).toNat - spF S4 i j)
        refine ez_iadd d_Mo_split_95 ?_
        rw [show ((cellsN S4 (i * 64) j) + (cellsN S4 (i * 64 + (spF S4 i j)) ((S3 i).toNat - (spF S4 i j))) : Int) = cellsN S4 (i * 64) (S3 i).toNat from cells_sp (by omega)]
        have rla := cellsN_r S4 (i * 64) (S3 i).toNat
        refine ev_istore (L' := [(0, .ref m), (1, .int (iZ (i : Int))), (2, .int (iZ (j : Int))), (3, .int (iZ ((S3 i).toNat : Int))), (4, .int (iZ ((spF S4 i j : Nat) : Int))), (5, .int (iZ (cellsN S4 (i * 64) j))), (6, .int (iZ (cellsN S4 (i * 64) (S3 i).toNat)))]) d_Mo_split_96 (by decide) rfl ?_
        refine ev_iload d_Mo_split_98 rfl ?_
        refine ez_if_ne (tgt := 107) (by omega) d_Mo_split_100 rfl (fun c100 => ?_) (fun c100 => ?_)
        · refine ev_iload d_Mo_split_107 rfl ?_
          refine ez_i2l (by omega) d_Mo_split_109 ?_
          refine ev_lstore (L' := [(0, .ref m), (1, .int (iZ (i : Int))), (2, .int (iZ (j : Int))), (3, .int (iZ ((S3 i).toNat : Int))), (4, .int (iZ ((spF S4 i j : Nat) : Int))), (5, .int (iZ (cellsN S4 (i * 64) j))), (6, .int (iZ (cellsN S4 (i * 64) (S3 i).toNat))), (7, .long (lZ (cellsN S4 (i * 64) j)))]) d_Mo_split_110 (by decide) rfl ?_
          refine ev_iload d_Mo_split_112 rfl ?_
          refine ez_if_ne (tgt := 123) (by omega) d_Mo_split_114 rfl (fun c114 => ?_) (fun c114 => absurd c114 (by omega))
          refine ev_iload d_Mo_split_123 rfl ?_
          refine ez_i2l (by omega) d_Mo_split_125 ?_
          refine ev_lstore (L' := [(0, .ref m), (1, .int (iZ (i : Int))), (2, .int (iZ (j : Int))), (3, .int (iZ ((S3 i).toNat : Int))), (4, .int (iZ ((spF S4 i j : Nat) : Int))), (5, .int (iZ (cellsN S4 (i * 64) j))), (6, .int (iZ (cellsN S4 (i * 64) (S3 i).toNat))), (7, .long (lZ (cellsN S4 (i * 64) j))), (9, .long (lZ (cellsN S4 (i * 64) (S3 i).toNat)))]) d_Mo_split_126 (by decide) rfl ?_
          refine ev_aload_n d_Mo_split_128 rfl rfl ?_
          refine ev_getF d_Mo_split_129 fl_Mo_20 hm (by decide) f5 ?_
          refine ev_iload_n d_Mo_split_132 rfl rfl ?_
          refine ez_laload i d_Mo_split_133 hs1 (by omega) (by omega) (by decide) ?_
          refine ev_lload d_Mo_split_134 rfl ?_
          refine ez_lmul d_Mo_split_136 ?_
          refine ev_aload_n d_Mo_split_137 rfl rfl ?_
          refine ev_getF d_Mo_split_138 fl_Mo_24 hm (by decide) f6 ?_
          refine ev_iload_n d_Mo_split_141 rfl rfl ?_
          refine ez_laload i d_Mo_split_142 hs2 (by omega) (by omega) (by decide) ?_
          refine ev_aload_n d_Mo_split_143 rfl rfl ?_
          refine ev_getF d_Mo_split_144 fl_Mo_20 hm (by decide) f5 ?_
          refine ev_iload_n d_Mo_split_147 rfl rfl ?_
          refine ez_laload i d_Mo_split_148 hs1 (by omega) (by omega) (by decide) ?_
          refine ez_lsub d_Mo_split_149 ?_
          refine ev_lload d_Mo_split_150 rfl ?_
          refine ez_lmul d_Mo_split_152 ?_
          refine ez_ladd d_Mo_split_153 ?_
          refine ev_lload d_Mo_split_154 rfl ?_
          have m1 := mulB (x := S1 i) (y := cellsN S4 (i * 64) (S3 i).toNat) (L := 2540160000000) (M := 128) (by omega) (by omega) (by omega) (by omega)
          have m2 := mulB (x := S2 i - S1 i) (y := cellsN S4 (i * 64) j) (L := 2540160000000) (M := 128) (by omega) (by omega) (by omega) (by omega)
          refine ev_pS M_Mo_nearest 0 0 (As := [.long (lZ (((S1 i) * (cellsN S4 (i * 64) (S3 i).toNat)) + (((S2 i) - (S1 i)) * (cellsN S4 (i * 64) j)))), .long (lZ (cellsN S4 (i * 64) (S3 i).toNat))]) (c_Mo_nearest G h _ _ (by omega) (by omega)) d_Mo_split_156 mk_Mo_nearest ml_Mo_189 ms_Mo_nearest rfl rfl (Nat.le_of_ble_eq_true rfl) ⟨by decide, by decide⟩ ⟨by decide, by decide⟩ ?_
          refine ev_topl (spTm S1 S2 S3 S4 i j) (Eq.symm (if_neg (by omega))) ?_
          have rt : -1000000000000000 ≤ spTm S1 S2 S3 S4 i j ∧ spTm S1 S2 S3 S4 i j ≤ 1000000000000000 := splT_r (hT i) (hE i) (by omega) (by omega)
          refine ev_lstore (L' := [(0, .ref m), (1, .int (iZ (i : Int))), (2, .int (iZ (j : Int))), (3, .int (iZ ((S3 i).toNat : Int))), (4, .int (iZ ((spF S4 i j : Nat) : Int))), (5, .int (iZ (cellsN S4 (i * 64) j))), (6, .int (iZ (cellsN S4 (i * 64) (S3 i).toNat))), (7, .long (lZ (cellsN S4 (i * 64) j))), (9, .long (lZ (cellsN S4 (i * 64) (S3 i).toNat))), (11, .long (lZ (spTm S1 S2 S3 S4 i j)))]) d_Mo_split_159 (by decide) rfl ?_
          refine ev_lload d_Mo_split_161 rfl ?_
          refine ev_aload_n d_Mo_split_163 rfl rfl ?_
          refine ev_getF d_Mo_split_164 fl_Mo_20 hm (by decide) f5 ?_
          refine ev_iload_n d_Mo_split_167 rfl rfl ?_
          refine ez_laload i d_Mo_split_168 hs1 (by omega) (by omega) (by decide) ?_
          refine ev_lcmp d_Mo_split_169 ?_
          refine ez_lif_le (tgt := 209) (by omega) (by omega) d_Mo_split_170 rfl (fun c170 => ?_) (fun c170 => ?_)
          · refine ev_bipush (v := iZ (-2)) d_Mo_split_209 rfl ?_
            exact ev_ireturn d_Mo_split_211 rfl (by decide) (by decide) (⟨fun _ => ⟨rfl, rfl⟩, fun q => absurd (Or.inr (by first | exact Or.inl (by omega) | exact Or.inr (Or.inl (by omega)) | exact Or.inr (Or.inr ⟨by omega, by omega⟩))) q, fun q => absurd (Or.inr (by first | exact Or.inl (by omega) | exact Or.inr (Or.inl (by omega)) | exact Or.inr (Or.inr ⟨by omega, by omega⟩))) q⟩)
          · refine ev_lload d_Mo_split_173 rfl ?_
            refine ev_aload_n d_Mo_split_175 rfl rfl ?_
            refine ev_getF d_Mo_split_176 fl_Mo_24 hm (by decide) f6 ?_
            refine ev_iload_n d_Mo_split_179 rfl rfl ?_
            refine ez_laload i d_Mo_split_180 hs2 (by omega) (by omega) (by decide) ?_
            refine ev_lcmp d_Mo_split_181 ?_
            refine ez_lif_ge (tgt := 209) (by omega) (by omega) d_Mo_split_182 rfl (fun c182 => ?_) (fun c182 => ?_)
            · refine ev_bipush (v := iZ (-2)) d_Mo_split_209 rfl ?_
              exact ev_ireturn d_Mo_split_211 rfl (by decide) (by decide) (⟨fun _ => ⟨rfl, rfl⟩, fun q => absurd (Or.inr (by first | exact Or.inl (by omega) | exact Or.inr (Or.inl (by omega)) | exact Or.inr (Or.inr ⟨by omega, by omega⟩))) q, fun q => absurd (Or.inr (by first | exact Or.inl (by omega) | exact Or.inr (Or.inl (by omega)) | exact Or.inr (Or.inr ⟨by omega, by omega⟩))) q⟩)
            · refine ev_iload_n d_Mo_split_185 rfl rfl ?_
              refine ev_iconst (v := iZ 1) d_Mo_split_186 rfl ?_
              refine ez_iadd d_Mo_split_187 ?_
              refine ev_aload_n d_Mo_split_188 rfl rfl ?_
              refine ev_getF d_Mo_split_189 fl_Mo_92 hm (by decide) f4 ?_
              refine ez_icmp_ge (tgt := 212) (by omega) (by omega) d_Mo_split_192 rfl (fun c192 => ?_) (fun c192 => ?_)
              · refine ev_aload_n d_Mo_split_212 rfl rfl ?_
                refine ev_getF d_Mo_split_213 fl_Mo_92 hm (by decide) f4 ?_
                refine ev_bipush (v := iZ 16) d_Mo_split_216 rfl ?_
                refine ez_icmp_ne (tgt := 224) (by omega) (by decide) d_Mo_split_218 rfl (fun c218 => ?_) (fun c218 => ?_)
                · refine ev_aload_n d_Mo_split_224 rfl rfl ?_
                  refine ev_callV M_Mo_keep (rm 0 0) _ (As := []) (c_Mo_keep G h σ m s1 s2 s3 s4 k0 k1 k2 k3 k4 n c bk S1 S2 S3 S4 K0 K1 K2 K3 K4 hm f4 f5 f6 f7 f8 f9 f10 f11 f12 f13 f14 f15 hs1 hs2 hs3 hs4 hk0 hk1 hk2 hk3 hk4 hc hbk n_s n_k) d_Mo_split_225 mk_Mo_keep ml_Mo_176 mv_Mo_keep hm rfl rfl rfl (Nat.le_of_ble_eq_true rfl) ⟨by decide, by decide⟩ ⟨by decide, by decide⟩ (fun r h8 hq => ?_)
                  obtain ⟨rfl, ⟨σ9, gm, g9, g10, gs⟩, gk0, gk1, gk2, gk3, gk4, fmk⟩ := hq
                  have hs1 := (fmk _ (ninc (cne hs1 hm (by simp)) (ninc (cne hs1 hk0 (by simp)) (ninc (cne hs1 hk1 (by simp)) (ninc (cne hs1 hk2 (by simp)) (ninc (cne hs1 hk3 (by simp)) (ninc (cne hs1 hk4 (by simp)) nin0))))))).trans hs1
                  have hs2 := (fmk _ (ninc (cne hs2 hm (by simp)) (ninc (cne hs2 hk0 (by simp)) (ninc (cne hs2 hk1 (by simp)) (ninc (cne hs2 hk2 (by simp)) (ninc (cne hs2 hk3 (by simp)) (ninc (cne hs2 hk4 (by simp)) nin0))))))).trans hs2
                  have hs3 := (fmk _ (ninc (cne hs3 hm (by simp)) (ninc (cne hs3 hk0 (by simp)) (ninc (cne hs3 hk1 (by simp)) (ninc (cne hs3 hk2 (by simp)) (ninc (cne hs3 hk3 (by simp)) (ninc (cne hs3 hk4 (by simp)) nin0))))))).trans hs3
                  have hs4 := (fmk _ (ninc (cne hs4 hm (by simp)) (ninc (cne hs4 hk0 (by simp)) (ninc (cne hs4 hk1 (by simp)) (ninc (cne hs4 hk2 (by simp)) (ninc (cne hs4 hk3 (by simp)) (ninc (cne hs4 hk4 (by simp)) nin0))))))).trans hs4
                  have hm := gm
                  have hk0 := gk0
                  have hk1 := gk1
                  have hk2 := gk2
                  have hk3 := gk3
                  have hk4 := gk4
                  have f4 := (gs 4 (by decide)).trans f4
                  have f5 := (gs 5 (by decide)).trans f5
                  have f6 := (gs 6 (by decide)).trans f6
                  have f7 := (gs 7 (by decide)).trans f7
                  have f8 := (gs 8 (by decide)).trans f8
                  have f11 := (gs 11 (by decide)).trans f11
                  have f12 := (gs 12 (by decide)).trans f12
                  have f13 := (gs 13 (by decide)).trans f13
                  have f14 := (gs 14 (by decide)).trans f14
                  have f15 := (gs 15 (by decide)).trans f15
                  have f9 := g9
                  have f10 := g10
                  have fm := fm.call (by simp) fmk
                  have fs := fs.call (by simp) gs
                  refine ev_aload_n d_Mo_split_228 rfl rfl ?_
                  refine ev_getF d_Mo_split_229 fl_Mo_92 hm (by decide) f4 ?_
                  refine ev_istore (L' := [(0, .ref m), (1, .int (iZ (i : Int))), (2, .int (iZ (j : Int))), (3, .int (iZ ((S3 i).toNat : Int))), (4, .int (iZ ((spF S4 i j : Nat) : Int))), (5, .int (iZ (cellsN S4 (i * 64) j))), (6, .int (iZ (cellsN S4 (i * 64) (S3 i).toNat))), (7, .long (lZ (cellsN S4 (i * 64) j))), (9, .long (lZ (cellsN S4 (i * 64) (S3 i).toNat))), (11, .long (lZ (spTm S1 S2 S3 S4 i j))), (13, .int (iZ (n : Int)))]) d_Mo_split_232 (by decide) rfl ?_
                  refine ev_loc [(0, .ref m), (1, .int (iZ (i : Int))), (2, .int (iZ (j : Int))), (3, .int (iZ ((S3 i).toNat : Int))), (4, .int (iZ ((spF S4 i j : Nat) : Int))), (11, .long (lZ (spTm S1 S2 S3 S4 i j))), (13, .int (iZ (n : Int)))] (by simp) ?_
                  refine lp_Mo_sp1 G _ h8 i j (S3 i).toNat (spF S4 i j) n (spTm S1 S2 S3 S4 i j) hi (by omega) σ9 m s1 s2 s3 s4 S1 S2 S3 S4 f4 f5 f6 f7 f8 n_s ?_ (n - i) n h8 (by omega) (by omega) hm (by rw [Nat.sub_self, cpy_z]; exact hs1) (by rw [Nat.sub_self, cpy_z]; exact hs2) (by rw [Nat.sub_self, cpy_z]; exact hs3) (by rw [Nat.sub_self, Nat.mul_zero, cpy_z]; exact hs4) Fm.rf
                  have jm := hm
                  have js1 := hs1
                  have js2 := hs2
                  have js3 := hs3
                  have js4 := hs4
                  have jk0 := hk0
                  have jk1 := hk1
                  have jk2 := hk2
                  have jk3 := hk3
                  have jk4 := hk4
                  rintro h10 k rfl hm hs1 hs2 hs3 hs4 fm2
                  have hk0 := (fm2 _ (ninc (cne jk0 js1 (by simp)) (ninc (cne jk0 js2 (by simp)) (ninc (cne jk0 js3 (by simp)) (ninc (cne jk0 js4 (by simp)) nin0))))).trans jk0
                  have hk1 := (fm2 _ (ninc (cne jk1 js1 (by simp)) (ninc (cne jk1 js2 (by simp)) (ninc (cne jk1 js3 (by simp)) (ninc (cne jk1 js4 (by simp)) nin0))))).trans jk1
                  have hk2 := (fm2 _ (ninc (cne jk2 js1 (by simp)) (ninc (cne jk2 js2 (by simp)) (ninc (cne jk2 js3 (by simp)) (ninc (cne jk2 js4 (by simp)) nin0))))).trans jk2
                  have hk3 := (fm2 _ (ninc (cne jk3 js1 (by simp)) (ninc (cne jk3 js2 (by simp)) (ninc (cne jk3 js3 (by simp)) (ninc (cne jk3 js4 (by simp)) nin0))))).trans jk3
                  have hk4 := (fm2 _ (ninc (cne jk4 js1 (by simp)) (ninc (cne jk4 js2 (by simp)) (ninc (cne jk4 js3 (by simp)) (ninc (cne jk4 js4 (by simp)) nin0))))).trans jk4
                  have fm := fm.call (by simp) fm2
                  refine ev_aload_n d_Mo_split_256 rfl rfl ?_
                  refine ev_dup d_Mo_split_257 rfl ?_
                  refine ev_getF d_Mo_split_258 fl_Mo_92 hm (by decide) f4 ?_
                  refine ev_iconst (v := iZ 1) d_Mo_split_261 rfl ?_
                  refine ez_iadd d_Mo_split_262 ?_
                  rw [show ((n : Int) + 1 : Int) = ((n + 1 : Nat) : Int) from by omega]
                  refine ev_putF2 d_Mo_split_263 fw_Mo_92 (Or.inr (fun _ _ _ q => by cases q; rfl)) hm (by decide) rfl rfl (fun h25 σ26 h25a σ26j σ26o h25o => ?_)
                  have f5 := (σ26o 5 (by decide)).trans f5
                  have f6 := (σ26o 6 (by decide)).trans f6
                  have f7 := (σ26o 7 (by decide)).trans f7
                  have f8 := (σ26o 8 (by decide)).trans f8
                  have f9 := (σ26o 9 (by decide)).trans f9
                  have f10 := (σ26o 10 (by decide)).trans f10
                  have f11 := (σ26o 11 (by decide)).trans f11
                  have f12 := (σ26o 12 (by decide)).trans f12
                  have f13 := (σ26o 13 (by decide)).trans f13
                  have f14 := (σ26o 14 (by decide)).trans f14
                  have f15 := (σ26o 15 (by decide)).trans f15
                  have f4 := σ26j
                  have fs := fs.step (by simp) σ26o
                  have hs1 := (h25o _ (cne hs1 hm (by simp))).trans hs1
                  have hs2 := (h25o _ (cne hs2 hm (by simp))).trans hs2
                  have hs3 := (h25o _ (cne hs3 hm (by simp))).trans hs3
                  have hs4 := (h25o _ (cne hs4 hm (by simp))).trans hs4
                  have hk0 := (h25o _ (cne hk0 hm (by simp))).trans hk0
                  have hk1 := (h25o _ (cne hk1 hm (by simp))).trans hk1
                  have hk2 := (h25o _ (cne hk2 hm (by simp))).trans hk2
                  have hk3 := (h25o _ (cne hk3 hm (by simp))).trans hk3
                  have hk4 := (h25o _ (cne hk4 hm (by simp))).trans hk4
                  have hm := h25a
                  have fm := fm.step (by simp) h25o
                  refine ev_aload_n d_Mo_split_266 rfl rfl ?_
                  refine ev_getF d_Mo_split_267 fl_Mo_27 hm (by decide) f7 ?_
                  refine ev_iload_n d_Mo_split_270 rfl rfl ?_
                  refine ev_iload_n d_Mo_split_271 rfl rfl ?_
                  refine ez_iastore (F' := zup (va_cpy S3 S3 k (k + 1) (n - k)) k (j : Int)) k d_Mo_split_272 hs3 (by omega) (by omega) (by decide) rfl (fun h27 h27a h27o => ?_)
                  have hm := (h27o _ (cne hm hs3 (by simp))).trans hm
                  have hs1 := (h27o _ (cne hs1 hs3 (by simp))).trans hs1
                  have hs2 := (h27o _ (cne hs2 hs3 (by simp))).trans hs2
                  have hs4 := (h27o _ (cne hs4 hs3 (by simp))).trans hs4
                  have hk0 := (h27o _ (cne hk0 hs3 (by simp))).trans hk0
                  have hk1 := (h27o _ (cne hk1 hs3 (by simp))).trans hk1
                  have hk2 := (h27o _ (cne hk2 hs3 (by simp))).trans hk2
                  have hk3 := (h27o _ (cne hk3 hs3 (by simp))).trans hk3
                  have hk4 := (h27o _ (cne hk4 hs3 (by simp))).trans hk4
                  have hs3 := h27a
                  have fm := fm.step (by simp) h27o
                  refine ev_aload_n d_Mo_split_273 rfl rfl ?_
                  refine ev_getF d_Mo_split_274 fl_Mo_24 hm (by decide) f6 ?_
                  refine ev_iload_n d_Mo_split_277 rfl rfl ?_
                  refine ev_lload d_Mo_split_278 rfl ?_
                  refine ez_lastore (F' := zup (va_cpy S2 S2 k (k + 1) (n - k)) k (spTm S1 S2 S3 S4 k j)) k d_Mo_split_280 hs2 (by omega) (by omega) (by decide) rfl (fun h28 h28a h28o => ?_)
                  have hm := (h28o _ (cne hm hs2 (by simp))).trans hm
                  have hs1 := (h28o _ n_s).trans hs1
                  have hs3 := (h28o _ (cne hs3 hs2 (by simp))).trans hs3
                  have hs4 := (h28o _ (cne hs4 hs2 (by simp))).trans hs4
                  have hk0 := (h28o _ (cne hk0 hs2 (by simp))).trans hk0
                  have hk1 := (h28o _ (cne hk1 hs2 (by simp))).trans hk1
                  have hk2 := (h28o _ (cne hk2 hs2 (by simp))).trans hk2
                  have hk3 := (h28o _ (cne hk3 hs2 (by simp))).trans hk3
                  have hk4 := (h28o _ (cne hk4 hs2 (by simp))).trans hk4
                  have hs2 := h28a
                  have fm := fm.step (by simp) h28o
                  refine ev_aload_n d_Mo_split_281 rfl rfl ?_
                  refine ev_getF d_Mo_split_282 fl_Mo_20 hm (by decide) f5 ?_
                  refine ev_iload_n d_Mo_split_285 rfl rfl ?_
                  refine ev_iconst (v := iZ 1) d_Mo_split_286 rfl ?_
                  refine ez_iadd d_Mo_split_287 ?_
                  refine ev_lload d_Mo_split_288 rfl ?_
                  refine ez_lastore (F' := zup (va_cpy S1 S1 k (k + 1) (n - k)) (k + 1) (spTm S1 S2 S3 S4 k j)) (k + 1) d_Mo_split_290 hs1 (by omega) (by omega) (by decide) rfl (fun h29 h29a h29o => ?_)
                  have hm := (h29o _ (cne hm hs1 (by simp))).trans hm
                  have hs2 := (h29o _ (Ne.symm n_s)).trans hs2
                  have hs3 := (h29o _ (cne hs3 hs1 (by simp))).trans hs3
                  have hs4 := (h29o _ (cne hs4 hs1 (by simp))).trans hs4
                  have hk0 := (h29o _ (cne hk0 hs1 (by simp))).trans hk0
                  have hk1 := (h29o _ (cne hk1 hs1 (by simp))).trans hk1
                  have hk2 := (h29o _ (cne hk2 hs1 (by simp))).trans hk2
                  have hk3 := (h29o _ (cne hk3 hs1 (by simp))).trans hk3
                  have hk4 := (h29o _ (cne hk4 hs1 (by simp))).trans hk4
                  have hs1 := h29a
                  have fm := fm.step (by simp) h29o
                  refine ev_aload_n d_Mo_split_291 rfl rfl ?_
                  refine ev_getF d_Mo_split_292 fl_Mo_27 hm (by decide) f7 ?_
                  refine ev_iload_n d_Mo_split_295 rfl rfl ?_
                  refine ev_iconst (v := iZ 1) d_Mo_split_296 rfl ?_
                  refine ez_iadd d_Mo_split_297 ?_
                  refine ev_iload_n d_Mo_split_298 rfl rfl ?_
                  refine ev_iload d_Mo_split_299 rfl ?_
                  refine ez_isub d_Mo_split_301 ?_
                  refine ez_iastore (F' := zup (zup (va_cpy S3 S3 k (k + 1) (n - k)) k (j : Int)) (k + 1) (((S3 k).toNat : Int) - ((spF S4 k j : Nat) : Int))) (k + 1) d_Mo_split_302 hs3 (by omega) (by omega) (by decide) rfl (fun h30 h30a h30o => ?_)
                  have hm := (h30o _ (cne hm hs3 (by simp))).trans hm
                  have hs1 := (h30o _ (cne hs1 hs3 (by simp))).trans hs1
                  have hs2 := (h30o _ (cne hs2 hs3 (by simp))).trans hs2
                  have hs4 := (h30o _ (cne hs4 hs3 (by simp))).trans hs4
                  have hk0 := (h30o _ (cne hk0 hs3 (by simp))).trans hk0
                  have hk1 := (h30o _ (cne hk1 hs3 (by simp))).trans hk1
                  have hk2 := (h30o _ (cne hk2 hs3 (by simp))).trans hk2
                  have hk3 := (h30o _ (cne hk3 hs3 (by simp))).trans hk3
                  have hk4 := (h30o _ (cne hk4 hs3 (by simp))).trans hk4
                  have hs3 := h30a
                  have fm := fm.step (by simp) h30o
                  refine ev_iload d_Mo_split_303 rfl ?_
                  refine ev_istore (L' := [(0, .ref m), (1, .int (iZ (k : Int))), (2, .int (iZ (j : Int))), (3, .int (iZ ((S3 k).toNat : Int))), (4, .int (iZ ((spF S4 k j : Nat) : Int))), (11, .long (lZ (spTm S1 S2 S3 S4 k j))), (13, .int (iZ ((spF S4 k j : Nat) : Int)))]) d_Mo_split_305 (by decide) rfl ?_
                  refine lp_Mo_sp2 G _ h30 k j (S3 k).toNat (spF S4 k j) (spTm S1 S2 S3 S4 k j) (by omega) (by omega) σ26 m s4 (va_cpy S4 S4 (64 * k) (64 * (k + 1)) (64 * (n - k))) f8 ?_ ((S3 k).toNat - spF S4 k j) 0 h30 (by omega) hm (by rw [cpy_z]; exact hs4) Fm.rf
                  have jm := hm
                  have js1 := hs1
                  have js2 := hs2
                  have js3 := hs3
                  have js4 := hs4
                  have jk0 := hk0
                  have jk1 := hk1
                  have jk2 := hk2
                  have jk3 := hk3
                  have jk4 := hk4
                  rintro h20 q rfl hm hs4 fm2
                  have hs1 := (fm2 _ (ninc (cne js1 js4 (by simp)) nin0)).trans js1
                  have hs2 := (fm2 _ (ninc (cne js2 js4 (by simp)) nin0)).trans js2
                  have hs3 := (fm2 _ (ninc (cne js3 js4 (by simp)) nin0)).trans js3
                  have hk0 := (fm2 _ (ninc (cne jk0 js4 (by simp)) nin0)).trans jk0
                  have hk1 := (fm2 _ (ninc (cne jk1 js4 (by simp)) nin0)).trans jk1
                  have hk2 := (fm2 _ (ninc (cne jk2 js4 (by simp)) nin0)).trans jk2
                  have hk3 := (fm2 _ (ninc (cne jk3 js4 (by simp)) nin0)).trans jk3
                  have hk4 := (fm2 _ (ninc (cne jk4 js4 (by simp)) nin0)).trans jk4
                  have fm := fm.call (by simp) fm2
                  refine ev_aload_n d_Mo_split_349 rfl rfl ?_
                  refine ev_getF d_Mo_split_350 fl_Mo_92 hm (by decide) f4 ?_
                  exact ev_ireturn d_Mo_split_353 rfl (by decide) (by decide) (⟨fun q => absurd q (fun q => by rcases q with q | q | q | q <;> omega), fun _ q => absurd q (by omega), fun _ _ => ⟨rfl, ⟨σ26, hm, f4, f9, f10, fs⟩, hs1, hs2, hs3, hs4, hk0, hk1, hk2, hk3, hk4, fm⟩⟩)
                · refine ev_bipush (v := iZ (-3)) d_Mo_split_221 rfl ?_
                  exact ev_ireturn d_Mo_split_223 rfl (by decide) (by decide) (⟨fun q => absurd q (fun q => by rcases q with q | q | q | q <;> omega), fun _ _ => ⟨rfl, rfl⟩, fun _ q => absurd q (by omega)⟩)
              · refine ev_aload_n d_Mo_split_195 rfl rfl ?_
                refine ev_getF d_Mo_split_196 fl_Mo_20 hm (by decide) f5 ?_
                refine ev_iload_n d_Mo_split_199 rfl rfl ?_
                refine ev_iconst (v := iZ 1) d_Mo_split_200 rfl ?_
                refine ez_iadd d_Mo_split_201 ?_
                refine ez_laload (i + 1) d_Mo_split_202 hs1 (by omega) (by omega) (by decide) ?_
                refine ev_lload d_Mo_split_203 rfl ?_
                refine ev_lcmp d_Mo_split_205 ?_
                refine ez_lif_ge (tgt := 212) (by omega) (by omega) d_Mo_split_206 rfl (fun c206 => ?_) (fun c206 => ?_)
                · refine ev_aload_n d_Mo_split_212 rfl rfl ?_
                  refine ev_getF d_Mo_split_213 fl_Mo_92 hm (by decide) f4 ?_
                  refine ev_bipush (v := iZ 16) d_Mo_split_216 rfl ?_
                  refine ez_icmp_ne (tgt := 224) (by omega) (by decide) d_Mo_split_218 rfl (fun c218 => ?_) (fun c218 => ?_)
                  · refine ev_aload_n d_Mo_split_224 rfl rfl ?_
                    refine ev_callV M_Mo_keep (rm 0 0) _ (As := []) (c_Mo_keep G h σ m s1 s2 s3 s4 k0 k1 k2 k3 k4 n c bk S1 S2 S3 S4 K0 K1 K2 K3 K4 hm f4 f5 f6 f7 f8 f9 f10 f11 f12 f13 f14 f15 hs1 hs2 hs3 hs4 hk0 hk1 hk2 hk3 hk4 hc hbk n_s n_k) d_Mo_split_225 mk_Mo_keep ml_Mo_176 mv_Mo_keep hm rfl rfl rfl (Nat.le_of_ble_eq_true rfl) ⟨by decide, by decide⟩ ⟨by decide, by decide⟩ (fun r h8 hq => ?_)
                    obtain ⟨rfl, ⟨σ9, gm, g9, g10, gs⟩, gk0, gk1, gk2, gk3, gk4, fmk⟩ := hq
                    have hs1 := (fmk _ (ninc (cne hs1 hm (by simp)) (ninc (cne hs1 hk0 (by simp)) (ninc (cne hs1 hk1 (by simp)) (ninc (cne hs1 hk2 (by simp)) (ninc (cne hs1 hk3 (by simp)) (ninc (cne hs1 hk4 (by simp)) nin0))))))).trans hs1
                    have hs2 := (fmk _ (ninc (cne hs2 hm (by simp)) (ninc (cne hs2 hk0 (by simp)) (ninc (cne hs2 hk1 (by simp)) (ninc (cne hs2 hk2 (by simp)) (ninc (cne hs2 hk3 (by simp)) (ninc (cne hs2 hk4 (by simp)) nin0))))))).trans hs2
                    have hs3 := (fmk _ (ninc (cne hs3 hm (by simp)) (ninc (cne hs3 hk0 (by simp)) (ninc (cne hs3 hk1 (by simp)) (ninc (cne hs3 hk2 (by simp)) (ninc (cne hs3 hk3 (by simp)) (ninc (cne hs3 hk4 (by simp)) nin0))))))).trans hs3
                    have hs4 := (fmk _ (ninc (cne hs4 hm (by simp)) (ninc (cne hs4 hk0 (by simp)) (ninc (cne hs4 hk1 (by simp)) (ninc (cne hs4 hk2 (by simp)) (ninc (cne hs4 hk3 (by simp)) (ninc (cne hs4 hk4 (by simp)) nin0))))))).trans hs4
                    have hm := gm
                    have hk0 := gk0
                    have hk1 := gk1
                    have hk2 := gk2
                    have hk3 := gk3
                    have hk4 := gk4
                    have f4 := (gs 4 (by decide)).trans f4
                    have f5 := (gs 5 (by decide)).trans f5
                    have f6 := (gs 6 (by decide)).trans f6
                    have f7 := (gs 7 (by decide)).trans f7
                    have f8 := (gs 8 (by decide)).trans f8
                    have f11 := (gs 11 (by decide)).trans f11
                    have f12 := (gs 12 (by decide)).trans f12
                    have f13 := (gs 13 (by decide)).trans f13
                    have f14 := (gs 14 (by decide)).trans f14
                    have f15 := (gs 15 (by decide)).trans f15
                    have f9 := g9
                    have f10 := g10
                    have fm := fm.call (by simp) fmk
                    have fs := fs.call (by simp) gs
                    refine ev_aload_n d_Mo_split_228 rfl rfl ?_
                    refine ev_getF d_Mo_split_229 fl_Mo_92 hm (by decide) f4 ?_
                    refine ev_istore (L' := [(0, .ref m), (1, .int (iZ (i : Int))), (2, .int (iZ (j : Int))), (3, .int (iZ ((S3 i).toNat : Int))), (4, .int (iZ ((spF S4 i j : Nat) : Int))), (5, .int (iZ (cellsN S4 (i * 64) j))), (6, .int (iZ (cellsN S4 (i * 64) (S3 i).toNat))), (7, .long (lZ (cellsN S4 (i * 64) j))), (9, .long (lZ (cellsN S4 (i * 64) (S3 i).toNat))), (11, .long (lZ (spTm S1 S2 S3 S4 i j))), (13, .int (iZ (n : Int)))]) d_Mo_split_232 (by decide) rfl ?_
                    refine ev_loc [(0, .ref m), (1, .int (iZ (i : Int))), (2, .int (iZ (j : Int))), (3, .int (iZ ((S3 i).toNat : Int))), (4, .int (iZ ((spF S4 i j : Nat) : Int))), (11, .long (lZ (spTm S1 S2 S3 S4 i j))), (13, .int (iZ (n : Int)))] (by simp) ?_
                    refine lp_Mo_sp1 G _ h8 i j (S3 i).toNat (spF S4 i j) n (spTm S1 S2 S3 S4 i j) hi (by omega) σ9 m s1 s2 s3 s4 S1 S2 S3 S4 f4 f5 f6 f7 f8 n_s ?_ (n - i) n h8 (by omega) (by omega) hm (by rw [Nat.sub_self, cpy_z]; exact hs1) (by rw [Nat.sub_self, cpy_z]; exact hs2) (by rw [Nat.sub_self, cpy_z]; exact hs3) (by rw [Nat.sub_self, Nat.mul_zero, cpy_z]; exact hs4) Fm.rf
                    have jm := hm
                    have js1 := hs1
                    have js2 := hs2
                    have js3 := hs3
                    have js4 := hs4
                    have jk0 := hk0
                    have jk1 := hk1
                    have jk2 := hk2
                    have jk3 := hk3
                    have jk4 := hk4
                    rintro h10 k rfl hm hs1 hs2 hs3 hs4 fm2
                    have hk0 := (fm2 _ (ninc (cne jk0 js1 (by simp)) (ninc (cne jk0 js2 (by simp)) (ninc (cne jk0 js3 (by simp)) (ninc (cne jk0 js4 (by simp)) nin0))))).trans jk0
                    have hk1 := (fm2 _ (ninc (cne jk1 js1 (by simp)) (ninc (cne jk1 js2 (by simp)) (ninc (cne jk1 js3 (by simp)) (ninc (cne jk1 js4 (by simp)) nin0))))).trans jk1
                    have hk2 := (fm2 _ (ninc (cne jk2 js1 (by simp)) (ninc (cne jk2 js2 (by simp)) (ninc (cne jk2 js3 (by simp)) (ninc (cne jk2 js4 (by simp)) nin0))))).trans jk2
                    have hk3 := (fm2 _ (ninc (cne jk3 js1 (by simp)) (ninc (cne jk3 js2 (by simp)) (ninc (cne jk3 js3 (by simp)) (ninc (cne jk3 js4 (by simp)) nin0))))).trans jk3
                    have hk4 := (fm2 _ (ninc (cne jk4 js1 (by simp)) (ninc (cne jk4 js2 (by simp)) (ninc (cne jk4 js3 (by simp)) (ninc (cne jk4 js4 (by simp)) nin0))))).trans jk4
                    have fm := fm.call (by simp) fm2
                    refine ev_aload_n d_Mo_split_256 rfl rfl ?_
                    refine ev_dup d_Mo_split_257 rfl ?_
                    refine ev_getF d_Mo_split_258 fl_Mo_92 hm (by decide) f4 ?_
                    refine ev_iconst (v := iZ 1) d_Mo_split_261 rfl ?_
                    refine ez_iadd d_Mo_split_262 ?_
                    rw [show ((n : Int) + 1 : Int) = ((n + 1 : Nat) : Int) from by omega]
                    refine ev_putF2 d_Mo_split_263 fw_Mo_92 (Or.inr (fun _ _ _ q => by cases q; rfl)) hm (by decide) rfl rfl (fun h31 σ32 h31a σ32j σ32o h31o => ?_)
                    have f5 := (σ32o 5 (by decide)).trans f5
                    have f6 := (σ32o 6 (by decide)).trans f6
                    have f7 := (σ32o 7 (by decide)).trans f7
                    have f8 := (σ32o 8 (by decide)).trans f8
                    have f9 := (σ32o 9 (by decide)).trans f9
                    have f10 := (σ32o 10 (by decide)).trans f10
                    have f11 := (σ32o 11 (by decide)).trans f11
                    have f12 := (σ32o 12 (by decide)).trans f12
                    have f13 := (σ32o 13 (by decide)).trans f13
                    have f14 := (σ32o 14 (by decide)).trans f14
                    have f15 := (σ32o 15 (by decide)).trans f15
                    have f4 := σ32j
                    have fs := fs.step (by simp) σ32o
                    have hs1 := (h31o _ (cne hs1 hm (by simp))).trans hs1
                    have hs2 := (h31o _ (cne hs2 hm (by simp))).trans hs2
                    have hs3 := (h31o _ (cne hs3 hm (by simp))).trans hs3
                    have hs4 := (h31o _ (cne hs4 hm (by simp))).trans hs4
                    have hk0 := (h31o _ (cne hk0 hm (by simp))).trans hk0
                    have hk1 := (h31o _ (cne hk1 hm (by simp))).trans hk1
                    have hk2 := (h31o _ (cne hk2 hm (by simp))).trans hk2
                    have hk3 := (h31o _ (cne hk3 hm (by simp))).trans hk3
                    have hk4 := (h31o _ (cne hk4 hm (by simp))).trans hk4
                    have hm := h31a
                    have fm := fm.step (by simp) h31o
                    refine ev_aload_n d_Mo_split_266 rfl rfl ?_
                    refine ev_getF d_Mo_split_267 fl_Mo_27 hm (by decide) f7 ?_
                    refine ev_iload_n d_Mo_split_270 rfl rfl ?_
                    refine ev_iload_n d_Mo_split_271 rfl rfl ?_
                    refine ez_iastore (F' := zup (va_cpy S3 S3 k (k + 1) (n - k)) k (j : Int)) k d_Mo_split_272 hs3 (by omega) (by omega) (by decide) rfl (fun h33 h33a h33o => ?_)
                    have hm := (h33o _ (cne hm hs3 (by simp))).trans hm
                    have hs1 := (h33o _ (cne hs1 hs3 (by simp))).trans hs1
                    have hs2 := (h33o _ (cne hs2 hs3 (by simp))).trans hs2
                    have hs4 := (h33o _ (cne hs4 hs3 (by simp))).trans hs4
                    have hk0 := (h33o _ (cne hk0 hs3 (by simp))).trans hk0
                    have hk1 := (h33o _ (cne hk1 hs3 (by simp))).trans hk1
                    have hk2 := (h33o _ (cne hk2 hs3 (by simp))).trans hk2
                    have hk3 := (h33o _ (cne hk3 hs3 (by simp))).trans hk3
                    have hk4 := (h33o _ (cne hk4 hs3 (by simp))).trans hk4
                    have hs3 := h33a
                    have fm := fm.step (by simp) h33o
                    refine ev_aload_n d_Mo_split_273 rfl rfl ?_
                    refine ev_getF d_Mo_split_274 fl_Mo_24 hm (by decide) f6 ?_
                    refine ev_iload_n d_Mo_split_277 rfl rfl ?_
                    refine ev_lload d_Mo_split_278 rfl ?_
                    refine ez_lastore (F' := zup (va_cpy S2 S2 k (k + 1) (n - k)) k (spTm S1 S2 S3 S4 k j)) k d_Mo_split_280 hs2 (by omega) (by omega) (by decide) rfl (fun h34 h34a h34o => ?_)
                    have hm := (h34o _ (cne hm hs2 (by simp))).trans hm
                    have hs1 := (h34o _ n_s).trans hs1
                    have hs3 := (h34o _ (cne hs3 hs2 (by simp))).trans hs3
                    have hs4 := (h34o _ (cne hs4 hs2 (by simp))).trans hs4
                    have hk0 := (h34o _ (cne hk0 hs2 (by simp))).trans hk0
                    have hk1 := (h34o _ (cne hk1 hs2 (by simp))).trans hk1
                    have hk2 := (h34o _ (cne hk2 hs2 (by simp))).trans hk2
                    have hk3 := (h34o _ (cne hk3 hs2 (by simp))).trans hk3
                    have hk4 := (h34o _ (cne hk4 hs2 (by simp))).trans hk4
                    have hs2 := h34a
                    have fm := fm.step (by simp) h34o
                    refine ev_aload_n d_Mo_split_281 rfl rfl ?_
                    refine ev_getF d_Mo_split_282 fl_Mo_20 hm (by decide) f5 ?_
                    refine ev_iload_n d_Mo_split_285 rfl rfl ?_
                    refine ev_iconst (v := iZ 1) d_Mo_split_286 rfl ?_
                    refine ez_iadd d_Mo_split_287 ?_
                    refine ev_lload d_Mo_split_288 rfl ?_
                    refine ez_lastore (F' := zup (va_cpy S1 S1 k (k + 1) (n - k)) (k + 1) (spTm S1 S2 S3 S4 k j)) (k + 1) d_Mo_split_290 hs1 (by omega) (by omega) (by decide) rfl (fun h35 h35a h35o => ?_)
                    have hm := (h35o _ (cne hm hs1 (by simp))).trans hm
                    have hs2 := (h35o _ (Ne.symm n_s)).trans hs2
                    have hs3 := (h35o _ (cne hs3 hs1 (by simp))).trans hs3
                    have hs4 := (h35o _ (cne hs4 hs1 (by simp))).trans hs4
                    have hk0 := (h35o _ (cne hk0 hs1 (by simp))).trans hk0
                    have hk1 := (h35o _ (cne hk1 hs1 (by simp))).trans hk1
                    have hk2 := (h35o _ (cne hk2 hs1 (by simp))).trans hk2
                    have hk3 := (h35o _ (cne hk3 hs1 (by simp))).trans hk3
                    have hk4 := (h35o _ (cne hk4 hs1 (by simp))).trans hk4
                    have hs1 := h35a
                    have fm := fm.step (by simp) h35o
                    refine ev_aload_n d_Mo_split_291 rfl rfl ?_
                    refine ev_getF d_Mo_split_292 fl_Mo_27 hm (by decide) f7 ?_
                    refine ev_iload_n d_Mo_split_295 rfl rfl ?_
                    refine ev_iconst (v := iZ 1) d_Mo_split_296 rfl ?_
                    refine ez_iadd d_Mo_split_297 ?_
                    refine ev_iload_n d_Mo_split_298 rfl rfl ?_
                    refine ev_iload d_Mo_split_299 rfl ?_
                    refine ez_isub d_Mo_split_301 ?_
                    refine ez_iastore (F' := zup (zup (va_cpy S3 S3 k (k + 1) (n - k)) k (j : Int)) (k + 1) (((S3 k).toNat : Int) - ((spF S4 k j : Nat) : Int))) (k + 1) d_Mo_split_302 hs3 (by omega) (by omega) (by decide) rfl (fun h36 h36a h36o => ?_)
                    have hm := (h36o _ (cne hm hs3 (by simp))).trans hm
                    have hs1 := (h36o _ (cne hs1 hs3 (by simp))).trans hs1
                    have hs2 := (h36o _ (cne hs2 hs3 (by simp))).trans hs2
                    have hs4 := (h36o _ (cne hs4 hs3 (by simp))).trans hs4
                    have hk0 := (h36o _ (cne hk0 hs3 (by simp))).trans hk0
                    have hk1 := (h36o _ (cne hk1 hs3 (by simp))).trans hk1
                    have hk2 := (h36o _ (cne hk2 hs3 (by simp))).trans hk2
                    have hk3 := (h36o _ (cne hk3 hs3 (by simp))).trans hk3
                    have hk4 := (h36o _ (cne hk4 hs3 (by simp))).trans hk4
                    have hs3 := h36a
                    have fm := fm.step (by simp) h36o
                    refine ev_iload d_Mo_split_303 rfl ?_
                    refine ev_istore (L' := [(0, .ref m), (1, .int (iZ (k : Int))), (2, .int (iZ (j : Int))), (3, .int (iZ ((S3 k).toNat : Int))), (4, .int (iZ ((spF S4 k j : Nat) : Int))), (11, .long (lZ (spTm S1 S2 S3 S4 k j))), (13, .int (iZ ((spF S4 k j : Nat) : Int)))]) d_Mo_split_305 (by decide) rfl ?_
                    refine lp_Mo_sp2 G _ h36 k j (S3 k).toNat (spF S4 k j) (spTm S1 S2 S3 S4 k j) (by omega) (by omega) σ32 m s4 (va_cpy S4 S4 (64 * k) (64 * (k + 1)) (64 * (n - k))) f8 ?_ ((S3 k).toNat - spF S4 k j) 0 h36 (by omega) hm (by rw [cpy_z]; exact hs4) Fm.rf
                    have jm := hm
                    have js1 := hs1
                    have js2 := hs2
                    have js3 := hs3
                    have js4 := hs4
                    have jk0 := hk0
                    have jk1 := hk1
                    have jk2 := hk2
                    have jk3 := hk3
                    have jk4 := hk4
                    rintro h20 q rfl hm hs4 fm2
                    have hs1 := (fm2 _ (ninc (cne js1 js4 (by simp)) nin0)).trans js1
                    have hs2 := (fm2 _ (ninc (cne js2 js4 (by simp)) nin0)).trans js2
                    have hs3 := (fm2 _ (ninc (cne js3 js4 (by simp)) nin0)).trans js3
                    have hk0 := (fm2 _ (ninc (cne jk0 js4 (by simp)) nin0)).trans jk0
                    have hk1 := (fm2 _ (ninc (cne jk1 js4 (by simp)) nin0)).trans jk1
                    have hk2 := (fm2 _ (ninc (cne jk2 js4 (by simp)) nin0)).trans jk2
                    have hk3 := (fm2 _ (ninc (cne jk3 js4 (by simp)) nin0)).trans jk3
                    have hk4 := (fm2 _ (ninc (cne jk4 js4 (by simp)) nin0)).trans jk4
                    have fm := fm.call (by simp) fm2
                    refine ev_aload_n d_Mo_split_349 rfl rfl ?_
                    refine ev_getF d_Mo_split_350 fl_Mo_92 hm (by decide) f4 ?_
                    exact ev_ireturn d_Mo_split_353 rfl (by decide) (by decide) (⟨fun q => absurd q (fun q => by rcases q with q | q | q | q <;> omega), fun _ q => absurd q (by omega), fun _ _ => ⟨rfl, ⟨σ32, hm, f4, f9, f10, fs⟩, hs1, hs2, hs3, hs4, hk0, hk1, hk2, hk3, hk4, fm⟩⟩)
                  · refine ev_bipush (v := iZ (-3)) d_Mo_split_221 rfl ?_
                    exact ev_ireturn d_Mo_split_223 rfl (by decide) (by decide) (⟨fun q => absurd q (fun q => by rcases q with q | q | q | q <;> omega), fun _ _ => ⟨rfl, rfl⟩, fun _ q => absurd q (by omega)⟩)
                · refine ev_bipush (v := iZ (-2)) d_Mo_split_209 rfl ?_
                  exact ev_ireturn d_Mo_split_211 rfl (by decide) (by decide) (⟨fun _ => ⟨rfl, rfl⟩, fun q => absurd (Or.inr (by first | exact Or.inl (by omega) | exact Or.inr (Or.inl (by omega)) | exact Or.inr (Or.inr ⟨by omega, by omega⟩))) q, fun q => absurd (Or.inr (by first | exact Or.inl (by omega) | exact Or.inr (Or.inl (by omega)) | exact Or.inr (Or.inr ⟨by omega, by omega⟩))) q⟩)
        · refine ev_lconst (v := lZ 1) d_Mo_split_103 rfl ?_
          refine ev_goto (tgt := 110) d_Mo_split_104 rfl ?_
          refine ev_lstore (L' := [(0, .ref m), (1, .int (iZ (i : Int))), (2, .int (iZ (j : Int))), (3, .int (iZ ((S3 i).toNat : Int))), (4, .int (iZ ((spF S4 i j : Nat) : Int))), (5, .int (iZ (cellsN S4 (i * 64) j))), (6, .int (iZ (cellsN S4 (i * 64) (S3 i).toNat))), (7, .long (lZ 1))]) d_Mo_split_110 (by decide) rfl ?_
          refine ev_iload d_Mo_split_112 rfl ?_
          refine ez_if_ne (tgt := 123) (by omega) d_Mo_split_114 rfl (fun c114 => absurd c114 (by omega)) (fun c114 => ?_)
          refine ev_ldc2 (v := lZ 2) d_Mo_split_117 kc_Mo_84 ?_
          refine ev_goto (tgt := 126) d_Mo_split_120 rfl ?_
          refine ev_lstore (L' := [(0, .ref m), (1, .int (iZ (i : Int))), (2, .int (iZ (j : Int))), (3, .int (iZ ((S3 i).toNat : Int))), (4, .int (iZ ((spF S4 i j : Nat) : Int))), (5, .int (iZ (cellsN S4 (i * 64) j))), (6, .int (iZ (cellsN S4 (i * 64) (S3 i).toNat))), (7, .long (lZ 1)), (9, .long (lZ 2))]) d_Mo_split_126 (by decide) rfl ?_
          refine ev_aload_n d_Mo_split_128 rfl rfl ?_
          refine ev_getF d_Mo_split_129 fl_Mo_20 hm (by decide) f5 ?_
          refine ev_iload_n d_Mo_split_132 rfl rfl ?_
          refine ez_laload i d_Mo_split_133 hs1 (by omega) (by omega) (by decide) ?_
          refine ev_lload d_Mo_split_134 rfl ?_
          refine ez_lmul d_Mo_split_136 ?_
          refine ev_aload_n d_Mo_split_137 rfl rfl ?_
          refine ev_getF d_Mo_split_138 fl_Mo_24 hm (by decide) f6 ?_
          refine ev_iload_n d_Mo_split_141 rfl rfl ?_
          refine ez_laload i d_Mo_split_142 hs2 (by omega) (by omega) (by decide) ?_
          refine ev_aload_n d_Mo_split_143 rfl rfl ?_
          refine ev_getF d_Mo_split_144 fl_Mo_20 hm (by decide) f5 ?_
          refine ev_iload_n d_Mo_split_147 rfl rfl ?_
          refine ez_laload i d_Mo_split_148 hs1 (by omega) (by omega) (by decide) ?_
          refine ez_lsub d_Mo_split_149 ?_
          refine ev_lload d_Mo_split_150 rfl ?_
          refine ez_lmul d_Mo_split_152 ?_
          refine ez_ladd d_Mo_split_153 ?_
          refine ev_lload d_Mo_split_154 rfl ?_
          have m1 := mulB (x := S1 i) (y := 2) (L := 2540160000000) (M := 128) (by omega) (by omega) (by omega) (by omega)
          have m2 := mulB (x := S2 i - S1 i) (y := 1) (L := 2540160000000) (M := 128) (by omega) (by omega) (by omega) (by omega)
          refine ev_pS M_Mo_nearest 0 0 (As := [.long (lZ (((S1 i) * 2) + (((S2 i) - (S1 i)) * 1))), .long (lZ 2)]) (c_Mo_nearest G h _ _ (by omega) (by omega)) d_Mo_split_156 mk_Mo_nearest ml_Mo_189 ms_Mo_nearest rfl rfl (Nat.le_of_ble_eq_true rfl) ⟨by decide, by decide⟩ ⟨by decide, by decide⟩ ?_
          refine ev_topl (spTm S1 S2 S3 S4 i j) (Eq.symm (if_pos (by omega))) ?_
          have rt : -1000000000000000 ≤ spTm S1 S2 S3 S4 i j ∧ spTm S1 S2 S3 S4 i j ≤ 1000000000000000 := splT_r (hT i) (hE i) (by omega) (by omega)
          refine ev_lstore (L' := [(0, .ref m), (1, .int (iZ (i : Int))), (2, .int (iZ (j : Int))), (3, .int (iZ ((S3 i).toNat : Int))), (4, .int (iZ ((spF S4 i j : Nat) : Int))), (5, .int (iZ (cellsN S4 (i * 64) j))), (6, .int (iZ (cellsN S4 (i * 64) (S3 i).toNat))), (7, .long (lZ 1)), (9, .long (lZ 2)), (11, .long (lZ (spTm S1 S2 S3 S4 i j)))]) d_Mo_split_159 (by decide) rfl ?_
          refine ev_lload d_Mo_split_161 rfl ?_
          refine ev_aload_n d_Mo_split_163 rfl rfl ?_
          refine ev_getF d_Mo_split_164 fl_Mo_20 hm (by decide) f5 ?_
          refine ev_iload_n d_Mo_split_167 rfl rfl ?_
          refine ez_laload i d_Mo_split_168 hs1 (by omega) (by omega) (by decide) ?_
          refine ev_lcmp d_Mo_split_169 ?_
          refine ez_lif_le (tgt := 209) (by omega) (by omega) d_Mo_split_170 rfl (fun c170 => ?_) (fun c170 => ?_)
          · refine ev_bipush (v := iZ (-2)) d_Mo_split_209 rfl ?_
            exact ev_ireturn d_Mo_split_211 rfl (by decide) (by decide) (⟨fun _ => ⟨rfl, rfl⟩, fun q => absurd (Or.inr (by first | exact Or.inl (by omega) | exact Or.inr (Or.inl (by omega)) | exact Or.inr (Or.inr ⟨by omega, by omega⟩))) q, fun q => absurd (Or.inr (by first | exact Or.inl (by omega) | exact Or.inr (Or.inl (by omega)) | exact Or.inr (Or.inr ⟨by omega, by omega⟩))) q⟩)
          · refine ev_lload d_Mo_split_173 rfl ?_
            refine ev_aload_n d_Mo_split_175 rfl rfl ?_
            refine ev_getF d_Mo_split_176 fl_Mo_24 hm (by decide) f6 ?_
            refine ev_iload_n d_Mo_split_179 rfl rfl ?_
            refine ez_laload i d_Mo_split_180 hs2 (by omega) (by omega) (by decide) ?_
            refine ev_lcmp d_Mo_split_181 ?_
            refine ez_lif_ge (tgt := 209) (by omega) (by omega) d_Mo_split_182 rfl (fun c182 => ?_) (fun c182 => ?_)
            · refine ev_bipush (v := iZ (-2)) d_Mo_split_209 rfl ?_
              exact ev_ireturn d_Mo_split_211 rfl (by decide) (by decide) (⟨fun _ => ⟨rfl, rfl⟩, fun q => absurd (Or.inr (by first | exact Or.inl (by omega) | exact Or.inr (Or.inl (by omega)) | exact Or.inr (Or.inr ⟨by omega, by omega⟩))) q, fun q => absurd (Or.inr (by first | exact Or.inl (by omega) | exact Or.inr (Or.inl (by omega)) | exact Or.inr (Or.inr ⟨by omega, by omega⟩))) q⟩)
            · refine ev_iload_n d_Mo_split_185 rfl rfl ?_
              refine ev_iconst (v := iZ 1) d_Mo_split_186 rfl ?_
              refine ez_iadd d_Mo_split_187 ?_
              refine ev_aload_n d_Mo_split_188 rfl rfl ?_
              refine ev_getF d_Mo_split_189 fl_Mo_92 hm (by decide) f4 ?_
              refine ez_icmp_ge (tgt := 212) (by omega) (by omega) d_Mo_split_192 rfl (fun c192 => ?_) (fun c192 => ?_)
              · refine ev_aload_n d_Mo_split_212 rfl rfl ?_
                refine ev_getF d_Mo_split_213 fl_Mo_92 hm (by decide) f4 ?_
                refine ev_bipush (v := iZ 16) d_Mo_split_216 rfl ?_
                refine ez_icmp_ne (tgt := 224) (by omega) (by decide) d_Mo_split_218 rfl (fun c218 => ?_) (fun c218 => ?_)
                · refine ev_aload_n d_Mo_split_224 rfl rfl ?_
                  refine ev_callV M_Mo_keep (rm 0 0) _ (As := []) (c_Mo_keep G h σ m s1 s2 s3 s4 k0 k1 k2 k3 k4 n c bk S1 S2 S3 S4 K0 K1 K2 K3 K4 hm f4 f5 f6 f7 f8 f9 f10 f11 f12 f13 f14 f15 hs1 hs2 hs3 hs4 hk0 hk1 hk2 hk3 hk4 hc hbk n_s n_k) d_Mo_split_225 mk_Mo_keep ml_Mo_176 mv_Mo_keep hm rfl rfl rfl (Nat.le_of_ble_eq_true rfl) ⟨by decide, by decide⟩ ⟨by decide, by decide⟩ (fun r h8 hq => ?_)
                  obtain ⟨rfl, ⟨σ9, gm, g9, g10, gs⟩, gk0, gk1, gk2, gk3, gk4, fmk⟩ := hq
                  have hs1 := (fmk _ (ninc (cne hs1 hm (by simp)) (ninc (cne hs1 hk0 (by simp)) (ninc (cne hs1 hk1 (by simp)) (ninc (cne hs1 hk2 (by simp)) (ninc (cne hs1 hk3 (by simp)) (ninc (cne hs1 hk4 (by simp)) nin0))))))).trans hs1
                  have hs2 := (fmk _ (ninc (cne hs2 hm (by simp)) (ninc (cne hs2 hk0 (by simp)) (ninc (cne hs2 hk1 (by simp)) (ninc (cne hs2 hk2 (by simp)) (ninc (cne hs2 hk3 (by simp)) (ninc (cne hs2 hk4 (by simp)) nin0))))))).trans hs2
                  have hs3 := (fmk _ (ninc (cne hs3 hm (by simp)) (ninc (cne hs3 hk0 (by simp)) (ninc (cne hs3 hk1 (by simp)) (ninc (cne hs3 hk2 (by simp)) (ninc (cne hs3 hk3 (by simp)) (ninc (cne hs3 hk4 (by simp)) nin0))))))).trans hs3
                  have hs4 := (fmk _ (ninc (cne hs4 hm (by simp)) (ninc (cne hs4 hk0 (by simp)) (ninc (cne hs4 hk1 (by simp)) (ninc (cne hs4 hk2 (by simp)) (ninc (cne hs4 hk3 (by simp)) (ninc (cne hs4 hk4 (by simp)) nin0))))))).trans hs4
                  have hm := gm
                  have hk0 := gk0
                  have hk1 := gk1
                  have hk2 := gk2
                  have hk3 := gk3
                  have hk4 := gk4
                  have f4 := (gs 4 (by decide)).trans f4
                  have f5 := (gs 5 (by decide)).trans f5
                  have f6 := (gs 6 (by decide)).trans f6
                  have f7 := (gs 7 (by decide)).trans f7
                  have f8 := (gs 8 (by decide)).trans f8
                  have f11 := (gs 11 (by decide)).trans f11
                  have f12 := (gs 12 (by decide)).trans f12
                  have f13 := (gs 13 (by decide)).trans f13
                  have f14 := (gs 14 (by decide)).trans f14
                  have f15 := (gs 15 (by decide)).trans f15
                  have f9 := g9
                  have f10 := g10
                  have fm := fm.call (by simp) fmk
                  have fs := fs.call (by simp) gs
                  refine ev_aload_n d_Mo_split_228 rfl rfl ?_
                  refine ev_getF d_Mo_split_229 fl_Mo_92 hm (by decide) f4 ?_
                  refine ev_istore (L' := [(0, .ref m), (1, .int (iZ (i : Int))), (2, .int (iZ (j : Int))), (3, .int (iZ ((S3 i).toNat : Int))), (4, .int (iZ ((spF S4 i j : Nat) : Int))), (5, .int (iZ (cellsN S4 (i * 64) j))), (6, .int (iZ (cellsN S4 (i * 64) (S3 i).toNat))), (7, .long (lZ 1)), (9, .long (lZ 2)), (11, .long (lZ (spTm S1 S2 S3 S4 i j))), (13, .int (iZ (n : Int)))]) d_Mo_split_232 (by decide) rfl ?_
                  refine ev_loc [(0, .ref m), (1, .int (iZ (i : Int))), (2, .int (iZ (j : Int))), (3, .int (iZ ((S3 i).toNat : Int))), (4, .int (iZ ((spF S4 i j : Nat) : Int))), (11, .long (lZ (spTm S1 S2 S3 S4 i j))), (13, .int (iZ (n : Int)))] (by simp) ?_
                  refine lp_Mo_sp1 G _ h8 i j (S3 i).toNat (spF S4 i j) n (spTm S1 S2 S3 S4 i j) hi (by omega) σ9 m s1 s2 s3 s4 S1 S2 S3 S4 f4 f5 f6 f7 f8 n_s ?_ (n - i) n h8 (by omega) (by omega) hm (by rw [Nat.sub_self, cpy_z]; exact hs1) (by rw [Nat.sub_self, cpy_z]; exact hs2) (by rw [Nat.sub_self, cpy_z]; exact hs3) (by rw [Nat.sub_self, Nat.mul_zero, cpy_z]; exact hs4) Fm.rf
                  have jm := hm
                  have js1 := hs1
                  have js2 := hs2
                  have js3 := hs3
                  have js4 := hs4
                  have jk0 := hk0
                  have jk1 := hk1
                  have jk2 := hk2
                  have jk3 := hk3
                  have jk4 := hk4
                  rintro h10 k rfl hm hs1 hs2 hs3 hs4 fm2
                  have hk0 := (fm2 _ (ninc (cne jk0 js1 (by simp)) (ninc (cne jk0 js2 (by simp)) (ninc (cne jk0 js3 (by simp)) (ninc (cne jk0 js4 (by simp)) nin0))))).trans jk0
                  have hk1 := (fm2 _ (ninc (cne jk1 js1 (by simp)) (ninc (cne jk1 js2 (by simp)) (ninc (cne jk1 js3 (by simp)) (ninc (cne jk1 js4 (by simp)) nin0))))).trans jk1
                  have hk2 := (fm2 _ (ninc (cne jk2 js1 (by simp)) (ninc (cne jk2 js2 (by simp)) (ninc (cne jk2 js3 (by simp)) (ninc (cne jk2 js4 (by simp)) nin0))))).trans jk2
                  have hk3 := (fm2 _ (ninc (cne jk3 js1 (by simp)) (ninc (cne jk3 js2 (by simp)) (ninc (cne jk3 js3 (by simp)) (ninc (cne jk3 js4 (by simp)) nin0))))).trans jk3
                  have hk4 := (fm2 _ (ninc (cne jk4 js1 (by simp)) (ninc (cne jk4 js2 (by simp)) (ninc (cne jk4 js3 (by simp)) (ninc (cne jk4 js4 (by simp)) nin0))))).trans jk4
                  have fm := fm.call (by simp) fm2
                  refine ev_aload_n d_Mo_split_256 rfl rfl ?_
                  refine ev_dup d_Mo_split_257 rfl ?_
                  refine ev_getF d_Mo_split_258 fl_Mo_92 hm (by decide) f4 ?_
                  refine ev_iconst (v := iZ 1) d_Mo_split_261 rfl ?_
                  refine ez_iadd d_Mo_split_262 ?_
                  rw [show ((n : Int) + 1 : Int) = ((n + 1 : Nat) : Int) from by omega]
                  refine ev_putF2 d_Mo_split_263 fw_Mo_92 (Or.inr (fun _ _ _ q => by cases q; rfl)) hm (by decide) rfl rfl (fun h37 σ38 h37a σ38j σ38o h37o => ?_)
                  have f5 := (σ38o 5 (by decide)).trans f5
                  have f6 := (σ38o 6 (by decide)).trans f6
                  have f7 := (σ38o 7 (by decide)).trans f7
                  have f8 := (σ38o 8 (by decide)).trans f8
                  have f9 := (σ38o 9 (by decide)).trans f9
                  have f10 := (σ38o 10 (by decide)).trans f10
                  have f11 := (σ38o 11 (by decide)).trans f11
                  have f12 := (σ38o 12 (by decide)).trans f12
                  have f13 := (σ38o 13 (by decide)).trans f13
                  have f14 := (σ38o 14 (by decide)).trans f14
                  have f15 := (σ38o 15 (by decide)).trans f15
                  have f4 := σ38j
                  have fs := fs.step (by simp) σ38o
                  have hs1 := (h37o _ (cne hs1 hm (by simp))).trans hs1
                  have hs2 := (h37o _ (cne hs2 hm (by simp))).trans hs2
                  have hs3 := (h37o _ (cne hs3 hm (by simp))).trans hs3
                  have hs4 := (h37o _ (cne hs4 hm (by simp))).trans hs4
                  have hk0 := (h37o _ (cne hk0 hm (by simp))).trans hk0
                  have hk1 := (h37o _ (cne hk1 hm (by simp))).trans hk1
                  have hk2 := (h37o _ (cne hk2 hm (by simp))).trans hk2
                  have hk3 := (h37o _ (cne hk3 hm (by simp))).trans hk3
                  have hk4 := (h37o _ (cne hk4 hm (by simp))).trans hk4
                  have hm := h37a
                  have fm := fm.step (by simp) h37o
                  refine ev_aload_n d_Mo_split_266 rfl rfl ?_
                  refine ev_getF d_Mo_split_267 fl_Mo_27 hm (by decide) f7 ?_
                  refine ev_iload_n d_Mo_split_270 rfl rfl ?_
                  refine ev_iload_n d_Mo_split_271 rfl rfl ?_
                  refine ez_iastore (F' := zup (va_cpy S3 S3 k (k + 1) (n - k)) k (j : Int)) k d_Mo_split_272 hs3 (by omega) (by omega) (by decide) rfl (fun h39 h39a h39o => ?_)
                  have hm := (h39o _ (cne hm hs3 (by simp))).trans hm
                  have hs1 := (h39o _ (cne hs1 hs3 (by simp))).trans hs1
                  have hs2 := (h39o _ (cne hs2 hs3 (by simp))).trans hs2
                  have hs4 := (h39o _ (cne hs4 hs3 (by simp))).trans hs4
                  have hk0 := (h39o _ (cne hk0 hs3 (by simp))).trans hk0
                  have hk1 := (h39o _ (cne hk1 hs3 (by simp))).trans hk1
                  have hk2 := (h39o _ (cne hk2 hs3 (by simp))).trans hk2
                  have hk3 := (h39o _ (cne hk3 hs3 (by simp))).trans hk3
                  have hk4 := (h39o _ (cne hk4 hs3 (by simp))).trans hk4
                  have hs3 := h39a
                  have fm := fm.step (by simp) h39o
                  refine ev_aload_n d_Mo_split_273 rfl rfl ?_
                  refine ev_getF d_Mo_split_274 fl_Mo_24 hm (by decide) f6 ?_
                  refine ev_iload_n d_Mo_split_277 rfl rfl ?_
                  refine ev_lload d_Mo_split_278 rfl ?_
                  refine ez_lastore (F' := zup (va_cpy S2 S2 k (k + 1) (n - k)) k (spTm S1 S2 S3 S4 k j)) k d_Mo_split_280 hs2 (by omega) (by omega) (by decide) rfl (fun h40 h40a h40o => ?_)
                  have hm := (h40o _ (cne hm hs2 (by simp))).trans hm
                  have hs1 := (h40o _ n_s).trans hs1
                  have hs3 := (h40o _ (cne hs3 hs2 (by simp))).trans hs3
                  have hs4 := (h40o _ (cne hs4 hs2 (by simp))).trans hs4
                  have hk0 := (h40o _ (cne hk0 hs2 (by simp))).trans hk0
                  have hk1 := (h40o _ (cne hk1 hs2 (by simp))).trans hk1
                  have hk2 := (h40o _ (cne hk2 hs2 (by simp))).trans hk2
                  have hk3 := (h40o _ (cne hk3 hs2 (by simp))).trans hk3
                  have hk4 := (h40o _ (cne hk4 hs2 (by simp))).trans hk4
                  have hs2 := h40a
                  have fm := fm.step (by simp) h40o
                  refine ev_aload_n d_Mo_split_281 rfl rfl ?_
                  refine ev_getF d_Mo_split_282 fl_Mo_20 hm (by decide) f5 ?_
                  refine ev_iload_n d_Mo_split_285 rfl rfl ?_
                  refine ev_iconst (v := iZ 1) d_Mo_split_286 rfl ?_
                  refine ez_iadd d_Mo_split_287 ?_
                  refine ev_lload d_Mo_split_288 rfl ?_
                  refine ez_lastore (F' := zup (va_cpy S1 S1 k (k + 1) (n - k)) (k + 1) (spTm S1 S2 S3 S4 k j)) (k + 1) d_Mo_split_290 hs1 (by omega) (by omega) (by decide) rfl (fun h41 h41a h41o => ?_)
                  have hm := (h41o _ (cne hm hs1 (by simp))).trans hm
                  have hs2 := (h41o _ (Ne.symm n_s)).trans hs2
                  have hs3 := (h41o _ (cne hs3 hs1 (by simp))).trans hs3
                  have hs4 := (h41o _ (cne hs4 hs1 (by simp))).trans hs4
                  have hk0 := (h41o _ (cne hk0 hs1 (by simp))).trans hk0
                  have hk1 := (h41o _ (cne hk1 hs1 (by simp))).trans hk1
                  have hk2 := (h41o _ (cne hk2 hs1 (by simp))).trans hk2
                  have hk3 := (h41o _ (cne hk3 hs1 (by simp))).trans hk3
                  have hk4 := (h41o _ (cne hk4 hs1 (by simp))).trans hk4
                  have hs1 := h41a
                  have fm := fm.step (by simp) h41o
                  refine ev_aload_n d_Mo_split_291 rfl rfl ?_
                  refine ev_getF d_Mo_split_292 fl_Mo_27 hm (by decide) f7 ?_
                  refine ev_iload_n d_Mo_split_295 rfl rfl ?_
                  refine ev_iconst (v := iZ 1) d_Mo_split_296 rfl ?_
                  refine ez_iadd d_Mo_split_297 ?_
                  refine ev_iload_n d_Mo_split_298 rfl rfl ?_
                  refine ev_iload d_Mo_split_299 rfl ?_
                  refine ez_isub d_Mo_split_301 ?_
                  refine ez_iastore (F' := zup (zup (va_cpy S3 S3 k (k + 1) (n - k)) k (j : Int)) (k + 1) (((S3 k).toNat : Int) - ((spF S4 k j : Nat) : Int))) (k + 1) d_Mo_split_302 hs3 (by omega) (by omega) (by decide) rfl (fun h42 h42a h42o => ?_)
                  have hm := (h42o _ (cne hm hs3 (by simp))).trans hm
                  have hs1 := (h42o _ (cne hs1 hs3 (by simp))).trans hs1
                  have hs2 := (h42o _ (cne hs2 hs3 (by simp))).trans hs2
                  have hs4 := (h42o _ (cne hs4 hs3 (by simp))).trans hs4
                  have hk0 := (h42o _ (cne hk0 hs3 (by simp))).trans hk0
                  have hk1 := (h42o _ (cne hk1 hs3 (by simp))).trans hk1
                  have hk2 := (h42o _ (cne hk2 hs3 (by simp))).trans hk2
                  have hk3 := (h42o _ (cne hk3 hs3 (by simp))).trans hk3
                  have hk4 := (h42o _ (cne hk4 hs3 (by simp))).trans hk4
                  have hs3 := h42a
                  have fm := fm.step (by simp) h42o
                  refine ev_iload d_Mo_split_303 rfl ?_
                  refine ev_istore (L' := [(0, .ref m), (1, .int (iZ (k : Int))), (2, .int (iZ (j : Int))), (3, .int (iZ ((S3 k).toNat : Int))), (4, .int (iZ ((spF S4 k j : Nat) : Int))), (11, .long (lZ (spTm S1 S2 S3 S4 k j))), (13, .int (iZ ((spF S4 k j : Nat) : Int)))]) d_Mo_split_305 (by decide) rfl ?_
                  refine lp_Mo_sp2 G _ h42 k j (S3 k).toNat (spF S4 k j) (spTm S1 S2 S3 S4 k j) (by omega) (by omega) σ38 m s4 (va_cpy S4 S4 (64 * k) (64 * (k + 1)) (64 * (n - k))) f8 ?_ ((S3 k).toNat - spF S4 k j) 0 h42 (by omega) hm (by rw [cpy_z]; exact hs4) Fm.rf
                  have jm := hm
                  have js1 := hs1
                  have js2 := hs2
                  have js3 := hs3
                  have js4 := hs4
                  have jk0 := hk0
                  have jk1 := hk1
                  have jk2 := hk2
                  have jk3 := hk3
                  have jk4 := hk4
                  rintro h20 q rfl hm hs4 fm2
                  have hs1 := (fm2 _ (ninc (cne js1 js4 (by simp)) nin0)).trans js1
                  have hs2 := (fm2 _ (ninc (cne js2 js4 (by simp)) nin0)).trans js2
                  have hs3 := (fm2 _ (ninc (cne js3 js4 (by simp)) nin0)).trans js3
                  have hk0 := (fm2 _ (ninc (cne jk0 js4 (by simp)) nin0)).trans jk0
                  have hk1 := (fm2 _ (ninc (cne jk1 js4 (by simp)) nin0)).trans jk1
                  have hk2 := (fm2 _ (ninc (cne jk2 js4 (by simp)) nin0)).trans jk2
                  have hk3 := (fm2 _ (ninc (cne jk3 js4 (by simp)) nin0)).trans jk3
                  have hk4 := (fm2 _ (ninc (cne jk4 js4 (by simp)) nin0)).trans jk4
                  have fm := fm.call (by simp) fm2
                  refine ev_aload_n d_Mo_split_349 rfl rfl ?_
                  refine ev_getF d_Mo_split_350 fl_Mo_92 hm (by decide) f4 ?_
                  exact ev_ireturn d_Mo_split_353 rfl (by decide) (by decide) (⟨fun q => absurd q (fun q => by rcases q with q | q | q | q <;> omega), fun _ q => absurd q (by omega), fun _ _ => ⟨rfl, ⟨σ38, hm, f4, f9, f10, fs⟩, hs1, hs2, hs3, hs4, hk0, hk1, hk2, hk3, hk4, fm⟩⟩)
                · refine ev_bipush (v := iZ (-3)) d_Mo_split_221 rfl ?_
                  exact ev_ireturn d_Mo_split_223 rfl (by decide) (by decide) (⟨fun q => absurd q (fun q => by rcases q with q | q | q | q <;> omega), fun _ _ => ⟨rfl, rfl⟩, fun _ q => absurd q (by omega)⟩)
              · refine ev_aload_n d_Mo_split_195 rfl rfl ?_
                refine ev_getF d_Mo_split_196 fl_Mo_20 hm (by decide) f5 ?_
                refine ev_iload_n d_Mo_split_199 rfl rfl ?_
                refine ev_iconst (v := iZ 1) d_Mo_split_200 rfl ?_
                refine ez_iadd d_Mo_split_201 ?_
                refine ez_laload (i + 1) d_Mo_split_202 hs1 (by omega) (by omega) (by decide) ?_
                refine ev_lload d_Mo_split_203 rfl ?_
                refine ev_lcmp d_Mo_split_205 ?_
                refine ez_lif_ge (tgt := 212) (by omega) (by omega) d_Mo_split_206 rfl (fun c206 => ?_) (fun c206 => ?_)
                · refine ev_aload_n d_Mo_split_212 rfl rfl ?_
                  refine ev_getF d_Mo_split_213 fl_Mo_92 hm (by decide) f4 ?_
                  refine ev_bipush (v := iZ 16) d_Mo_split_216 rfl ?_
                  refine ez_icmp_ne (tgt := 224) (by omega) (by decide) d_Mo_split_218 rfl (fun c218 => ?_) (fun c218 => ?_)
                  · refine ev_aload_n d_Mo_split_224 rfl rfl ?_
                    refine ev_callV M_Mo_keep (rm 0 0) _ (As := []) (c_Mo_keep G h σ m s1 s2 s3 s4 k0 k1 k2 k3 k4 n c bk S1 S2 S3 S4 K0 K1 K2 K3 K4 hm f4 f5 f6 f7 f8 f9 f10 f11 f12 f13 f14 f15 hs1 hs2 hs3 hs4 hk0 hk1 hk2 hk3 hk4 hc hbk n_s n_k) d_Mo_split_225 mk_Mo_keep ml_Mo_176 mv_Mo_keep hm rfl rfl rfl (Nat.le_of_ble_eq_true rfl) ⟨by decide, by decide⟩ ⟨by decide, by decide⟩ (fun r h8 hq => ?_)
                    obtain ⟨rfl, ⟨σ9, gm, g9, g10, gs⟩, gk0, gk1, gk2, gk3, gk4, fmk⟩ := hq
                    have hs1 := (fmk _ (ninc (cne hs1 hm (by simp)) (ninc (cne hs1 hk0 (by simp)) (ninc (cne hs1 hk1 (by simp)) (ninc (cne hs1 hk2 (by simp)) (ninc (cne hs1 hk3 (by simp)) (ninc (cne hs1 hk4 (by simp)) nin0))))))).trans hs1
                    have hs2 := (fmk _ (ninc (cne hs2 hm (by simp)) (ninc (cne hs2 hk0 (by simp)) (ninc (cne hs2 hk1 (by simp)) (ninc (cne hs2 hk2 (by simp)) (ninc (cne hs2 hk3 (by simp)) (ninc (cne hs2 hk4 (by simp)) nin0))))))).trans hs2
                    have hs3 := (fmk _ (ninc (cne hs3 hm (by simp)) (ninc (cne hs3 hk0 (by simp)) (ninc (cne hs3 hk1 (by simp)) (ninc (cne hs3 hk2 (by simp)) (ninc (cne hs3 hk3 (by simp)) (ninc (cne hs3 hk4 (by simp)) nin0))))))).trans hs3
                    have hs4 := (fmk _ (ninc (cne hs4 hm (by simp)) (ninc (cne hs4 hk0 (by simp)) (ninc (cne hs4 hk1 (by simp)) (ninc (cne hs4 hk2 (by simp)) (ninc (cne hs4 hk3 (by simp)) (ninc (cne hs4 hk4 (by simp)) nin0))))))).trans hs4
                    have hm := gm
                    have hk0 := gk0
                    have hk1 := gk1
                    have hk2 := gk2
                    have hk3 := gk3
                    have hk4 := gk4
                    have f4 := (gs 4 (by decide)).trans f4
                    have f5 := (gs 5 (by decide)).trans f5
                    have f6 := (gs 6 (by decide)).trans f6
                    have f7 := (gs 7 (by decide)).trans f7
                    have f8 := (gs 8 (by decide)).trans f8
                    have f11 := (gs 11 (by decide)).trans f11
                    have f12 := (gs 12 (by decide)).trans f12
                    have f13 := (gs 13 (by decide)).trans f13
                    have f14 := (gs 14 (by decide)).trans f14
                    have f15 := (gs 15 (by decide)).trans f15
                    have f9 := g9
                    have f10 := g10
                    have fm := fm.call (by simp) fmk
                    have fs := fs.call (by simp) gs
                    refine ev_aload_n d_Mo_split_228 rfl rfl ?_
                    refine ev_getF d_Mo_split_229 fl_Mo_92 hm (by decide) f4 ?_
                    refine ev_istore (L' := [(0, .ref m), (1, .int (iZ (i : Int))), (2, .int (iZ (j : Int))), (3, .int (iZ ((S3 i).toNat : Int))), (4, .int (iZ ((spF S4 i j : Nat) : Int))), (5, .int (iZ (cellsN S4 (i * 64) j))), (6, .int (iZ (cellsN S4 (i * 64) (S3 i).toNat))), (7, .long (lZ 1)), (9, .long (lZ 2)), (11, .long (lZ (spTm S1 S2 S3 S4 i j))), (13, .int (iZ (n : Int)))]) d_Mo_split_232 (by decide) rfl ?_
                    refine ev_loc [(0, .ref m), (1, .int (iZ (i : Int))), (2, .int (iZ (j : Int))), (3, .int (iZ ((S3 i).toNat : Int))), (4, .int (iZ ((spF S4 i j : Nat) : Int))), (11, .long (lZ (spTm S1 S2 S3 S4 i j))), (13, .int (iZ (n : Int)))] (by simp) ?_
                    refine lp_Mo_sp1 G _ h8 i j (S3 i).toNat (spF S4 i j) n (spTm S1 S2 S3 S4 i j) hi (by omega) σ9 m s1 s2 s3 s4 S1 S2 S3 S4 f4 f5 f6 f7 f8 n_s ?_ (n - i) n h8 (by omega) (by omega) hm (by rw [Nat.sub_self, cpy_z]; exact hs1) (by rw [Nat.sub_self, cpy_z]; exact hs2) (by rw [Nat.sub_self, cpy_z]; exact hs3) (by rw [Nat.sub_self, Nat.mul_zero, cpy_z]; exact hs4) Fm.rf
                    have jm := hm
                    have js1 := hs1
                    have js2 := hs2
                    have js3 := hs3
                    have js4 := hs4
                    have jk0 := hk0
                    have jk1 := hk1
                    have jk2 := hk2
                    have jk3 := hk3
                    have jk4 := hk4
                    rintro h10 k rfl hm hs1 hs2 hs3 hs4 fm2
                    have hk0 := (fm2 _ (ninc (cne jk0 js1 (by simp)) (ninc (cne jk0 js2 (by simp)) (ninc (cne jk0 js3 (by simp)) (ninc (cne jk0 js4 (by simp)) nin0))))).trans jk0
                    have hk1 := (fm2 _ (ninc (cne jk1 js1 (by simp)) (ninc (cne jk1 js2 (by simp)) (ninc (cne jk1 js3 (by simp)) (ninc (cne jk1 js4 (by simp)) nin0))))).trans jk1
                    have hk2 := (fm2 _ (ninc (cne jk2 js1 (by simp)) (ninc (cne jk2 js2 (by simp)) (ninc (cne jk2 js3 (by simp)) (ninc (cne jk2 js4 (by simp)) nin0))))).trans jk2
                    have hk3 := (fm2 _ (ninc (cne jk3 js1 (by simp)) (ninc (cne jk3 js2 (by simp)) (ninc (cne jk3 js3 (by simp)) (ninc (cne jk3 js4 (by simp)) nin0))))).trans jk3
                    have hk4 := (fm2 _ (ninc (cne jk4 js1 (by simp)) (ninc (cne jk4 js2 (by simp)) (ninc (cne jk4 js3 (by simp)) (ninc (cne jk4 js4 (by simp)) nin0))))).trans jk4
                    have fm := fm.call (by simp) fm2
                    refine ev_aload_n d_Mo_split_256 rfl rfl ?_
                    refine ev_dup d_Mo_split_257 rfl ?_
                    refine ev_getF d_Mo_split_258 fl_Mo_92 hm (by decide) f4 ?_
                    refine ev_iconst (v := iZ 1) d_Mo_split_261 rfl ?_
                    refine ez_iadd d_Mo_split_262 ?_
                    rw [show ((n : Int) + 1 : Int) = ((n + 1 : Nat) : Int) from by omega]
                    refine ev_putF2 d_Mo_split_263 fw_Mo_92 (Or.inr (fun _ _ _ q => by cases q; rfl)) hm (by decide) rfl rfl (fun h43 σ44 h43a σ44j σ44o h43o => ?_)
                    have f5 := (σ44o 5 (by decide)).trans f5
                    have f6 := (σ44o 6 (by decide)).trans f6
                    have f7 := (σ44o 7 (by decide)).trans f7
                    have f8 := (σ44o 8 (by decide)).trans f8
                    have f9 := (σ44o 9 (by decide)).trans f9
                    have f10 := (σ44o 10 (by decide)).trans f10
                    have f11 := (σ44o 11 (by decide)).trans f11
                    have f12 := (σ44o 12 (by decide)).trans f12
                    have f13 := (σ44o 13 (by decide)).trans f13
                    have f14 := (σ44o 14 (by decide)).trans f14
                    have f15 := (σ44o 15 (by decide)).trans f15
                    have f4 := σ44j
                    have fs := fs.step (by simp) σ44o
                    have hs1 := (h43o _ (cne hs1 hm (by simp))).trans hs1
                    have hs2 := (h43o _ (cne hs2 hm (by simp))).trans hs2
                    have hs3 := (h43o _ (cne hs3 hm (by simp))).trans hs3
                    have hs4 := (h43o _ (cne hs4 hm (by simp))).trans hs4
                    have hk0 := (h43o _ (cne hk0 hm (by simp))).trans hk0
                    have hk1 := (h43o _ (cne hk1 hm (by simp))).trans hk1
                    have hk2 := (h43o _ (cne hk2 hm (by simp))).trans hk2
                    have hk3 := (h43o _ (cne hk3 hm (by simp))).trans hk3
                    have hk4 := (h43o _ (cne hk4 hm (by simp))).trans hk4
                    have hm := h43a
                    have fm := fm.step (by simp) h43o
                    refine ev_aload_n d_Mo_split_266 rfl rfl ?_
                    refine ev_getF d_Mo_split_267 fl_Mo_27 hm (by decide) f7 ?_
                    refine ev_iload_n d_Mo_split_270 rfl rfl ?_
                    refine ev_iload_n d_Mo_split_271 rfl rfl ?_
                    refine ez_iastore (F' := zup (va_cpy S3 S3 k (k + 1) (n - k)) k (j : Int)) k d_Mo_split_272 hs3 (by omega) (by omega) (by decide) rfl (fun h45 h45a h45o => ?_)
                    have hm := (h45o _ (cne hm hs3 (by simp))).trans hm
                    have hs1 := (h45o _ (cne hs1 hs3 (by simp))).trans hs1
                    have hs2 := (h45o _ (cne hs2 hs3 (by simp))).trans hs2
                    have hs4 := (h45o _ (cne hs4 hs3 (by simp))).trans hs4
                    have hk0 := (h45o _ (cne hk0 hs3 (by simp))).trans hk0
                    have hk1 := (h45o _ (cne hk1 hs3 (by simp))).trans hk1
                    have hk2 := (h45o _ (cne hk2 hs3 (by simp))).trans hk2
                    have hk3 := (h45o _ (cne hk3 hs3 (by simp))).trans hk3
                    have hk4 := (h45o _ (cne hk4 hs3 (by simp))).trans hk4
                    have hs3 := h45a
                    have fm := fm.step (by simp) h45o
                    refine ev_aload_n d_Mo_split_273 rfl rfl ?_
                    refine ev_getF d_Mo_split_274 fl_Mo_24 hm (by decide) f6 ?_
                    refine ev_iload_n d_Mo_split_277 rfl rfl ?_
                    refine ev_lload d_Mo_split_278 rfl ?_
                    refine ez_lastore (F' := zup (va_cpy S2 S2 k (k + 1) (n - k)) k (spTm S1 S2 S3 S4 k j)) k d_Mo_split_280 hs2 (by omega) (by omega) (by decide) rfl (fun h46 h46a h46o => ?_)
                    have hm := (h46o _ (cne hm hs2 (by simp))).trans hm
                    have hs1 := (h46o _ n_s).trans hs1
                    have hs3 := (h46o _ (cne hs3 hs2 (by simp))).trans hs3
                    have hs4 := (h46o _ (cne hs4 hs2 (by simp))).trans hs4
                    have hk0 := (h46o _ (cne hk0 hs2 (by simp))).trans hk0
                    have hk1 := (h46o _ (cne hk1 hs2 (by simp))).trans hk1
                    have hk2 := (h46o _ (cne hk2 hs2 (by simp))).trans hk2
                    have hk3 := (h46o _ (cne hk3 hs2 (by simp))).trans hk3
                    have hk4 := (h46o _ (cne hk4 hs2 (by simp))).trans hk4
                    have hs2 := h46a
                    have fm := fm.step (by simp) h46o
                    refine ev_aload_n d_Mo_split_281 rfl rfl ?_
                    refine ev_getF d_Mo_split_282 fl_Mo_20 hm (by decide) f5 ?_
                    refine ev_iload_n d_Mo_split_285 rfl rfl ?_
                    refine ev_iconst (v := iZ 1) d_Mo_split_286 rfl ?_
                    refine ez_iadd d_Mo_split_287 ?_
                    refine ev_lload d_Mo_split_288 rfl ?_
                    refine ez_lastore (F' := zup (va_cpy S1 S1 k (k + 1) (n - k)) (k + 1) (spTm S1 S2 S3 S4 k j)) (k + 1) d_Mo_split_290 hs1 (by omega) (by omega) (by decide) rfl (fun h47 h47a h47o => ?_)
                    have hm := (h47o _ (cne hm hs1 (by simp))).trans hm
                    have hs2 := (h47o _ (Ne.symm n_s)).trans hs2
                    have hs3 := (h47o _ (cne hs3 hs1 (by simp))).trans hs3
                    have hs4 := (h47o _ (cne hs4 hs1 (by simp))).trans hs4
                    have hk0 := (h47o _ (cne hk0 hs1 (by simp))).trans hk0
                    have hk1 := (h47o _ (cne hk1 hs1 (by simp))).trans hk1
                    have hk2 := (h47o _ (cne hk2 hs1 (by simp))).trans hk2
                    have hk3 := (h47o _ (cne hk3 hs1 (by simp))).trans hk3
                    have hk4 := (h47o _ (cne hk4 hs1 (by simp))).trans hk4
                    have hs1 := h47a
                    have fm := fm.step (by simp) h47o
                    refine ev_aload_n d_Mo_split_291 rfl rfl ?_
                    refine ev_getF d_Mo_split_292 fl_Mo_27 hm (by decide) f7 ?_
                    refine ev_iload_n d_Mo_split_295 rfl rfl ?_
                    refine ev_iconst (v := iZ 1) d_Mo_split_296 rfl ?_
                    refine ez_iadd d_Mo_split_297 ?_
                    refine ev_iload_n d_Mo_split_298 rfl rfl ?_
                    refine ev_iload d_Mo_split_299 rfl ?_
                    refine ez_isub d_Mo_split_301 ?_
                    refine ez_iastore (F' := zup (zup (va_cpy S3 S3 k (k + 1) (n - k)) k (j : Int)) (k + 1) (((S3 k).toNat : Int) - ((spF S4 k j : Nat) : Int))) (k + 1) d_Mo_split_302 hs3 (by omega) (by omega) (by decide) rfl (fun h48 h48a h48o => ?_)
                    have hm := (h48o _ (cne hm hs3 (by simp))).trans hm
                    have hs1 := (h48o _ (cne hs1 hs3 (by simp))).trans hs1
                    have hs2 := (h48o _ (cne hs2 hs3 (by simp))).trans hs2
                    have hs4 := (h48o _ (cne hs4 hs3 (by simp))).trans hs4
                    have hk0 := (h48o _ (cne hk0 hs3 (by simp))).trans hk0
                    have hk1 := (h48o _ (cne hk1 hs3 (by simp))).trans hk1
                    have hk2 := (h48o _ (cne hk2 hs3 (by simp))).trans hk2
                    have hk3 := (h48o _ (cne hk3 hs3 (by simp))).trans hk3
                    have hk4 := (h48o _ (cne hk4 hs3 (by simp))).trans hk4
                    have hs3 := h48a
                    have fm := fm.step (by simp) h48o
                    refine ev_iload d_Mo_split_303 rfl ?_
                    refine ev_istore (L' := [(0, .ref m), (1, .int (iZ (k : Int))), (2, .int (iZ (j : Int))), (3, .int (iZ ((S3 k).toNat : Int))), (4, .int (iZ ((spF S4 k j : Nat) : Int))), (11, .long (lZ (spTm S1 S2 S3 S4 k j))), (13, .int (iZ ((spF S4 k j : Nat) : Int)))]) d_Mo_split_305 (by decide) rfl ?_
                    refine lp_Mo_sp2 G _ h48 k j (S3 k).toNat (spF S4 k j) (spTm S1 S2 S3 S4 k j) (by omega) (by omega) σ44 m s4 (va_cpy S4 S4 (64 * k) (64 * (k + 1)) (64 * (n - k))) f8 ?_ ((S3 k).toNat - spF S4 k j) 0 h48 (by omega) hm (by rw [cpy_z]; exact hs4) Fm.rf
                    have jm := hm
                    have js1 := hs1
                    have js2 := hs2
                    have js3 := hs3
                    have js4 := hs4
                    have jk0 := hk0
                    have jk1 := hk1
                    have jk2 := hk2
                    have jk3 := hk3
                    have jk4 := hk4
                    rintro h20 q rfl hm hs4 fm2
                    have hs1 := (fm2 _ (ninc (cne js1 js4 (by simp)) nin0)).trans js1
                    have hs2 := (fm2 _ (ninc (cne js2 js4 (by simp)) nin0)).trans js2
                    have hs3 := (fm2 _ (ninc (cne js3 js4 (by simp)) nin0)).trans js3
                    have hk0 := (fm2 _ (ninc (cne jk0 js4 (by simp)) nin0)).trans jk0
                    have hk1 := (fm2 _ (ninc (cne jk1 js4 (by simp)) nin0)).trans jk1
                    have hk2 := (fm2 _ (ninc (cne jk2 js4 (by simp)) nin0)).trans jk2
                    have hk3 := (fm2 _ (ninc (cne jk3 js4 (by simp)) nin0)).trans jk3
                    have hk4 := (fm2 _ (ninc (cne jk4 js4 (by simp)) nin0)).trans jk4
                    have fm := fm.call (by simp) fm2
                    refine ev_aload_n d_Mo_split_349 rfl rfl ?_
                    refine ev_getF d_Mo_split_350 fl_Mo_92 hm (by decide) f4 ?_
                    exact ev_ireturn d_Mo_split_353 rfl (by decide) (by decide) (⟨fun q => absurd q (fun q => by rcases q with q | q | q | q <;> omega), fun _ q => absurd q (by omega), fun _ _ => ⟨rfl, ⟨σ44, hm, f4, f9, f10, fs⟩, hs1, hs2, hs3, hs4, hk0, hk1, hk2, hk3, hk4, fm⟩⟩)
                  · refine ev_bipush (v := iZ (-3)) d_Mo_split_221 rfl ?_
                    exact ev_ireturn d_Mo_split_223 rfl (by decide) (by decide) (⟨fun q => absurd q (fun q => by rcases q with q | q | q | q <;> omega), fun _ _ => ⟨rfl, rfl⟩, fun _ q => absurd q (by omega)⟩)
                · refine ev_bipush (v := iZ (-2)) d_Mo_split_209 rfl ?_
                  exact ev_ireturn d_Mo_split_211 rfl (by decide) (by decide) (⟨fun _ => ⟨rfl, rfl⟩, fun q => absurd (Or.inr (by first | exact Or.inl (by omega) | exact Or.inr (Or.inl (by omega)) | exact Or.inr (Or.inr ⟨by omega, by omega⟩))) q, fun q => absurd (Or.inr (by first | exact Or.inl (by omega) | exact Or.inr (Or.inl (by omega)) | exact Or.inr (Or.inr ⟨by omega, by omega⟩))) q⟩)
    · refine ev_bipush (v := iZ (-2)) d_Mo_split_41 rfl ?_
      exact ev_ireturn d_Mo_split_43 rfl (by decide) (by decide) (⟨fun _ => ⟨rfl, rfl⟩, fun q => absurd (Or.inl (by omega)) q, fun q => absurd (Or.inl (by omega)) q⟩)
