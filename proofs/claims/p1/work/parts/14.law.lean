theorem d_Law_law_124 : decode M_Law_law.2.1 124 = .ok (.aload_n 1, 1) := by decide +kernel
theorem d_Law_law_125 : decode M_Law_law.2.1 125 = .ok (.aload_n 0, 1) := by decide +kernel
theorem d_Law_law_126 : decode M_Law_law.2.1 126 = .ok (.iload_n 3, 1) := by decide +kernel
theorem d_Law_law_127 : decode M_Law_law.2.1 127 = .ok (.iconst 1, 1) := by decide +kernel
theorem d_Law_law_128 : decode M_Law_law.2.1 128 = .ok (.iadd, 1) := by decide +kernel
theorem d_Law_law_129 : decode M_Law_law.2.1 129 = .ok (.iaload, 1) := by decide +kernel
theorem d_Law_law_130 : decode M_Law_law.2.1 130 = .ok (.i2l, 1) := by decide +kernel
theorem d_Law_law_131 : decode M_Law_law.2.1 131 = .ok (.bipush 32, 2) := by decide +kernel
theorem d_Law_law_133 : decode M_Law_law.2.1 133 = .ok (.lshl, 1) := by decide +kernel
theorem d_Law_law_134 : decode M_Law_law.2.1 134 = .ok (.aload_n 0, 1) := by decide +kernel
theorem d_Law_law_135 : decode M_Law_law.2.1 135 = .ok (.iload_n 3, 1) := by decide +kernel
theorem d_Law_law_136 : decode M_Law_law.2.1 136 = .ok (.iconst 2, 1) := by decide +kernel
theorem d_Law_law_137 : decode M_Law_law.2.1 137 = .ok (.iadd, 1) := by decide +kernel
theorem d_Law_law_138 : decode M_Law_law.2.1 138 = .ok (.iaload, 1) := by decide +kernel
theorem d_Law_law_139 : decode M_Law_law.2.1 139 = .ok (.i2l, 1) := by decide +kernel
theorem d_Law_law_140 : decode M_Law_law.2.1 140 = .ok (.ldc2_w 13, 3) := by decide +kernel
theorem d_Law_law_143 : decode M_Law_law.2.1 143 = .ok (.land, 1) := by decide +kernel
theorem d_Law_law_144 : decode M_Law_law.2.1 144 = .ok (.lor, 1) := by decide +kernel
theorem d_Law_law_145 : decode M_Law_law.2.1 145 = .ok (.aload_n 0, 1) := by decide +kernel
theorem d_Law_law_146 : decode M_Law_law.2.1 146 = .ok (.iload_n 3, 1) := by decide +kernel
theorem d_Law_law_147 : decode M_Law_law.2.1 147 = .ok (.iconst 3, 1) := by decide +kernel
theorem d_Law_law_148 : decode M_Law_law.2.1 148 = .ok (.iadd, 1) := by decide +kernel
theorem d_Law_law_149 : decode M_Law_law.2.1 149 = .ok (.iaload, 1) := by decide +kernel
theorem d_Law_law_150 : decode M_Law_law.2.1 150 = .ok (.invokevirtual 15, 3) := by decide +kernel
theorem d_Law_law_153 : decode M_Law_law.2.1 153 = .ok (.aload_n 2, 1) := by decide +kernel
theorem d_Law_law_154 : decode M_Law_law.2.1 154 = .ok (.aload_n 0, 1) := by decide +kernel
theorem d_Law_law_155 : decode M_Law_law.2.1 155 = .ok (.iload_n 3, 1) := by decide +kernel
theorem d_Law_law_156 : decode M_Law_law.2.1 156 = .ok (.iconst 1, 1) := by decide +kernel
theorem d_Law_law_157 : decode M_Law_law.2.1 157 = .ok (.iadd, 1) := by decide +kernel
theorem d_Law_law_158 : decode M_Law_law.2.1 158 = .ok (.iaload, 1) := by decide +kernel
theorem d_Law_law_159 : decode M_Law_law.2.1 159 = .ok (.i2l, 1) := by decide +kernel
theorem d_Law_law_160 : decode M_Law_law.2.1 160 = .ok (.bipush 32, 2) := by decide +kernel
theorem d_Law_law_162 : decode M_Law_law.2.1 162 = .ok (.lshl, 1) := by decide +kernel
theorem d_Law_law_163 : decode M_Law_law.2.1 163 = .ok (.aload_n 0, 1) := by decide +kernel
theorem d_Law_law_164 : decode M_Law_law.2.1 164 = .ok (.iload_n 3, 1) := by decide +kernel
theorem d_Law_law_165 : decode M_Law_law.2.1 165 = .ok (.iconst 2, 1) := by decide +kernel
theorem d_Law_law_166 : decode M_Law_law.2.1 166 = .ok (.iadd, 1) := by decide +kernel
theorem d_Law_law_167 : decode M_Law_law.2.1 167 = .ok (.iaload, 1) := by decide +kernel
theorem d_Law_law_168 : decode M_Law_law.2.1 168 = .ok (.i2l, 1) := by decide +kernel
theorem d_Law_law_169 : decode M_Law_law.2.1 169 = .ok (.ldc2_w 13, 3) := by decide +kernel
theorem d_Law_law_172 : decode M_Law_law.2.1 172 = .ok (.land, 1) := by decide +kernel
theorem d_Law_law_173 : decode M_Law_law.2.1 173 = .ok (.lor, 1) := by decide +kernel
theorem d_Law_law_174 : decode M_Law_law.2.1 174 = .ok (.aload_n 0, 1) := by decide +kernel
theorem d_Law_law_175 : decode M_Law_law.2.1 175 = .ok (.iload_n 3, 1) := by decide +kernel
theorem d_Law_law_176 : decode M_Law_law.2.1 176 = .ok (.iconst 3, 1) := by decide +kernel
theorem d_Law_law_177 : decode M_Law_law.2.1 177 = .ok (.iadd, 1) := by decide +kernel
theorem d_Law_law_178 : decode M_Law_law.2.1 178 = .ok (.iaload, 1) := by decide +kernel
theorem d_Law_law_179 : decode M_Law_law.2.1 179 = .ok (.invokevirtual 19, 3) := by decide +kernel
theorem d_Law_law_182 : decode M_Law_law.2.1 182 = .ok (.if_icmp .eq 500, 3) := by decide +kernel
theorem d_Law_law_187 : decode M_Law_law.2.1 187 = .ok (.aload_n 1, 1) := by decide +kernel
theorem d_Law_law_188 : decode M_Law_law.2.1 188 = .ok (.invokevirtual 20, 3) := by decide +kernel
theorem d_Law_law_191 : decode M_Law_law.2.1 191 = .ok (.aload_n 2, 1) := by decide +kernel
theorem d_Law_law_192 : decode M_Law_law.2.1 192 = .ok (.invokevirtual 24, 3) := by decide +kernel
theorem d_Law_law_195 : decode M_Law_law.2.1 195 = .ok (.if_icmp .eq 487, 3) := by decide +kernel
theorem d_Law_law_200 : decode M_Law_law.2.1 200 = .ok (.aload_n 1, 1) := by decide +kernel
theorem d_Law_law_201 : decode M_Law_law.2.1 201 = .ok (.aload_n 0, 1) := by decide +kernel
theorem d_Law_law_202 : decode M_Law_law.2.1 202 = .ok (.iload_n 3, 1) := by decide +kernel
theorem d_Law_law_203 : decode M_Law_law.2.1 203 = .ok (.iconst 1, 1) := by decide +kernel
theorem d_Law_law_204 : decode M_Law_law.2.1 204 = .ok (.iadd, 1) := by decide +kernel
theorem d_Law_law_205 : decode M_Law_law.2.1 205 = .ok (.iaload, 1) := by decide +kernel
theorem d_Law_law_206 : decode M_Law_law.2.1 206 = .ok (.invokevirtual 25, 3) := by decide +kernel
theorem d_Law_law_209 : decode M_Law_law.2.1 209 = .ok (.aload_n 2, 1) := by decide +kernel
theorem d_Law_law_210 : decode M_Law_law.2.1 210 = .ok (.aload_n 0, 1) := by decide +kernel
theorem d_Law_law_211 : decode M_Law_law.2.1 211 = .ok (.iload_n 3, 1) := by decide +kernel
theorem d_Law_law_212 : decode M_Law_law.2.1 212 = .ok (.iconst 1, 1) := by decide +kernel
theorem d_Law_law_213 : decode M_Law_law.2.1 213 = .ok (.iadd, 1) := by decide +kernel
theorem d_Law_law_214 : decode M_Law_law.2.1 214 = .ok (.iaload, 1) := by decide +kernel
theorem d_Law_law_215 : decode M_Law_law.2.1 215 = .ok (.invokevirtual 29, 3) := by decide +kernel
theorem d_Law_law_218 : decode M_Law_law.2.1 218 = .ok (.if_icmp .eq 464, 3) := by decide +kernel
theorem d_Law_law_223 : decode M_Law_law.2.1 223 = .ok (.aload_n 1, 1) := by decide +kernel
theorem d_Law_law_224 : decode M_Law_law.2.1 224 = .ok (.aload_n 0, 1) := by decide +kernel
theorem d_Law_law_225 : decode M_Law_law.2.1 225 = .ok (.iload_n 3, 1) := by decide +kernel
theorem d_Law_law_226 : decode M_Law_law.2.1 226 = .ok (.iconst 1, 1) := by decide +kernel
theorem d_Law_law_227 : decode M_Law_law.2.1 227 = .ok (.iadd, 1) := by decide +kernel
theorem d_Law_law_228 : decode M_Law_law.2.1 228 = .ok (.iaload, 1) := by decide +kernel
theorem d_Law_law_229 : decode M_Law_law.2.1 229 = .ok (.aload_n 0, 1) := by decide +kernel
theorem d_Law_law_230 : decode M_Law_law.2.1 230 = .ok (.iload_n 3, 1) := by decide +kernel
theorem d_Law_law_231 : decode M_Law_law.2.1 231 = .ok (.iconst 2, 1) := by decide +kernel
theorem d_Law_law_232 : decode M_Law_law.2.1 232 = .ok (.iadd, 1) := by decide +kernel
theorem d_Law_law_233 : decode M_Law_law.2.1 233 = .ok (.iaload, 1) := by decide +kernel
theorem d_Law_law_234 : decode M_Law_law.2.1 234 = .ok (.invokevirtual 30, 3) := by decide +kernel
theorem d_Law_law_237 : decode M_Law_law.2.1 237 = .ok (.aload_n 2, 1) := by decide +kernel
theorem d_Law_law_238 : decode M_Law_law.2.1 238 = .ok (.aload_n 0, 1) := by decide +kernel
theorem d_Law_law_239 : decode M_Law_law.2.1 239 = .ok (.iload_n 3, 1) := by decide +kernel
theorem d_Law_law_240 : decode M_Law_law.2.1 240 = .ok (.iconst 1, 1) := by decide +kernel
theorem d_Law_law_241 : decode M_Law_law.2.1 241 = .ok (.iadd, 1) := by decide +kernel
theorem d_Law_law_242 : decode M_Law_law.2.1 242 = .ok (.iaload, 1) := by decide +kernel
theorem d_Law_law_243 : decode M_Law_law.2.1 243 = .ok (.aload_n 0, 1) := by decide +kernel
theorem d_Law_law_244 : decode M_Law_law.2.1 244 = .ok (.iload_n 3, 1) := by decide +kernel
theorem d_Law_law_245 : decode M_Law_law.2.1 245 = .ok (.iconst 2, 1) := by decide +kernel
theorem d_Law_law_246 : decode M_Law_law.2.1 246 = .ok (.iadd, 1) := by decide +kernel
theorem d_Law_law_247 : decode M_Law_law.2.1 247 = .ok (.iaload, 1) := by decide +kernel
theorem d_Law_law_248 : decode M_Law_law.2.1 248 = .ok (.invokevirtual 34, 3) := by decide +kernel
theorem d_Law_law_251 : decode M_Law_law.2.1 251 = .ok (.if_icmp .eq 431, 3) := by decide +kernel
theorem d_Law_law_256 : decode M_Law_law.2.1 256 = .ok (.aload_n 1, 1) := by decide +kernel
theorem d_Law_law_257 : decode M_Law_law.2.1 257 = .ok (.aload_n 0, 1) := by decide +kernel
theorem d_Law_law_258 : decode M_Law_law.2.1 258 = .ok (.iload_n 3, 1) := by decide +kernel
theorem d_Law_law_259 : decode M_Law_law.2.1 259 = .ok (.iconst 1, 1) := by decide +kernel
theorem d_Law_law_260 : decode M_Law_law.2.1 260 = .ok (.iadd, 1) := by decide +kernel
theorem d_Law_law_261 : decode M_Law_law.2.1 261 = .ok (.iaload, 1) := by decide +kernel
theorem d_Law_law_262 : decode M_Law_law.2.1 262 = .ok (.invokevirtual 35, 3) := by decide +kernel
theorem d_Law_law_265 : decode M_Law_law.2.1 265 = .ok (.aload_n 2, 1) := by decide +kernel
theorem d_Law_law_266 : decode M_Law_law.2.1 266 = .ok (.aload_n 0, 1) := by decide +kernel
theorem d_Law_law_267 : decode M_Law_law.2.1 267 = .ok (.iload_n 3, 1) := by decide +kernel
theorem d_Law_law_268 : decode M_Law_law.2.1 268 = .ok (.iconst 1, 1) := by decide +kernel
theorem d_Law_law_269 : decode M_Law_law.2.1 269 = .ok (.iadd, 1) := by decide +kernel
theorem d_Law_law_270 : decode M_Law_law.2.1 270 = .ok (.iaload, 1) := by decide +kernel
theorem d_Law_law_271 : decode M_Law_law.2.1 271 = .ok (.invokevirtual 38, 3) := by decide +kernel
theorem d_Law_law_274 : decode M_Law_law.2.1 274 = .ok (.if_icmp .eq 408, 3) := by decide +kernel
theorem d_Law_law_279 : decode M_Law_law.2.1 279 = .ok (.aload_n 1, 1) := by decide +kernel
theorem d_Law_law_280 : decode M_Law_law.2.1 280 = .ok (.aload_n 0, 1) := by decide +kernel
theorem d_Law_law_281 : decode M_Law_law.2.1 281 = .ok (.iload_n 3, 1) := by decide +kernel
theorem d_Law_law_282 : decode M_Law_law.2.1 282 = .ok (.iconst 1, 1) := by decide +kernel
theorem d_Law_law_283 : decode M_Law_law.2.1 283 = .ok (.iadd, 1) := by decide +kernel
theorem d_Law_law_284 : decode M_Law_law.2.1 284 = .ok (.iaload, 1) := by decide +kernel
theorem d_Law_law_285 : decode M_Law_law.2.1 285 = .ok (.invokevirtual 39, 3) := by decide +kernel
theorem d_Law_law_288 : decode M_Law_law.2.1 288 = .ok (.aload_n 2, 1) := by decide +kernel
theorem d_Law_law_289 : decode M_Law_law.2.1 289 = .ok (.aload_n 0, 1) := by decide +kernel
theorem d_Law_law_290 : decode M_Law_law.2.1 290 = .ok (.iload_n 3, 1) := by decide +kernel
theorem d_Law_law_291 : decode M_Law_law.2.1 291 = .ok (.iconst 1, 1) := by decide +kernel
theorem d_Law_law_292 : decode M_Law_law.2.1 292 = .ok (.iadd, 1) := by decide +kernel
theorem d_Law_law_293 : decode M_Law_law.2.1 293 = .ok (.iaload, 1) := by decide +kernel
theorem d_Law_law_294 : decode M_Law_law.2.1 294 = .ok (.invokevirtual 42, 3) := by decide +kernel
theorem d_Law_law_297 : decode M_Law_law.2.1 297 = .ok (.if_icmp .eq 385, 3) := by decide +kernel
theorem d_Law_law_302 : decode M_Law_law.2.1 302 = .ok (.aload_n 1, 1) := by decide +kernel
theorem d_Law_law_303 : decode M_Law_law.2.1 303 = .ok (.invokevirtual 43, 3) := by decide +kernel
theorem d_Law_law_306 : decode M_Law_law.2.1 306 = .ok (.aload_n 2, 1) := by decide +kernel
theorem d_Law_law_307 : decode M_Law_law.2.1 307 = .ok (.invokevirtual 46, 3) := by decide +kernel
theorem d_Law_law_310 : decode M_Law_law.2.1 310 = .ok (.if_icmp .eq 372, 3) := by decide +kernel
theorem d_Law_law_315 : decode M_Law_law.2.1 315 = .ok (.aload_n 1, 1) := by decide +kernel
theorem d_Law_law_316 : decode M_Law_law.2.1 316 = .ok (.aload_n 0, 1) := by decide +kernel
theorem d_Law_law_317 : decode M_Law_law.2.1 317 = .ok (.iload_n 3, 1) := by decide +kernel
theorem d_Law_law_318 : decode M_Law_law.2.1 318 = .ok (.iconst 1, 1) := by decide +kernel
theorem d_Law_law_319 : decode M_Law_law.2.1 319 = .ok (.iadd, 1) := by decide +kernel
theorem d_Law_law_320 : decode M_Law_law.2.1 320 = .ok (.iaload, 1) := by decide +kernel
theorem d_Law_law_321 : decode M_Law_law.2.1 321 = .ok (.aload_n 0, 1) := by decide +kernel
theorem d_Law_law_322 : decode M_Law_law.2.1 322 = .ok (.iload_n 3, 1) := by decide +kernel
theorem d_Law_law_323 : decode M_Law_law.2.1 323 = .ok (.iconst 2, 1) := by decide +kernel
theorem d_Law_law_324 : decode M_Law_law.2.1 324 = .ok (.iadd, 1) := by decide +kernel
theorem d_Law_law_325 : decode M_Law_law.2.1 325 = .ok (.iaload, 1) := by decide +kernel
theorem d_Law_law_326 : decode M_Law_law.2.1 326 = .ok (.invokevirtual 47, 3) := by decide +kernel
theorem d_Law_law_329 : decode M_Law_law.2.1 329 = .ok (.aload_n 2, 1) := by decide +kernel
theorem d_Law_law_330 : decode M_Law_law.2.1 330 = .ok (.aload_n 0, 1) := by decide +kernel
theorem d_Law_law_331 : decode M_Law_law.2.1 331 = .ok (.iload_n 3, 1) := by decide +kernel
theorem d_Law_law_332 : decode M_Law_law.2.1 332 = .ok (.iconst 1, 1) := by decide +kernel
theorem d_Law_law_333 : decode M_Law_law.2.1 333 = .ok (.iadd, 1) := by decide +kernel
theorem d_Law_law_334 : decode M_Law_law.2.1 334 = .ok (.iaload, 1) := by decide +kernel
theorem d_Law_law_335 : decode M_Law_law.2.1 335 = .ok (.aload_n 0, 1) := by decide +kernel
theorem d_Law_law_336 : decode M_Law_law.2.1 336 = .ok (.iload_n 3, 1) := by decide +kernel
theorem d_Law_law_337 : decode M_Law_law.2.1 337 = .ok (.iconst 2, 1) := by decide +kernel
theorem d_Law_law_338 : decode M_Law_law.2.1 338 = .ok (.iadd, 1) := by decide +kernel
theorem d_Law_law_339 : decode M_Law_law.2.1 339 = .ok (.iaload, 1) := by decide +kernel
theorem d_Law_law_340 : decode M_Law_law.2.1 340 = .ok (.invokevirtual 51, 3) := by decide +kernel
theorem d_Law_law_343 : decode M_Law_law.2.1 343 = .ok (.lcmp, 1) := by decide +kernel
theorem d_Law_law_344 : decode M_Law_law.2.1 344 = .ok (.ifCond .eq 338, 3) := by decide +kernel
theorem d_Law_law_349 : decode M_Law_law.2.1 349 = .ok (.aload_n 1, 1) := by decide +kernel
theorem d_Law_law_350 : decode M_Law_law.2.1 350 = .ok (.aload_n 0, 1) := by decide +kernel
theorem d_Law_law_351 : decode M_Law_law.2.1 351 = .ok (.iload_n 3, 1) := by decide +kernel
theorem d_Law_law_352 : decode M_Law_law.2.1 352 = .ok (.iconst 1, 1) := by decide +kernel
theorem d_Law_law_353 : decode M_Law_law.2.1 353 = .ok (.iadd, 1) := by decide +kernel
theorem d_Law_law_354 : decode M_Law_law.2.1 354 = .ok (.iaload, 1) := by decide +kernel
theorem d_Law_law_355 : decode M_Law_law.2.1 355 = .ok (.aload_n 0, 1) := by decide +kernel
theorem d_Law_law_356 : decode M_Law_law.2.1 356 = .ok (.iload_n 3, 1) := by decide +kernel
theorem d_Law_law_357 : decode M_Law_law.2.1 357 = .ok (.iconst 2, 1) := by decide +kernel
theorem d_Law_law_358 : decode M_Law_law.2.1 358 = .ok (.iadd, 1) := by decide +kernel
theorem d_Law_law_359 : decode M_Law_law.2.1 359 = .ok (.iaload, 1) := by decide +kernel
theorem d_Law_law_360 : decode M_Law_law.2.1 360 = .ok (.invokevirtual 52, 3) := by decide +kernel
theorem d_Law_law_363 : decode M_Law_law.2.1 363 = .ok (.aload_n 2, 1) := by decide +kernel
theorem d_Law_law_364 : decode M_Law_law.2.1 364 = .ok (.aload_n 0, 1) := by decide +kernel
theorem d_Law_law_365 : decode M_Law_law.2.1 365 = .ok (.iload_n 3, 1) := by decide +kernel
theorem d_Law_law_366 : decode M_Law_law.2.1 366 = .ok (.iconst 1, 1) := by decide +kernel
theorem d_Law_law_367 : decode M_Law_law.2.1 367 = .ok (.iadd, 1) := by decide +kernel
theorem d_Law_law_368 : decode M_Law_law.2.1 368 = .ok (.iaload, 1) := by decide +kernel
theorem d_Law_law_369 : decode M_Law_law.2.1 369 = .ok (.aload_n 0, 1) := by decide +kernel
theorem d_Law_law_370 : decode M_Law_law.2.1 370 = .ok (.iload_n 3, 1) := by decide +kernel
theorem d_Law_law_371 : decode M_Law_law.2.1 371 = .ok (.iconst 2, 1) := by decide +kernel
theorem d_Law_law_372 : decode M_Law_law.2.1 372 = .ok (.iadd, 1) := by decide +kernel
theorem d_Law_law_373 : decode M_Law_law.2.1 373 = .ok (.iaload, 1) := by decide +kernel
theorem d_Law_law_374 : decode M_Law_law.2.1 374 = .ok (.invokevirtual 56, 3) := by decide +kernel
theorem d_Law_law_377 : decode M_Law_law.2.1 377 = .ok (.if_icmp .eq 305, 3) := by decide +kernel
theorem d_Law_law_382 : decode M_Law_law.2.1 382 = .ok (.aload_n 1, 1) := by decide +kernel
theorem d_Law_law_383 : decode M_Law_law.2.1 383 = .ok (.aload_n 0, 1) := by decide +kernel
theorem d_Law_law_384 : decode M_Law_law.2.1 384 = .ok (.iload_n 3, 1) := by decide +kernel
theorem d_Law_law_385 : decode M_Law_law.2.1 385 = .ok (.iconst 1, 1) := by decide +kernel
theorem d_Law_law_386 : decode M_Law_law.2.1 386 = .ok (.iadd, 1) := by decide +kernel
theorem d_Law_law_387 : decode M_Law_law.2.1 387 = .ok (.iaload, 1) := by decide +kernel
theorem d_Law_law_388 : decode M_Law_law.2.1 388 = .ok (.invokevirtual 57, 3) := by decide +kernel
theorem d_Law_law_391 : decode M_Law_law.2.1 391 = .ok (.aload_n 2, 1) := by decide +kernel
theorem d_Law_law_392 : decode M_Law_law.2.1 392 = .ok (.aload_n 0, 1) := by decide +kernel
theorem d_Law_law_393 : decode M_Law_law.2.1 393 = .ok (.iload_n 3, 1) := by decide +kernel
theorem d_Law_law_394 : decode M_Law_law.2.1 394 = .ok (.iconst 1, 1) := by decide +kernel
theorem d_Law_law_395 : decode M_Law_law.2.1 395 = .ok (.iadd, 1) := by decide +kernel
theorem d_Law_law_396 : decode M_Law_law.2.1 396 = .ok (.iaload, 1) := by decide +kernel
theorem d_Law_law_397 : decode M_Law_law.2.1 397 = .ok (.invokevirtual 60, 3) := by decide +kernel
theorem d_Law_law_400 : decode M_Law_law.2.1 400 = .ok (.if_icmp .eq 282, 3) := by decide +kernel
theorem d_Law_law_405 : decode M_Law_law.2.1 405 = .ok (.aload_n 1, 1) := by decide +kernel
theorem d_Law_law_406 : decode M_Law_law.2.1 406 = .ok (.aload_n 0, 1) := by decide +kernel
theorem d_Law_law_407 : decode M_Law_law.2.1 407 = .ok (.iload_n 3, 1) := by decide +kernel
theorem d_Law_law_408 : decode M_Law_law.2.1 408 = .ok (.iconst 1, 1) := by decide +kernel
theorem d_Law_law_409 : decode M_Law_law.2.1 409 = .ok (.iadd, 1) := by decide +kernel
theorem d_Law_law_410 : decode M_Law_law.2.1 410 = .ok (.iaload, 1) := by decide +kernel
theorem d_Law_law_411 : decode M_Law_law.2.1 411 = .ok (.aload_n 0, 1) := by decide +kernel
theorem d_Law_law_412 : decode M_Law_law.2.1 412 = .ok (.iload_n 3, 1) := by decide +kernel
theorem d_Law_law_413 : decode M_Law_law.2.1 413 = .ok (.iconst 2, 1) := by decide +kernel
theorem d_Law_law_414 : decode M_Law_law.2.1 414 = .ok (.iadd, 1) := by decide +kernel
theorem d_Law_law_415 : decode M_Law_law.2.1 415 = .ok (.iaload, 1) := by decide +kernel
theorem d_Law_law_416 : decode M_Law_law.2.1 416 = .ok (.aload_n 0, 1) := by decide +kernel
theorem d_Law_law_417 : decode M_Law_law.2.1 417 = .ok (.iload_n 3, 1) := by decide +kernel
theorem d_Law_law_418 : decode M_Law_law.2.1 418 = .ok (.iconst 3, 1) := by decide +kernel
theorem d_Law_law_419 : decode M_Law_law.2.1 419 = .ok (.iadd, 1) := by decide +kernel
theorem d_Law_law_420 : decode M_Law_law.2.1 420 = .ok (.iaload, 1) := by decide +kernel
theorem d_Law_law_421 : decode M_Law_law.2.1 421 = .ok (.aload_n 0, 1) := by decide +kernel
theorem d_Law_law_422 : decode M_Law_law.2.1 422 = .ok (.iload_n 3, 1) := by decide +kernel
theorem d_Law_law_423 : decode M_Law_law.2.1 423 = .ok (.iconst 4, 1) := by decide +kernel
theorem d_Law_law_424 : decode M_Law_law.2.1 424 = .ok (.iadd, 1) := by decide +kernel
theorem d_Law_law_425 : decode M_Law_law.2.1 425 = .ok (.iaload, 1) := by decide +kernel
theorem d_Law_law_426 : decode M_Law_law.2.1 426 = .ok (.invokevirtual 61, 3) := by decide +kernel
theorem d_Law_law_429 : decode M_Law_law.2.1 429 = .ok (.aload_n 2, 1) := by decide +kernel
theorem d_Law_law_430 : decode M_Law_law.2.1 430 = .ok (.aload_n 0, 1) := by decide +kernel
theorem d_Law_law_431 : decode M_Law_law.2.1 431 = .ok (.iload_n 3, 1) := by decide +kernel
theorem d_Law_law_432 : decode M_Law_law.2.1 432 = .ok (.iconst 1, 1) := by decide +kernel
theorem d_Law_law_433 : decode M_Law_law.2.1 433 = .ok (.iadd, 1) := by decide +kernel
theorem d_Law_law_434 : decode M_Law_law.2.1 434 = .ok (.iaload, 1) := by decide +kernel
theorem d_Law_law_435 : decode M_Law_law.2.1 435 = .ok (.aload_n 0, 1) := by decide +kernel
theorem d_Law_law_436 : decode M_Law_law.2.1 436 = .ok (.iload_n 3, 1) := by decide +kernel
theorem d_Law_law_437 : decode M_Law_law.2.1 437 = .ok (.iconst 2, 1) := by decide +kernel
theorem d_Law_law_438 : decode M_Law_law.2.1 438 = .ok (.iadd, 1) := by decide +kernel
theorem d_Law_law_439 : decode M_Law_law.2.1 439 = .ok (.iaload, 1) := by decide +kernel
theorem d_Law_law_440 : decode M_Law_law.2.1 440 = .ok (.aload_n 0, 1) := by decide +kernel
theorem d_Law_law_441 : decode M_Law_law.2.1 441 = .ok (.iload_n 3, 1) := by decide +kernel
theorem d_Law_law_442 : decode M_Law_law.2.1 442 = .ok (.iconst 3, 1) := by decide +kernel
theorem d_Law_law_443 : decode M_Law_law.2.1 443 = .ok (.iadd, 1) := by decide +kernel
theorem d_Law_law_444 : decode M_Law_law.2.1 444 = .ok (.iaload, 1) := by decide +kernel
theorem d_Law_law_445 : decode M_Law_law.2.1 445 = .ok (.aload_n 0, 1) := by decide +kernel
theorem d_Law_law_446 : decode M_Law_law.2.1 446 = .ok (.iload_n 3, 1) := by decide +kernel
theorem d_Law_law_447 : decode M_Law_law.2.1 447 = .ok (.iconst 4, 1) := by decide +kernel
theorem d_Law_law_448 : decode M_Law_law.2.1 448 = .ok (.iadd, 1) := by decide +kernel
theorem d_Law_law_449 : decode M_Law_law.2.1 449 = .ok (.iaload, 1) := by decide +kernel
theorem d_Law_law_450 : decode M_Law_law.2.1 450 = .ok (.invokevirtual 65, 3) := by decide +kernel
theorem d_Law_law_453 : decode M_Law_law.2.1 453 = .ok (.if_icmp .eq 229, 3) := by decide +kernel
theorem d_Law_law_458 : decode M_Law_law.2.1 458 = .ok (.aload_n 1, 1) := by decide +kernel
theorem d_Law_law_459 : decode M_Law_law.2.1 459 = .ok (.invokevirtual 66, 3) := by decide +kernel
theorem d_Law_law_462 : decode M_Law_law.2.1 462 = .ok (.aload_n 2, 1) := by decide +kernel
theorem d_Law_law_463 : decode M_Law_law.2.1 463 = .ok (.invokevirtual 69, 3) := by decide +kernel
theorem d_Law_law_466 : decode M_Law_law.2.1 466 = .ok (.if_icmp .eq 216, 3) := by decide +kernel
theorem d_Law_law_471 : decode M_Law_law.2.1 471 = .ok (.aload_n 1, 1) := by decide +kernel
theorem d_Law_law_472 : decode M_Law_law.2.1 472 = .ok (.aload_n 0, 1) := by decide +kernel
theorem d_Law_law_473 : decode M_Law_law.2.1 473 = .ok (.iload_n 3, 1) := by decide +kernel
theorem d_Law_law_474 : decode M_Law_law.2.1 474 = .ok (.iconst 1, 1) := by decide +kernel
theorem d_Law_law_475 : decode M_Law_law.2.1 475 = .ok (.iadd, 1) := by decide +kernel
theorem d_Law_law_476 : decode M_Law_law.2.1 476 = .ok (.iaload, 1) := by decide +kernel
theorem d_Law_law_477 : decode M_Law_law.2.1 477 = .ok (.invokevirtual 70, 3) := by decide +kernel
theorem d_Law_law_480 : decode M_Law_law.2.1 480 = .ok (.aload_n 2, 1) := by decide +kernel
theorem d_Law_law_481 : decode M_Law_law.2.1 481 = .ok (.aload_n 0, 1) := by decide +kernel
theorem d_Law_law_482 : decode M_Law_law.2.1 482 = .ok (.iload_n 3, 1) := by decide +kernel
theorem d_Law_law_483 : decode M_Law_law.2.1 483 = .ok (.iconst 1, 1) := by decide +kernel
theorem d_Law_law_484 : decode M_Law_law.2.1 484 = .ok (.iadd, 1) := by decide +kernel
theorem d_Law_law_485 : decode M_Law_law.2.1 485 = .ok (.iaload, 1) := by decide +kernel
theorem d_Law_law_486 : decode M_Law_law.2.1 486 = .ok (.invokevirtual 73, 3) := by decide +kernel
theorem d_Law_law_489 : decode M_Law_law.2.1 489 = .ok (.if_icmp .eq 193, 3) := by decide +kernel
theorem d_Law_law_494 : decode M_Law_law.2.1 494 = .ok (.aload_n 1, 1) := by decide +kernel
theorem d_Law_law_495 : decode M_Law_law.2.1 495 = .ok (.aload_n 0, 1) := by decide +kernel
theorem d_Law_law_496 : decode M_Law_law.2.1 496 = .ok (.iload_n 3, 1) := by decide +kernel
theorem d_Law_law_497 : decode M_Law_law.2.1 497 = .ok (.iconst 1, 1) := by decide +kernel
theorem d_Law_law_498 : decode M_Law_law.2.1 498 = .ok (.iadd, 1) := by decide +kernel
theorem d_Law_law_499 : decode M_Law_law.2.1 499 = .ok (.iaload, 1) := by decide +kernel
theorem d_Law_law_500 : decode M_Law_law.2.1 500 = .ok (.aload_n 0, 1) := by decide +kernel
theorem d_Law_law_501 : decode M_Law_law.2.1 501 = .ok (.iload_n 3, 1) := by decide +kernel
theorem d_Law_law_502 : decode M_Law_law.2.1 502 = .ok (.iconst 2, 1) := by decide +kernel
theorem d_Law_law_503 : decode M_Law_law.2.1 503 = .ok (.iadd, 1) := by decide +kernel
theorem d_Law_law_504 : decode M_Law_law.2.1 504 = .ok (.iaload, 1) := by decide +kernel
theorem d_Law_law_505 : decode M_Law_law.2.1 505 = .ok (.aload_n 0, 1) := by decide +kernel
theorem d_Law_law_506 : decode M_Law_law.2.1 506 = .ok (.iload_n 3, 1) := by decide +kernel
theorem d_Law_law_507 : decode M_Law_law.2.1 507 = .ok (.iconst 3, 1) := by decide +kernel
theorem d_Law_law_508 : decode M_Law_law.2.1 508 = .ok (.iadd, 1) := by decide +kernel
theorem d_Law_law_509 : decode M_Law_law.2.1 509 = .ok (.iaload, 1) := by decide +kernel
theorem d_Law_law_510 : decode M_Law_law.2.1 510 = .ok (.aload_n 0, 1) := by decide +kernel
theorem d_Law_law_511 : decode M_Law_law.2.1 511 = .ok (.iload_n 3, 1) := by decide +kernel
theorem d_Law_law_512 : decode M_Law_law.2.1 512 = .ok (.iconst 4, 1) := by decide +kernel
theorem d_Law_law_513 : decode M_Law_law.2.1 513 = .ok (.iadd, 1) := by decide +kernel
theorem d_Law_law_514 : decode M_Law_law.2.1 514 = .ok (.iaload, 1) := by decide +kernel
theorem d_Law_law_515 : decode M_Law_law.2.1 515 = .ok (.invokevirtual 74, 3) := by decide +kernel
theorem d_Law_law_518 : decode M_Law_law.2.1 518 = .ok (.aload_n 2, 1) := by decide +kernel
theorem d_Law_law_519 : decode M_Law_law.2.1 519 = .ok (.aload_n 0, 1) := by decide +kernel
theorem d_Law_law_520 : decode M_Law_law.2.1 520 = .ok (.iload_n 3, 1) := by decide +kernel
theorem d_Law_law_521 : decode M_Law_law.2.1 521 = .ok (.iconst 1, 1) := by decide +kernel
theorem d_Law_law_522 : decode M_Law_law.2.1 522 = .ok (.iadd, 1) := by decide +kernel
theorem d_Law_law_523 : decode M_Law_law.2.1 523 = .ok (.iaload, 1) := by decide +kernel
theorem d_Law_law_524 : decode M_Law_law.2.1 524 = .ok (.aload_n 0, 1) := by decide +kernel
theorem d_Law_law_525 : decode M_Law_law.2.1 525 = .ok (.iload_n 3, 1) := by decide +kernel
theorem d_Law_law_526 : decode M_Law_law.2.1 526 = .ok (.iconst 2, 1) := by decide +kernel
theorem d_Law_law_527 : decode M_Law_law.2.1 527 = .ok (.iadd, 1) := by decide +kernel
theorem d_Law_law_528 : decode M_Law_law.2.1 528 = .ok (.iaload, 1) := by decide +kernel
theorem d_Law_law_529 : decode M_Law_law.2.1 529 = .ok (.aload_n 0, 1) := by decide +kernel
theorem d_Law_law_530 : decode M_Law_law.2.1 530 = .ok (.iload_n 3, 1) := by decide +kernel
theorem d_Law_law_531 : decode M_Law_law.2.1 531 = .ok (.iconst 3, 1) := by decide +kernel
theorem d_Law_law_532 : decode M_Law_law.2.1 532 = .ok (.iadd, 1) := by decide +kernel
theorem d_Law_law_533 : decode M_Law_law.2.1 533 = .ok (.iaload, 1) := by decide +kernel
theorem d_Law_law_534 : decode M_Law_law.2.1 534 = .ok (.aload_n 0, 1) := by decide +kernel
theorem d_Law_law_535 : decode M_Law_law.2.1 535 = .ok (.iload_n 3, 1) := by decide +kernel
theorem d_Law_law_536 : decode M_Law_law.2.1 536 = .ok (.iconst 4, 1) := by decide +kernel
theorem d_Law_law_537 : decode M_Law_law.2.1 537 = .ok (.iadd, 1) := by decide +kernel
theorem d_Law_law_538 : decode M_Law_law.2.1 538 = .ok (.iaload, 1) := by decide +kernel
theorem d_Law_law_539 : decode M_Law_law.2.1 539 = .ok (.invokevirtual 77, 3) := by decide +kernel
theorem d_Law_law_542 : decode M_Law_law.2.1 542 = .ok (.if_icmp .eq 140, 3) := by decide +kernel
theorem d_Law_law_547 : decode M_Law_law.2.1 547 = .ok (.aload_n 1, 1) := by decide +kernel
theorem d_Law_law_548 : decode M_Law_law.2.1 548 = .ok (.aload_n 0, 1) := by decide +kernel
theorem d_Law_law_549 : decode M_Law_law.2.1 549 = .ok (.iload_n 3, 1) := by decide +kernel
theorem d_Law_law_550 : decode M_Law_law.2.1 550 = .ok (.iconst 1, 1) := by decide +kernel
theorem d_Law_law_551 : decode M_Law_law.2.1 551 = .ok (.iadd, 1) := by decide +kernel
theorem d_Law_law_552 : decode M_Law_law.2.1 552 = .ok (.iaload, 1) := by decide +kernel
theorem d_Law_law_553 : decode M_Law_law.2.1 553 = .ok (.i2l, 1) := by decide +kernel
theorem d_Law_law_554 : decode M_Law_law.2.1 554 = .ok (.bipush 32, 2) := by decide +kernel
theorem d_Law_law_556 : decode M_Law_law.2.1 556 = .ok (.lshl, 1) := by decide +kernel
theorem d_Law_law_557 : decode M_Law_law.2.1 557 = .ok (.aload_n 0, 1) := by decide +kernel
theorem d_Law_law_558 : decode M_Law_law.2.1 558 = .ok (.iload_n 3, 1) := by decide +kernel
theorem d_Law_law_559 : decode M_Law_law.2.1 559 = .ok (.iconst 2, 1) := by decide +kernel
theorem d_Law_law_560 : decode M_Law_law.2.1 560 = .ok (.iadd, 1) := by decide +kernel
theorem d_Law_law_561 : decode M_Law_law.2.1 561 = .ok (.iaload, 1) := by decide +kernel
theorem d_Law_law_562 : decode M_Law_law.2.1 562 = .ok (.i2l, 1) := by decide +kernel
theorem d_Law_law_563 : decode M_Law_law.2.1 563 = .ok (.ldc2_w 13, 3) := by decide +kernel
theorem d_Law_law_566 : decode M_Law_law.2.1 566 = .ok (.land, 1) := by decide +kernel
theorem d_Law_law_567 : decode M_Law_law.2.1 567 = .ok (.lor, 1) := by decide +kernel
theorem d_Law_law_568 : decode M_Law_law.2.1 568 = .ok (.invokevirtual 78, 3) := by decide +kernel
theorem d_Law_law_571 : decode M_Law_law.2.1 571 = .ok (.aload_n 2, 1) := by decide +kernel
theorem d_Law_law_572 : decode M_Law_law.2.1 572 = .ok (.aload_n 0, 1) := by decide +kernel
theorem d_Law_law_573 : decode M_Law_law.2.1 573 = .ok (.iload_n 3, 1) := by decide +kernel
theorem d_Law_law_574 : decode M_Law_law.2.1 574 = .ok (.iconst 1, 1) := by decide +kernel
theorem d_Law_law_575 : decode M_Law_law.2.1 575 = .ok (.iadd, 1) := by decide +kernel
theorem d_Law_law_576 : decode M_Law_law.2.1 576 = .ok (.iaload, 1) := by decide +kernel
theorem d_Law_law_577 : decode M_Law_law.2.1 577 = .ok (.i2l, 1) := by decide +kernel
theorem d_Law_law_578 : decode M_Law_law.2.1 578 = .ok (.bipush 32, 2) := by decide +kernel
theorem d_Law_law_580 : decode M_Law_law.2.1 580 = .ok (.lshl, 1) := by decide +kernel
theorem d_Law_law_581 : decode M_Law_law.2.1 581 = .ok (.aload_n 0, 1) := by decide +kernel
theorem d_Law_law_582 : decode M_Law_law.2.1 582 = .ok (.iload_n 3, 1) := by decide +kernel
theorem d_Law_law_583 : decode M_Law_law.2.1 583 = .ok (.iconst 2, 1) := by decide +kernel
theorem d_Law_law_584 : decode M_Law_law.2.1 584 = .ok (.iadd, 1) := by decide +kernel
theorem d_Law_law_585 : decode M_Law_law.2.1 585 = .ok (.iaload, 1) := by decide +kernel
theorem d_Law_law_586 : decode M_Law_law.2.1 586 = .ok (.i2l, 1) := by decide +kernel
theorem d_Law_law_587 : decode M_Law_law.2.1 587 = .ok (.ldc2_w 13, 3) := by decide +kernel
theorem d_Law_law_590 : decode M_Law_law.2.1 590 = .ok (.land, 1) := by decide +kernel
theorem d_Law_law_591 : decode M_Law_law.2.1 591 = .ok (.lor, 1) := by decide +kernel
theorem d_Law_law_592 : decode M_Law_law.2.1 592 = .ok (.invokevirtual 82, 3) := by decide +kernel
theorem d_Law_law_595 : decode M_Law_law.2.1 595 = .ok (.if_icmp .eq 87, 3) := by decide +kernel
theorem d_Law_law_600 : decode M_Law_law.2.1 600 = .ok (.aload_n 1, 1) := by decide +kernel
theorem d_Law_law_601 : decode M_Law_law.2.1 601 = .ok (.aload_n 0, 1) := by decide +kernel
theorem d_Law_law_602 : decode M_Law_law.2.1 602 = .ok (.iload_n 3, 1) := by decide +kernel
theorem d_Law_law_603 : decode M_Law_law.2.1 603 = .ok (.iconst 1, 1) := by decide +kernel
theorem d_Law_law_604 : decode M_Law_law.2.1 604 = .ok (.iadd, 1) := by decide +kernel
theorem d_Law_law_605 : decode M_Law_law.2.1 605 = .ok (.iaload, 1) := by decide +kernel
theorem d_Law_law_606 : decode M_Law_law.2.1 606 = .ok (.invokevirtual 83, 3) := by decide +kernel
theorem d_Law_law_609 : decode M_Law_law.2.1 609 = .ok (.aload_n 2, 1) := by decide +kernel
theorem d_Law_law_610 : decode M_Law_law.2.1 610 = .ok (.aload_n 0, 1) := by decide +kernel
theorem d_Law_law_611 : decode M_Law_law.2.1 611 = .ok (.iload_n 3, 1) := by decide +kernel
theorem d_Law_law_612 : decode M_Law_law.2.1 612 = .ok (.iconst 1, 1) := by decide +kernel
theorem d_Law_law_613 : decode M_Law_law.2.1 613 = .ok (.iadd, 1) := by decide +kernel
theorem d_Law_law_614 : decode M_Law_law.2.1 614 = .ok (.iaload, 1) := by decide +kernel
theorem d_Law_law_615 : decode M_Law_law.2.1 615 = .ok (.invokevirtual 86, 3) := by decide +kernel
theorem d_Law_law_618 : decode M_Law_law.2.1 618 = .ok (.if_icmp .eq 64, 3) := by decide +kernel
theorem d_Law_law_623 : decode M_Law_law.2.1 623 = .ok (.aload_n 1, 1) := by decide +kernel
theorem d_Law_law_624 : decode M_Law_law.2.1 624 = .ok (.aload_n 0, 1) := by decide +kernel
theorem d_Law_law_625 : decode M_Law_law.2.1 625 = .ok (.iload_n 3, 1) := by decide +kernel
theorem d_Law_law_626 : decode M_Law_law.2.1 626 = .ok (.iconst 1, 1) := by decide +kernel
theorem d_Law_law_627 : decode M_Law_law.2.1 627 = .ok (.iadd, 1) := by decide +kernel
theorem d_Law_law_628 : decode M_Law_law.2.1 628 = .ok (.iaload, 1) := by decide +kernel
theorem d_Law_law_629 : decode M_Law_law.2.1 629 = .ok (.aload_n 0, 1) := by decide +kernel
theorem d_Law_law_630 : decode M_Law_law.2.1 630 = .ok (.iload_n 3, 1) := by decide +kernel
theorem d_Law_law_631 : decode M_Law_law.2.1 631 = .ok (.iconst 2, 1) := by decide +kernel
theorem d_Law_law_632 : decode M_Law_law.2.1 632 = .ok (.iadd, 1) := by decide +kernel
theorem d_Law_law_633 : decode M_Law_law.2.1 633 = .ok (.iaload, 1) := by decide +kernel
theorem d_Law_law_634 : decode M_Law_law.2.1 634 = .ok (.invokevirtual 87, 3) := by decide +kernel
theorem d_Law_law_637 : decode M_Law_law.2.1 637 = .ok (.aload_n 2, 1) := by decide +kernel
theorem d_Law_law_638 : decode M_Law_law.2.1 638 = .ok (.aload_n 0, 1) := by decide +kernel
theorem d_Law_law_639 : decode M_Law_law.2.1 639 = .ok (.iload_n 3, 1) := by decide +kernel
theorem d_Law_law_640 : decode M_Law_law.2.1 640 = .ok (.iconst 1, 1) := by decide +kernel
theorem d_Law_law_641 : decode M_Law_law.2.1 641 = .ok (.iadd, 1) := by decide +kernel
theorem d_Law_law_642 : decode M_Law_law.2.1 642 = .ok (.iaload, 1) := by decide +kernel
theorem d_Law_law_643 : decode M_Law_law.2.1 643 = .ok (.aload_n 0, 1) := by decide +kernel
theorem d_Law_law_644 : decode M_Law_law.2.1 644 = .ok (.iload_n 3, 1) := by decide +kernel
theorem d_Law_law_645 : decode M_Law_law.2.1 645 = .ok (.iconst 2, 1) := by decide +kernel
theorem d_Law_law_646 : decode M_Law_law.2.1 646 = .ok (.iadd, 1) := by decide +kernel
theorem d_Law_law_647 : decode M_Law_law.2.1 647 = .ok (.iaload, 1) := by decide +kernel
theorem d_Law_law_648 : decode M_Law_law.2.1 648 = .ok (.invokevirtual 90, 3) := by decide +kernel
theorem d_Law_law_651 : decode M_Law_law.2.1 651 = .ok (.if_icmp .eq 31, 3) := by decide +kernel
theorem d_Law_law_656 : decode M_Law_law.2.1 656 = .ok (.aload_n 1, 1) := by decide +kernel
theorem d_Law_law_657 : decode M_Law_law.2.1 657 = .ok (.invokevirtual 91, 3) := by decide +kernel
theorem d_Law_law_660 : decode M_Law_law.2.1 660 = .ok (.aload_n 2, 1) := by decide +kernel
theorem d_Law_law_661 : decode M_Law_law.2.1 661 = .ok (.invokevirtual 94, 3) := by decide +kernel
theorem d_Law_law_664 : decode M_Law_law.2.1 664 = .ok (.if_icmp .eq 18, 3) := by decide +kernel
theorem d_Law_law_669 : decode M_Law_law.2.1 669 = .ok (.aload_n 1, 1) := by decide +kernel
theorem d_Law_law_670 : decode M_Law_law.2.1 670 = .ok (.invokevirtual 95, 3) := by decide +kernel
theorem d_Law_law_673 : decode M_Law_law.2.1 673 = .ok (.aload_n 2, 1) := by decide +kernel
theorem d_Law_law_674 : decode M_Law_law.2.1 674 = .ok (.invokevirtual 99, 3) := by decide +kernel
theorem d_Law_law_677 : decode M_Law_law.2.1 677 = .ok (.if_icmp .eq 5, 3) := by decide +kernel
def xs (G : GT) (j : Nat) : Int := (G_x G j).toInt
theorem xs_r (G : GT) (j : Nat) : iR (xs G j) := iR_of _
def la (a b : Int) : Int := ((lZ a <<< ((iZ 32).toInt64 &&& 63)) ||| (lZ b &&& lZ 4294967295)).toInt
theorem la_r (a b : Int) : lR (la a b) := lR_of _
theorem and31 {a : Int} (ha : iR a) : iZ a &&& iZ 31 = iZ (a % 32) := by
  apply Int32.toBitVec.inj
  apply BitVec.eq_of_toNat_eq
  rw [Int32.toBitVec_and, BitVec.toNat_and]
  show (BitVec.ofInt 32 a).toNat &&& 31 = (BitVec.ofInt 32 (a % 32)).toNat
  rw [show (BitVec.ofInt 32 a).toNat &&& 31 = (BitVec.ofInt 32 a).toNat % 32 from Nat.and_two_pow_sub_one_eq_mod _ 5, BitVec.toNat_ofInt, BitVec.toNat_ofInt]
  omega
section EVL
variable {G : GT} {M : MT} {R : Room} {Q : Option Value → HM → Prop} {pc : Nat} {L : List (Nat × Value)} {st : List Value} {h : HM} {k n : Nat} {a b : Int}
theorem ez_sld (j : Nat) (d : decode M.2.1 pc = .ok (.iaload, 1)) (hj : a = j) (hN : j < G_n G) (hN2 : G_n G ≤ 2560) (kk : Ev G M R Q (pc + 1) L (.int (iZ (xs G j)) :: st) h k n) : Ev G M R Q pc L (.int (iZ a) :: .ref (G_b G) :: st) h k n :=
  ev_sld d (iZ_in hj hN (by omega)) (by rw [iZ_cl hj (by omega)]; rw [xs, iZ_of] at kk; exact kk)
theorem ez_slen (d : decode M.2.1 pc = .ok (.arraylength, 1)) (kk : Ev G M R Q (pc + 1) L (.int (iZ (G_n G : Int)) :: st) h k n) : Ev G M R Q pc L (.ref (G_b G) :: st) h k n :=
  ev_slen d (by rw [← Int32.ofInt_eq_ofNat]; exact kk)
theorem ez_iand31 (ha : iR a) (d : decode M.2.1 pc = .ok (.iand, 1)) (kk : Ev G M R Q (pc + 1) L (.int (iZ (a % 32)) :: st) h k n) : Ev G M R Q pc L (.int (iZ 31) :: .int (iZ a) :: st) h k n := ev_iand d (by rw [and31 ha]; exact kk)
theorem ez_la (d1 : decode M.2.1 pc = .ok (.land, 1)) (d2 : decode M.2.1 (pc + 1) = .ok (.lor, 1)) (kk : Ev G M R Q (pc + 1 + 1) L (.long (lZ (la a b)) :: st) h k n) : Ev G M R Q pc L (.long (lZ 4294967295) :: .long (lZ b) :: .long (lZ a <<< ((iZ 32).toInt64 &&& 63)) :: st) h k n := by
  refine ev_land d1 (ev_lor d2 ?_)
  rw [la, lZ_of] at kk
  exact kk
theorem ez_tabIn {dflt lo hi off : Int} {offs : Array Int} {len tgt : Nat} (d : decode M.2.1 pc = .ok (.tableswitch dflt lo hi offs, len)) (ha : iR a) (h1 : lo ≤ a) (h2 : a ≤ hi) (ho : offs[(a - lo).toNat]? = some off) (ht : (pc : Int) + off = (tgt : Int)) (kk : Ev G M R Q tgt L st h k n) : Ev G M R Q pc L (.int (iZ a) :: st) h k n :=
  ev_tableIn d (by rw [iZ_t ha]; omega) (by rw [iZ_t ha]; omega) (by rw [iZ_t ha]; exact ho) ht kk
theorem ez_tabOut {dflt lo hi : Int} {offs : Array Int} {len tgt : Nat} (d : decode M.2.1 pc = .ok (.tableswitch dflt lo hi offs, len)) (ha : iR a) (hx : a < lo ∨ hi < a) (ht : (pc : Int) + dflt = (tgt : Int)) (kk : Ev G M R Q tgt L st h k n) : Ev G M R Q pc L (.int (iZ a) :: st) h k n :=
  ev_tableOut d (by rw [iZ_t ha]; exact hx) ht kk
end EVL
/-- a room within a call's share of the law's -/
def Rk (R : Room) : Prop := R.frames ≤ 9 ∧ R.locals ≤ 300 ∧ R.cells ≤ 6 ∧ R.slots ≤ 1082
/-- the class's call, then the reference's with the same arguments: one answer -/
def Duo (G : GT) (x m : Nat) (Mx Mm : MT) (ar : List Value) (mk : Int → Value) (rg : Int → Prop) (h : HM) (P : HM → Prop) : Prop :=
  (∃ fs, h x = some (.inr (0, fs))) ∧ ∃ Rx, Rk Rx ∧ Rn G Mx Rx (.ref x :: ar) h (fun r h' => ∃ v, rg v ∧ r = some (mk v) ∧ (∃ fs, h' m = some (.inr (11, fs))) ∧ ∃ Rm, Rk Rm ∧ Rn G Mm Rm (.ref m :: ar) h' (fun r2 h2 => r2 = some (mk v) ∧ P h2))
abbrev mI (v : Int) : Value := .int (iZ v)
abbrev mL (v : Int) : Value := .long (lZ v)
/-- every pair of calls, from this heap, to P -/
def Duos (G : GT) (x m : Nat) (h : HM) (P : HM → Prop) : Prop :=
  (∀ a0 a1 : Int, lR a0 → iR a1 → Duo G x m M_CB_put M_Mo_put [.long (lZ a0), .int (iZ a1)] mI iR h P) ∧
  (Duo G x m M_CB_wipe M_Mo_wipe [] mI iR h P) ∧
  (∀ a0 : Int, iR a0 → Duo G x m M_CB_at M_Mo_at [.int (iZ a0)] mI iR h P) ∧
  (∀ a0 a1 : Int, iR a0 → iR a1 → Duo G x m M_CB_rate M_Mo_rate [.int (iZ a0), .int (iZ a1)] mI iR h P) ∧
  (∀ a0 : Int, iR a0 → Duo G x m M_CB_read M_Mo_read [.int (iZ a0)] mI iR h P) ∧
  (∀ a0 : Int, iR a0 → Duo G x m M_CB_write M_Mo_write [.int (iZ a0)] mI iR h P) ∧
  (Duo G x m M_CB_cues M_Mo_cues [] mI iR h P) ∧
  (∀ a0 a1 : Int, iR a0 → iR a1 → Duo G x m M_CB_cue M_Mo_cue [.int (iZ a0), .int (iZ a1)] mL lR h P) ∧
  (∀ a0 a1 : Int, iR a0 → iR a1 → Duo G x m M_CB_text M_Mo_text [.int (iZ a0), .int (iZ a1)] mI iR h P) ∧
  (∀ a0 : Int, iR a0 → Duo G x m M_CB_shot M_Mo_shot [.int (iZ a0)] mI iR h P) ∧
  (∀ a0 a1 a2 a3 : Int, iR a0 → iR a1 → iR a2 → iR a3 → Duo G x m M_CB_rules M_Mo_rules [.int (iZ a0), .int (iZ a1), .int (iZ a2), .int (iZ a3)] mI iR h P) ∧
  (Duo G x m M_CB_repair M_Mo_repair [] mI iR h P) ∧
  (∀ a0 : Int, iR a0 → Duo G x m M_CB_breakLines M_Mo_breakLines [.int (iZ a0)] mI iR h P) ∧
  (∀ a0 a1 a2 a3 : Int, iR a0 → iR a1 → iR a2 → iR a3 → Duo G x m M_CB_twoPoint M_Mo_twoPoint [.int (iZ a0), .int (iZ a1), .int (iZ a2), .int (iZ a3)] mI iR h P) ∧
  (∀ a0 : Int, lR a0 → Duo G x m M_CB_shift M_Mo_shift [.long (lZ a0)] mI iR h P) ∧
  (∀ a0 : Int, iR a0 → Duo G x m M_CB_merge M_Mo_merge [.int (iZ a0)] mI iR h P) ∧
  (∀ a0 a1 : Int, iR a0 → iR a1 → Duo G x m M_CB_split M_Mo_split [.int (iZ a0), .int (iZ a1)] mI iR h P) ∧
  (Duo G x m M_CB_clash M_Mo_clash [] mI iR h P) ∧
  (Duo G x m M_CB_undo M_Mo_undo [] mI iR h P)
set_option maxHeartbeats 4000000 in
set_option maxRecDepth 100000 in
theorem tu_put (G : GT) (x m i k n : Nat) (h : HM) (P : HM → Prop) (hn : G_n G ≤ 2560) (hi : 5 * i + 5 ≤ G_n G) (hkr : k + 12 ≤ 600000) (hnr : n + 2164 ≤ 7302250) (hd : ∀ a0 a1 : Int, lR a0 → iR a1 → Duo G x m M_CB_put M_Mo_put [.long (lZ a0), .int (iZ a1)] mI iR h P) (hk : ∀ h2, P h2 → Ev G M_Law_law room_1 (fun r _ => r = some (.int 1)) 682 [(0, .ref (G_b G)), (1, .ref x), (2, .ref m), (3, .int (iZ ((5 * i : Nat) : Int)))] [] h2 (k + 12) (n + 2164)) : Ev G M_Law_law room_1 (fun r _ => r = some (.int 1)) 124 [(0, .ref (G_b G)), (1, .ref x), (2, .ref m), (3, .int (iZ ((5 * i : Nat) : Int)))] [] h k n := by
  obtain ⟨⟨fsx, hx⟩, Rx, hRx, hc⟩ := hd _ _ (la_r _ _) (xs_r G _)
  refine ev_aload_n d_Law_law_124 rfl rfl ?_
  refine ev_aload_n d_Law_law_125 rfl rfl ?_
  refine ev_iload_n d_Law_law_126 rfl rfl ?_
  refine ev_iconst (v := iZ 1) d_Law_law_127 rfl ?_
  refine ez_iadd d_Law_law_128 ?_
  refine ez_sld (5 * i + 1) d_Law_law_129 (by omega) (by omega) hn ?_
  refine ez_i2l (xs_r G _) d_Law_law_130 ?_
  refine ev_bipush (v := iZ 32) d_Law_law_131 rfl ?_
  refine ev_lshl d_Law_law_133 ?_
  refine ev_aload_n d_Law_law_134 rfl rfl ?_
  refine ev_iload_n d_Law_law_135 rfl rfl ?_
  refine ev_iconst (v := iZ 2) d_Law_law_136 rfl ?_
  refine ez_iadd d_Law_law_137 ?_
  refine ez_sld (5 * i + 2) d_Law_law_138 (by omega) (by omega) hn ?_
  refine ez_i2l (xs_r G _) d_Law_law_139 ?_
  refine ev_ldc2 (v := lZ 4294967295) d_Law_law_140 kc_Law_13 ?_
  refine ez_la d_Law_law_143 d_Law_law_144 ?_
  refine ev_aload_n d_Law_law_145 rfl rfl ?_
  refine ev_iload_n d_Law_law_146 rfl rfl ?_
  refine ev_iconst (v := iZ 3) d_Law_law_147 rfl ?_
  refine ez_iadd d_Law_law_148 ?_
  refine ez_sld (5 * i + 3) d_Law_law_149 (by omega) (by omega) hn ?_
  refine ev_callV M_CB_put Rx _ (As := [.long (lZ (la (xs G (5 * i + 1)) (xs G (5 * i + 2)))), .int (iZ (xs G (5 * i + 3)))]) hc d_Law_law_150 mk_CB_put ml_Law_15 mv_CB_put hx rfl rfl rfl (Nat.le_of_ble_eq_true rfl) ⟨by show _ ≤ 10; have := hRx.1; omega, by show 8 + (_ + 11) + _ ≤ 342; have := hRx.2.1; show 8 + (5 + 11) + Rx.locals ≤ 342; omega⟩ ⟨by show _ ≤ 600000; have := hRx.2.2.1; omega, by show _ ≤ 7302250; have := hRx.2.2.2; omega⟩ (fun r h1 hq => ?_)
  obtain ⟨v, hv, rfl, ⟨fsm, hm⟩, Rm, hRm, hc2⟩ := hq
  refine ev_aload_n d_Law_law_153 rfl rfl ?_
  refine ev_aload_n d_Law_law_154 rfl rfl ?_
  refine ev_iload_n d_Law_law_155 rfl rfl ?_
  refine ev_iconst (v := iZ 1) d_Law_law_156 rfl ?_
  refine ez_iadd d_Law_law_157 ?_
  refine ez_sld (5 * i + 1) d_Law_law_158 (by omega) (by omega) hn ?_
  refine ez_i2l (xs_r G _) d_Law_law_159 ?_
  refine ev_bipush (v := iZ 32) d_Law_law_160 rfl ?_
  refine ev_lshl d_Law_law_162 ?_
  refine ev_aload_n d_Law_law_163 rfl rfl ?_
  refine ev_iload_n d_Law_law_164 rfl rfl ?_
  refine ev_iconst (v := iZ 2) d_Law_law_165 rfl ?_
  refine ez_iadd d_Law_law_166 ?_
  refine ez_sld (5 * i + 2) d_Law_law_167 (by omega) (by omega) hn ?_
  refine ez_i2l (xs_r G _) d_Law_law_168 ?_
  refine ev_ldc2 (v := lZ 4294967295) d_Law_law_169 kc_Law_13 ?_
  refine ez_la d_Law_law_172 d_Law_law_173 ?_
  refine ev_aload_n d_Law_law_174 rfl rfl ?_
  refine ev_iload_n d_Law_law_175 rfl rfl ?_
  refine ev_iconst (v := iZ 3) d_Law_law_176 rfl ?_
  refine ez_iadd d_Law_law_177 ?_
  refine ez_sld (5 * i + 3) d_Law_law_178 (by omega) (by omega) hn ?_
  refine ev_callV M_Mo_put Rm _ (As := [.long (lZ (la (xs G (5 * i + 1)) (xs G (5 * i + 2)))), .int (iZ (xs G (5 * i + 3)))]) (rest := [.int (iZ v)]) hc2 d_Law_law_179 mk_Mo_put ml_Law_19 mv_Mo_put hm rfl rfl rfl (Nat.le_of_ble_eq_true rfl) ⟨by show _ ≤ 10; have := hRm.1; omega, by show 8 + (5 + 11) + Rm.locals ≤ 342; have := hRm.2.1; omega⟩ ⟨by show _ ≤ 600000; have := hRx.2.2.1; have := hRm.2.2.1; omega, by show _ ≤ 7302250; have := hRx.2.2.2; have := hRm.2.2.2; omega⟩ (fun r2 h2 hq2 => ?_)
  obtain ⟨rfl, hP⟩ := hq2
  refine ez_icmp_eq (tgt := 682) hv hv d_Law_law_182 rfl (fun _ => ?_) (fun c => absurd rfl c)
  refine ev_widen (k + 12) (n + 2164) (by have := hRx.2.2.1; have := hRm.2.2.1; omega) (by have := hRx.2.2.2; have := hRm.2.2.2; omega) ?_
  exact hk _ hP
set_option maxHeartbeats 4000000 in
set_option maxRecDepth 100000 in
theorem tu_wipe (G : GT) (x m i k n : Nat) (h : HM) (P : HM → Prop) (hn : G_n G ≤ 2560) (hi : 5 * i + 5 ≤ G_n G) (hkr : k + 12 ≤ 600000) (hnr : n + 2164 ≤ 7302250) (hd : Duo G x m M_CB_wipe M_Mo_wipe [] mI iR h P) (hk : ∀ h2, P h2 → Ev G M_Law_law room_1 (fun r _ => r = some (.int 1)) 682 [(0, .ref (G_b G)), (1, .ref x), (2, .ref m), (3, .int (iZ ((5 * i : Nat) : Int)))] [] h2 (k + 12) (n + 2164)) : Ev G M_Law_law room_1 (fun r _ => r = some (.int 1)) 187 [(0, .ref (G_b G)), (1, .ref x), (2, .ref m), (3, .int (iZ ((5 * i : Nat) : Int)))] [] h k n := by
  obtain ⟨⟨fsx, hx⟩, Rx, hRx, hc⟩ := hd
  refine ev_aload_n d_Law_law_187 rfl rfl ?_
  refine ev_callV M_CB_wipe Rx _ (As := []) hc d_Law_law_188 mk_CB_wipe ml_Law_20 mv_CB_wipe hx rfl rfl rfl (Nat.le_of_ble_eq_true rfl) ⟨by show _ ≤ 10; have := hRx.1; omega, by show 8 + (_ + 11) + _ ≤ 342; have := hRx.2.1; show 8 + (2 + 11) + Rx.locals ≤ 342; omega⟩ ⟨by show _ ≤ 600000; have := hRx.2.2.1; omega, by show _ ≤ 7302250; have := hRx.2.2.2; omega⟩ (fun r h1 hq => ?_)
  obtain ⟨v, hv, rfl, ⟨fsm, hm⟩, Rm, hRm, hc2⟩ := hq
  refine ev_aload_n d_Law_law_191 rfl rfl ?_
  refine ev_callV M_Mo_wipe Rm _ (As := []) (rest := [.int (iZ v)]) hc2 d_Law_law_192 mk_Mo_wipe ml_Law_24 mv_Mo_wipe hm rfl rfl rfl (Nat.le_of_ble_eq_true rfl) ⟨by show _ ≤ 10; have := hRm.1; omega, by show 8 + (2 + 11) + Rm.locals ≤ 342; have := hRm.2.1; omega⟩ ⟨by show _ ≤ 600000; have := hRx.2.2.1; have := hRm.2.2.1; omega, by show _ ≤ 7302250; have := hRx.2.2.2; have := hRm.2.2.2; omega⟩ (fun r2 h2 hq2 => ?_)
  obtain ⟨rfl, hP⟩ := hq2
  refine ez_icmp_eq (tgt := 682) hv hv d_Law_law_195 rfl (fun _ => ?_) (fun c => absurd rfl c)
  refine ev_widen (k + 12) (n + 2164) (by have := hRx.2.2.1; have := hRm.2.2.1; omega) (by have := hRx.2.2.2; have := hRm.2.2.2; omega) ?_
  exact hk _ hP
set_option maxHeartbeats 4000000 in
set_option maxRecDepth 100000 in
theorem tu_at (G : GT) (x m i k n : Nat) (h : HM) (P : HM → Prop) (hn : G_n G ≤ 2560) (hi : 5 * i + 5 ≤ G_n G) (hkr : k + 12 ≤ 600000) (hnr : n + 2164 ≤ 7302250) (hd : ∀ a0 : Int, iR a0 → Duo G x m M_CB_at M_Mo_at [.int (iZ a0)] mI iR h P) (hk : ∀ h2, P h2 → Ev G M_Law_law room_1 (fun r _ => r = some (.int 1)) 682 [(0, .ref (G_b G)), (1, .ref x), (2, .ref m), (3, .int (iZ ((5 * i : Nat) : Int)))] [] h2 (k + 12) (n + 2164)) : Ev G M_Law_law room_1 (fun r _ => r = some (.int 1)) 200 [(0, .ref (G_b G)), (1, .ref x), (2, .ref m), (3, .int (iZ ((5 * i : Nat) : Int)))] [] h k n := by
  obtain ⟨⟨fsx, hx⟩, Rx, hRx, hc⟩ := hd _ (xs_r G _)
  refine ev_aload_n d_Law_law_200 rfl rfl ?_
  refine ev_aload_n d_Law_law_201 rfl rfl ?_
  refine ev_iload_n d_Law_law_202 rfl rfl ?_
  refine ev_iconst (v := iZ 1) d_Law_law_203 rfl ?_
  refine ez_iadd d_Law_law_204 ?_
  refine ez_sld (5 * i + 1) d_Law_law_205 (by omega) (by omega) hn ?_
  refine ev_callV M_CB_at Rx _ (As := [.int (iZ (xs G (5 * i + 1)))]) hc d_Law_law_206 mk_CB_at ml_Law_25 mv_CB_at hx rfl rfl rfl (Nat.le_of_ble_eq_true rfl) ⟨by show _ ≤ 10; have := hRx.1; omega, by show 8 + (_ + 11) + _ ≤ 342; have := hRx.2.1; show 8 + (2 + 11) + Rx.locals ≤ 342; omega⟩ ⟨by show _ ≤ 600000; have := hRx.2.2.1; omega, by show _ ≤ 7302250; have := hRx.2.2.2; omega⟩ (fun r h1 hq => ?_)
  obtain ⟨v, hv, rfl, ⟨fsm, hm⟩, Rm, hRm, hc2⟩ := hq
  refine ev_aload_n d_Law_law_209 rfl rfl ?_
  refine ev_aload_n d_Law_law_210 rfl rfl ?_
  refine ev_iload_n d_Law_law_211 rfl rfl ?_
  refine ev_iconst (v := iZ 1) d_Law_law_212 rfl ?_
  refine ez_iadd d_Law_law_213 ?_
  refine ez_sld (5 * i + 1) d_Law_law_214 (by omega) (by omega) hn ?_
  refine ev_callV M_Mo_at Rm _ (As := [.int (iZ (xs G (5 * i + 1)))]) (rest := [.int (iZ v)]) hc2 d_Law_law_215 mk_Mo_at ml_Law_29 mv_Mo_at hm rfl rfl rfl (Nat.le_of_ble_eq_true rfl) ⟨by show _ ≤ 10; have := hRm.1; omega, by show 8 + (2 + 11) + Rm.locals ≤ 342; have := hRm.2.1; omega⟩ ⟨by show _ ≤ 600000; have := hRx.2.2.1; have := hRm.2.2.1; omega, by show _ ≤ 7302250; have := hRx.2.2.2; have := hRm.2.2.2; omega⟩ (fun r2 h2 hq2 => ?_)
  obtain ⟨rfl, hP⟩ := hq2
  refine ez_icmp_eq (tgt := 682) hv hv d_Law_law_218 rfl (fun _ => ?_) (fun c => absurd rfl c)
  refine ev_widen (k + 12) (n + 2164) (by have := hRx.2.2.1; have := hRm.2.2.1; omega) (by have := hRx.2.2.2; have := hRm.2.2.2; omega) ?_
  exact hk _ hP
set_option maxHeartbeats 4000000 in
set_option maxRecDepth 100000 in
theorem tu_rate (G : GT) (x m i k n : Nat) (h : HM) (P : HM → Prop) (hn : G_n G ≤ 2560) (hi : 5 * i + 5 ≤ G_n G) (hkr : k + 12 ≤ 600000) (hnr : n + 2164 ≤ 7302250) (hd : ∀ a0 a1 : Int, iR a0 → iR a1 → Duo G x m M_CB_rate M_Mo_rate [.int (iZ a0), .int (iZ a1)] mI iR h P) (hk : ∀ h2, P h2 → Ev G M_Law_law room_1 (fun r _ => r = some (.int 1)) 682 [(0, .ref (G_b G)), (1, .ref x), (2, .ref m), (3, .int (iZ ((5 * i : Nat) : Int)))] [] h2 (k + 12) (n + 2164)) : Ev G M_Law_law room_1 (fun r _ => r = some (.int 1)) 223 [(0, .ref (G_b G)), (1, .ref x), (2, .ref m), (3, .int (iZ ((5 * i : Nat) : Int)))] [] h k n := by
  obtain ⟨⟨fsx, hx⟩, Rx, hRx, hc⟩ := hd _ _ (xs_r G _) (xs_r G _)
  refine ev_aload_n d_Law_law_223 rfl rfl ?_
  refine ev_aload_n d_Law_law_224 rfl rfl ?_
  refine ev_iload_n d_Law_law_225 rfl rfl ?_
  refine ev_iconst (v := iZ 1) d_Law_law_226 rfl ?_
  refine ez_iadd d_Law_law_227 ?_
  refine ez_sld (5 * i + 1) d_Law_law_228 (by omega) (by omega) hn ?_
  refine ev_aload_n d_Law_law_229 rfl rfl ?_
  refine ev_iload_n d_Law_law_230 rfl rfl ?_
  refine ev_iconst (v := iZ 2) d_Law_law_231 rfl ?_
  refine ez_iadd d_Law_law_232 ?_
  refine ez_sld (5 * i + 2) d_Law_law_233 (by omega) (by omega) hn ?_
  refine ev_callV M_CB_rate Rx _ (As := [.int (iZ (xs G (5 * i + 1))), .int (iZ (xs G (5 * i + 2)))]) hc d_Law_law_234 mk_CB_rate ml_Law_30 mv_CB_rate hx rfl rfl rfl (Nat.le_of_ble_eq_true rfl) ⟨by show _ ≤ 10; have := hRx.1; omega, by show 8 + (_ + 11) + _ ≤ 342; have := hRx.2.1; show 8 + (3 + 11) + Rx.locals ≤ 342; omega⟩ ⟨by show _ ≤ 600000; have := hRx.2.2.1; omega, by show _ ≤ 7302250; have := hRx.2.2.2; omega⟩ (fun r h1 hq => ?_)
  obtain ⟨v, hv, rfl, ⟨fsm, hm⟩, Rm, hRm, hc2⟩ := hq
  refine ev_aload_n d_Law_law_237 rfl rfl ?_
  refine ev_aload_n d_Law_law_238 rfl rfl ?_
  refine ev_iload_n d_Law_law_239 rfl rfl ?_
  refine ev_iconst (v := iZ 1) d_Law_law_240 rfl ?_
  refine ez_iadd d_Law_law_241 ?_
  refine ez_sld (5 * i + 1) d_Law_law_242 (by omega) (by omega) hn ?_
  refine ev_aload_n d_Law_law_243 rfl rfl ?_
  refine ev_iload_n d_Law_law_244 rfl rfl ?_
  refine ev_iconst (v := iZ 2) d_Law_law_245 rfl ?_
  refine ez_iadd d_Law_law_246 ?_
  refine ez_sld (5 * i + 2) d_Law_law_247 (by omega) (by omega) hn ?_
  refine ev_callV M_Mo_rate Rm _ (As := [.int (iZ (xs G (5 * i + 1))), .int (iZ (xs G (5 * i + 2)))]) (rest := [.int (iZ v)]) hc2 d_Law_law_248 mk_Mo_rate ml_Law_34 mv_Mo_rate hm rfl rfl rfl (Nat.le_of_ble_eq_true rfl) ⟨by show _ ≤ 10; have := hRm.1; omega, by show 8 + (3 + 11) + Rm.locals ≤ 342; have := hRm.2.1; omega⟩ ⟨by show _ ≤ 600000; have := hRx.2.2.1; have := hRm.2.2.1; omega, by show _ ≤ 7302250; have := hRx.2.2.2; have := hRm.2.2.2; omega⟩ (fun r2 h2 hq2 => ?_)
  obtain ⟨rfl, hP⟩ := hq2
  refine ez_icmp_eq (tgt := 682) hv hv d_Law_law_251 rfl (fun _ => ?_) (fun c => absurd rfl c)
  refine ev_widen (k + 12) (n + 2164) (by have := hRx.2.2.1; have := hRm.2.2.1; omega) (by have := hRx.2.2.2; have := hRm.2.2.2; omega) ?_
  exact hk _ hP
set_option maxHeartbeats 4000000 in
set_option maxRecDepth 100000 in
theorem tu_read (G : GT) (x m i k n : Nat) (h : HM) (P : HM → Prop) (hn : G_n G ≤ 2560) (hi : 5 * i + 5 ≤ G_n G) (hkr : k + 12 ≤ 600000) (hnr : n + 2164 ≤ 7302250) (hd : ∀ a0 : Int, iR a0 → Duo G x m M_CB_read M_Mo_read [.int (iZ a0)] mI iR h P) (hk : ∀ h2, P h2 → Ev G M_Law_law room_1 (fun r _ => r = some (.int 1)) 682 [(0, .ref (G_b G)), (1, .ref x), (2, .ref m), (3, .int (iZ ((5 * i : Nat) : Int)))] [] h2 (k + 12) (n + 2164)) : Ev G M_Law_law room_1 (fun r _ => r = some (.int 1)) 256 [(0, .ref (G_b G)), (1, .ref x), (2, .ref m), (3, .int (iZ ((5 * i : Nat) : Int)))] [] h k n := by
  obtain ⟨⟨fsx, hx⟩, Rx, hRx, hc⟩ := hd _ (xs_r G _)
  refine ev_aload_n d_Law_law_256 rfl rfl ?_
  refine ev_aload_n d_Law_law_257 rfl rfl ?_
  refine ev_iload_n d_Law_law_258 rfl rfl ?_
  refine ev_iconst (v := iZ 1) d_Law_law_259 rfl ?_
  refine ez_iadd d_Law_law_260 ?_
  refine ez_sld (5 * i + 1) d_Law_law_261 (by omega) (by omega) hn ?_
  refine ev_callV M_CB_read Rx _ (As := [.int (iZ (xs G (5 * i + 1)))]) hc d_Law_law_262 mk_CB_read ml_Law_35 mv_CB_read hx rfl rfl rfl (Nat.le_of_ble_eq_true rfl) ⟨by show _ ≤ 10; have := hRx.1; omega, by show 8 + (_ + 11) + _ ≤ 342; have := hRx.2.1; show 8 + (3 + 11) + Rx.locals ≤ 342; omega⟩ ⟨by show _ ≤ 600000; have := hRx.2.2.1; omega, by show _ ≤ 7302250; have := hRx.2.2.2; omega⟩ (fun r h1 hq => ?_)
  obtain ⟨v, hv, rfl, ⟨fsm, hm⟩, Rm, hRm, hc2⟩ := hq
  refine ev_aload_n d_Law_law_265 rfl rfl ?_
  refine ev_aload_n d_Law_law_266 rfl rfl ?_
  refine ev_iload_n d_Law_law_267 rfl rfl ?_
  refine ev_iconst (v := iZ 1) d_Law_law_268 rfl ?_
  refine ez_iadd d_Law_law_269 ?_
  refine ez_sld (5 * i + 1) d_Law_law_270 (by omega) (by omega) hn ?_
  refine ev_callV M_Mo_read Rm _ (As := [.int (iZ (xs G (5 * i + 1)))]) (rest := [.int (iZ v)]) hc2 d_Law_law_271 mk_Mo_read ml_Law_38 mv_Mo_read hm rfl rfl rfl (Nat.le_of_ble_eq_true rfl) ⟨by show _ ≤ 10; have := hRm.1; omega, by show 8 + (4 + 11) + Rm.locals ≤ 342; have := hRm.2.1; omega⟩ ⟨by show _ ≤ 600000; have := hRx.2.2.1; have := hRm.2.2.1; omega, by show _ ≤ 7302250; have := hRx.2.2.2; have := hRm.2.2.2; omega⟩ (fun r2 h2 hq2 => ?_)
  obtain ⟨rfl, hP⟩ := hq2
  refine ez_icmp_eq (tgt := 682) hv hv d_Law_law_274 rfl (fun _ => ?_) (fun c => absurd rfl c)
  refine ev_widen (k + 12) (n + 2164) (by have := hRx.2.2.1; have := hRm.2.2.1; omega) (by have := hRx.2.2.2; have := hRm.2.2.2; omega) ?_
  exact hk _ hP
set_option maxHeartbeats 4000000 in
set_option maxRecDepth 100000 in
theorem tu_write (G : GT) (x m i k n : Nat) (h : HM) (P : HM → Prop) (hn : G_n G ≤ 2560) (hi : 5 * i + 5 ≤ G_n G) (hkr : k + 12 ≤ 600000) (hnr : n + 2164 ≤ 7302250) (hd : ∀ a0 : Int, iR a0 → Duo G x m M_CB_write M_Mo_write [.int (iZ a0)] mI iR h P) (hk : ∀ h2, P h2 → Ev G M_Law_law room_1 (fun r _ => r = some (.int 1)) 682 [(0, .ref (G_b G)), (1, .ref x), (2, .ref m), (3, .int (iZ ((5 * i : Nat) : Int)))] [] h2 (k + 12) (n + 2164)) : Ev G M_Law_law room_1 (fun r _ => r = some (.int 1)) 279 [(0, .ref (G_b G)), (1, .ref x), (2, .ref m), (3, .int (iZ ((5 * i : Nat) : Int)))] [] h k n := by
  obtain ⟨⟨fsx, hx⟩, Rx, hRx, hc⟩ := hd _ (xs_r G _)
  refine ev_aload_n d_Law_law_279 rfl rfl ?_
  refine ev_aload_n d_Law_law_280 rfl rfl ?_
  refine ev_iload_n d_Law_law_281 rfl rfl ?_
  refine ev_iconst (v := iZ 1) d_Law_law_282 rfl ?_
  refine ez_iadd d_Law_law_283 ?_
  refine ez_sld (5 * i + 1) d_Law_law_284 (by omega) (by omega) hn ?_
  refine ev_callV M_CB_write Rx _ (As := [.int (iZ (xs G (5 * i + 1)))]) hc d_Law_law_285 mk_CB_write ml_Law_39 mv_CB_write hx rfl rfl rfl (Nat.le_of_ble_eq_true rfl) ⟨by show _ ≤ 10; have := hRx.1; omega, by show 8 + (_ + 11) + _ ≤ 342; have := hRx.2.1; show 8 + (2 + 11) + Rx.locals ≤ 342; omega⟩ ⟨by show _ ≤ 600000; have := hRx.2.2.1; omega, by show _ ≤ 7302250; have := hRx.2.2.2; omega⟩ (fun r h1 hq => ?_)
  obtain ⟨v, hv, rfl, ⟨fsm, hm⟩, Rm, hRm, hc2⟩ := hq
  refine ev_aload_n d_Law_law_288 rfl rfl ?_
  refine ev_aload_n d_Law_law_289 rfl rfl ?_
  refine ev_iload_n d_Law_law_290 rfl rfl ?_
  refine ev_iconst (v := iZ 1) d_Law_law_291 rfl ?_
  refine ez_iadd d_Law_law_292 ?_
  refine ez_sld (5 * i + 1) d_Law_law_293 (by omega) (by omega) hn ?_
  refine ev_callV M_Mo_write Rm _ (As := [.int (iZ (xs G (5 * i + 1)))]) (rest := [.int (iZ v)]) hc2 d_Law_law_294 mk_Mo_write ml_Law_42 mv_Mo_write hm rfl rfl rfl (Nat.le_of_ble_eq_true rfl) ⟨by show _ ≤ 10; have := hRm.1; omega, by show 8 + (4 + 11) + Rm.locals ≤ 342; have := hRm.2.1; omega⟩ ⟨by show _ ≤ 600000; have := hRx.2.2.1; have := hRm.2.2.1; omega, by show _ ≤ 7302250; have := hRx.2.2.2; have := hRm.2.2.2; omega⟩ (fun r2 h2 hq2 => ?_)
  obtain ⟨rfl, hP⟩ := hq2
  refine ez_icmp_eq (tgt := 682) hv hv d_Law_law_297 rfl (fun _ => ?_) (fun c => absurd rfl c)
  refine ev_widen (k + 12) (n + 2164) (by have := hRx.2.2.1; have := hRm.2.2.1; omega) (by have := hRx.2.2.2; have := hRm.2.2.2; omega) ?_
  exact hk _ hP
set_option maxHeartbeats 4000000 in
set_option maxRecDepth 100000 in
theorem tu_cues (G : GT) (x m i k n : Nat) (h : HM) (P : HM → Prop) (hn : G_n G ≤ 2560) (hi : 5 * i + 5 ≤ G_n G) (hkr : k + 12 ≤ 600000) (hnr : n + 2164 ≤ 7302250) (hd : Duo G x m M_CB_cues M_Mo_cues [] mI iR h P) (hk : ∀ h2, P h2 → Ev G M_Law_law room_1 (fun r _ => r = some (.int 1)) 682 [(0, .ref (G_b G)), (1, .ref x), (2, .ref m), (3, .int (iZ ((5 * i : Nat) : Int)))] [] h2 (k + 12) (n + 2164)) : Ev G M_Law_law room_1 (fun r _ => r = some (.int 1)) 302 [(0, .ref (G_b G)), (1, .ref x), (2, .ref m), (3, .int (iZ ((5 * i : Nat) : Int)))] [] h k n := by
  obtain ⟨⟨fsx, hx⟩, Rx, hRx, hc⟩ := hd
  refine ev_aload_n d_Law_law_302 rfl rfl ?_
  refine ev_callV M_CB_cues Rx _ (As := []) hc d_Law_law_303 mk_CB_cues ml_Law_43 mv_CB_cues hx rfl rfl rfl (Nat.le_of_ble_eq_true rfl) ⟨by show _ ≤ 10; have := hRx.1; omega, by show 8 + (_ + 11) + _ ≤ 342; have := hRx.2.1; show 8 + (1 + 11) + Rx.locals ≤ 342; omega⟩ ⟨by show _ ≤ 600000; have := hRx.2.2.1; omega, by show _ ≤ 7302250; have := hRx.2.2.2; omega⟩ (fun r h1 hq => ?_)
  obtain ⟨v, hv, rfl, ⟨fsm, hm⟩, Rm, hRm, hc2⟩ := hq
  refine ev_aload_n d_Law_law_306 rfl rfl ?_
  refine ev_callV M_Mo_cues Rm _ (As := []) (rest := [.int (iZ v)]) hc2 d_Law_law_307 mk_Mo_cues ml_Law_46 mv_Mo_cues hm rfl rfl rfl (Nat.le_of_ble_eq_true rfl) ⟨by show _ ≤ 10; have := hRm.1; omega, by show 8 + (1 + 11) + Rm.locals ≤ 342; have := hRm.2.1; omega⟩ ⟨by show _ ≤ 600000; have := hRx.2.2.1; have := hRm.2.2.1; omega, by show _ ≤ 7302250; have := hRx.2.2.2; have := hRm.2.2.2; omega⟩ (fun r2 h2 hq2 => ?_)
  obtain ⟨rfl, hP⟩ := hq2
  refine ez_icmp_eq (tgt := 682) hv hv d_Law_law_310 rfl (fun _ => ?_) (fun c => absurd rfl c)
  refine ev_widen (k + 12) (n + 2164) (by have := hRx.2.2.1; have := hRm.2.2.1; omega) (by have := hRx.2.2.2; have := hRm.2.2.2; omega) ?_
  exact hk _ hP
set_option maxHeartbeats 4000000 in
set_option maxRecDepth 100000 in
theorem tu_cue (G : GT) (x m i k n : Nat) (h : HM) (P : HM → Prop) (hn : G_n G ≤ 2560) (hi : 5 * i + 5 ≤ G_n G) (hkr : k + 12 ≤ 600000) (hnr : n + 2164 ≤ 7302250) (hd : ∀ a0 a1 : Int, iR a0 → iR a1 → Duo G x m M_CB_cue M_Mo_cue [.int (iZ a0), .int (iZ a1)] mL lR h P) (hk : ∀ h2, P h2 → Ev G M_Law_law room_1 (fun r _ => r = some (.int 1)) 682 [(0, .ref (G_b G)), (1, .ref x), (2, .ref m), (3, .int (iZ ((5 * i : Nat) : Int)))] [] h2 (k + 12) (n + 2164)) : Ev G M_Law_law room_1 (fun r _ => r = some (.int 1)) 315 [(0, .ref (G_b G)), (1, .ref x), (2, .ref m), (3, .int (iZ ((5 * i : Nat) : Int)))] [] h k n := by
  obtain ⟨⟨fsx, hx⟩, Rx, hRx, hc⟩ := hd _ _ (xs_r G _) (xs_r G _)
  refine ev_aload_n d_Law_law_315 rfl rfl ?_
  refine ev_aload_n d_Law_law_316 rfl rfl ?_
  refine ev_iload_n d_Law_law_317 rfl rfl ?_
  refine ev_iconst (v := iZ 1) d_Law_law_318 rfl ?_
  refine ez_iadd d_Law_law_319 ?_
  refine ez_sld (5 * i + 1) d_Law_law_320 (by omega) (by omega) hn ?_
  refine ev_aload_n d_Law_law_321 rfl rfl ?_
  refine ev_iload_n d_Law_law_322 rfl rfl ?_
  refine ev_iconst (v := iZ 2) d_Law_law_323 rfl ?_
  refine ez_iadd d_Law_law_324 ?_
  refine ez_sld (5 * i + 2) d_Law_law_325 (by omega) (by omega) hn ?_
  refine ev_callV M_CB_cue Rx _ (As := [.int (iZ (xs G (5 * i + 1))), .int (iZ (xs G (5 * i + 2)))]) hc d_Law_law_326 mk_CB_cue ml_Law_47 mv_CB_cue hx rfl rfl rfl (Nat.le_of_ble_eq_true rfl) ⟨by show _ ≤ 10; have := hRx.1; omega, by show 8 + (_ + 11) + _ ≤ 342; have := hRx.2.1; show 8 + (3 + 11) + Rx.locals ≤ 342; omega⟩ ⟨by show _ ≤ 600000; have := hRx.2.2.1; omega, by show _ ≤ 7302250; have := hRx.2.2.2; omega⟩ (fun r h1 hq => ?_)
  obtain ⟨v, hv, rfl, ⟨fsm, hm⟩, Rm, hRm, hc2⟩ := hq
  refine ev_aload_n d_Law_law_329 rfl rfl ?_
  refine ev_aload_n d_Law_law_330 rfl rfl ?_
  refine ev_iload_n d_Law_law_331 rfl rfl ?_
  refine ev_iconst (v := iZ 1) d_Law_law_332 rfl ?_
  refine ez_iadd d_Law_law_333 ?_
  refine ez_sld (5 * i + 1) d_Law_law_334 (by omega) (by omega) hn ?_
  refine ev_aload_n d_Law_law_335 rfl rfl ?_
  refine ev_iload_n d_Law_law_336 rfl rfl ?_
  refine ev_iconst (v := iZ 2) d_Law_law_337 rfl ?_
  refine ez_iadd d_Law_law_338 ?_
  refine ez_sld (5 * i + 2) d_Law_law_339 (by omega) (by omega) hn ?_
  refine ev_callV M_Mo_cue Rm _ (As := [.int (iZ (xs G (5 * i + 1))), .int (iZ (xs G (5 * i + 2)))]) (rest := [.long (lZ v)]) hc2 d_Law_law_340 mk_Mo_cue ml_Law_51 mv_Mo_cue hm rfl rfl rfl (Nat.le_of_ble_eq_true rfl) ⟨by show _ ≤ 10; have := hRm.1; omega, by show 8 + (5 + 11) + Rm.locals ≤ 342; have := hRm.2.1; omega⟩ ⟨by show _ ≤ 600000; have := hRx.2.2.1; have := hRm.2.2.1; omega, by show _ ≤ 7302250; have := hRx.2.2.2; have := hRm.2.2.2; omega⟩ (fun r2 h2 hq2 => ?_)
  obtain ⟨rfl, hP⟩ := hq2
  refine ev_lcmp d_Law_law_343 ?_
  refine ez_lif_eq (tgt := 682) hv hv d_Law_law_344 rfl (fun _ => ?_) (fun c => absurd rfl c)
  refine ev_widen (k + 12) (n + 2164) (by have := hRx.2.2.1; have := hRm.2.2.1; omega) (by have := hRx.2.2.2; have := hRm.2.2.2; omega) ?_
  exact hk _ hP
set_option maxHeartbeats 4000000 in
set_option maxRecDepth 100000 in
theorem tu_text (G : GT) (x m i k n : Nat) (h : HM) (P : HM → Prop) (hn : G_n G ≤ 2560) (hi : 5 * i + 5 ≤ G_n G) (hkr : k + 12 ≤ 600000) (hnr : n + 2164 ≤ 7302250) (hd : ∀ a0 a1 : Int, iR a0 → iR a1 → Duo G x m M_CB_text M_Mo_text [.int (iZ a0), .int (iZ a1)] mI iR h P) (hk : ∀ h2, P h2 → Ev G M_Law_law room_1 (fun r _ => r = some (.int 1)) 682 [(0, .ref (G_b G)), (1, .ref x), (2, .ref m), (3, .int (iZ ((5 * i : Nat) : Int)))] [] h2 (k + 12) (n + 2164)) : Ev G M_Law_law room_1 (fun r _ => r = some (.int 1)) 349 [(0, .ref (G_b G)), (1, .ref x), (2, .ref m), (3, .int (iZ ((5 * i : Nat) : Int)))] [] h k n := by
  obtain ⟨⟨fsx, hx⟩, Rx, hRx, hc⟩ := hd _ _ (xs_r G _) (xs_r G _)
  refine ev_aload_n d_Law_law_349 rfl rfl ?_
  refine ev_aload_n d_Law_law_350 rfl rfl ?_
  refine ev_iload_n d_Law_law_351 rfl rfl ?_
  refine ev_iconst (v := iZ 1) d_Law_law_352 rfl ?_
  refine ez_iadd d_Law_law_353 ?_
  refine ez_sld (5 * i + 1) d_Law_law_354 (by omega) (by omega) hn ?_
  refine ev_aload_n d_Law_law_355 rfl rfl ?_
  refine ev_iload_n d_Law_law_356 rfl rfl ?_
  refine ev_iconst (v := iZ 2) d_Law_law_357 rfl ?_
  refine ez_iadd d_Law_law_358 ?_
  refine ez_sld (5 * i + 2) d_Law_law_359 (by omega) (by omega) hn ?_
  refine ev_callV M_CB_text Rx _ (As := [.int (iZ (xs G (5 * i + 1))), .int (iZ (xs G (5 * i + 2)))]) hc d_Law_law_360 mk_CB_text ml_Law_52 mv_CB_text hx rfl rfl rfl (Nat.le_of_ble_eq_true rfl) ⟨by show _ ≤ 10; have := hRx.1; omega, by show 8 + (_ + 11) + _ ≤ 342; have := hRx.2.1; show 8 + (3 + 11) + Rx.locals ≤ 342; omega⟩ ⟨by show _ ≤ 600000; have := hRx.2.2.1; omega, by show _ ≤ 7302250; have := hRx.2.2.2; omega⟩ (fun r h1 hq => ?_)
  obtain ⟨v, hv, rfl, ⟨fsm, hm⟩, Rm, hRm, hc2⟩ := hq
  refine ev_aload_n d_Law_law_363 rfl rfl ?_
  refine ev_aload_n d_Law_law_364 rfl rfl ?_
  refine ev_iload_n d_Law_law_365 rfl rfl ?_
  refine ev_iconst (v := iZ 1) d_Law_law_366 rfl ?_
  refine ez_iadd d_Law_law_367 ?_
  refine ez_sld (5 * i + 1) d_Law_law_368 (by omega) (by omega) hn ?_
  refine ev_aload_n d_Law_law_369 rfl rfl ?_
  refine ev_iload_n d_Law_law_370 rfl rfl ?_
  refine ev_iconst (v := iZ 2) d_Law_law_371 rfl ?_
  refine ez_iadd d_Law_law_372 ?_
  refine ez_sld (5 * i + 2) d_Law_law_373 (by omega) (by omega) hn ?_
  refine ev_callV M_Mo_text Rm _ (As := [.int (iZ (xs G (5 * i + 1))), .int (iZ (xs G (5 * i + 2)))]) (rest := [.int (iZ v)]) hc2 d_Law_law_374 mk_Mo_text ml_Law_56 mv_Mo_text hm rfl rfl rfl (Nat.le_of_ble_eq_true rfl) ⟨by show _ ≤ 10; have := hRm.1; omega, by show 8 + (3 + 11) + Rm.locals ≤ 342; have := hRm.2.1; omega⟩ ⟨by show _ ≤ 600000; have := hRx.2.2.1; have := hRm.2.2.1; omega, by show _ ≤ 7302250; have := hRx.2.2.2; have := hRm.2.2.2; omega⟩ (fun r2 h2 hq2 => ?_)
  obtain ⟨rfl, hP⟩ := hq2
  refine ez_icmp_eq (tgt := 682) hv hv d_Law_law_377 rfl (fun _ => ?_) (fun c => absurd rfl c)
  refine ev_widen (k + 12) (n + 2164) (by have := hRx.2.2.1; have := hRm.2.2.1; omega) (by have := hRx.2.2.2; have := hRm.2.2.2; omega) ?_
  exact hk _ hP
set_option maxHeartbeats 4000000 in
set_option maxRecDepth 100000 in
theorem tu_shot (G : GT) (x m i k n : Nat) (h : HM) (P : HM → Prop) (hn : G_n G ≤ 2560) (hi : 5 * i + 5 ≤ G_n G) (hkr : k + 12 ≤ 600000) (hnr : n + 2164 ≤ 7302250) (hd : ∀ a0 : Int, iR a0 → Duo G x m M_CB_shot M_Mo_shot [.int (iZ a0)] mI iR h P) (hk : ∀ h2, P h2 → Ev G M_Law_law room_1 (fun r _ => r = some (.int 1)) 682 [(0, .ref (G_b G)), (1, .ref x), (2, .ref m), (3, .int (iZ ((5 * i : Nat) : Int)))] [] h2 (k + 12) (n + 2164)) : Ev G M_Law_law room_1 (fun r _ => r = some (.int 1)) 382 [(0, .ref (G_b G)), (1, .ref x), (2, .ref m), (3, .int (iZ ((5 * i : Nat) : Int)))] [] h k n := by
  obtain ⟨⟨fsx, hx⟩, Rx, hRx, hc⟩ := hd _ (xs_r G _)
  refine ev_aload_n d_Law_law_382 rfl rfl ?_
  refine ev_aload_n d_Law_law_383 rfl rfl ?_
  refine ev_iload_n d_Law_law_384 rfl rfl ?_
  refine ev_iconst (v := iZ 1) d_Law_law_385 rfl ?_
  refine ez_iadd d_Law_law_386 ?_
  refine ez_sld (5 * i + 1) d_Law_law_387 (by omega) (by omega) hn ?_
  refine ev_callV M_CB_shot Rx _ (As := [.int (iZ (xs G (5 * i + 1)))]) hc d_Law_law_388 mk_CB_shot ml_Law_57 mv_CB_shot hx rfl rfl rfl (Nat.le_of_ble_eq_true rfl) ⟨by show _ ≤ 10; have := hRx.1; omega, by show 8 + (_ + 11) + _ ≤ 342; have := hRx.2.1; show 8 + (2 + 11) + Rx.locals ≤ 342; omega⟩ ⟨by show _ ≤ 600000; have := hRx.2.2.1; omega, by show _ ≤ 7302250; have := hRx.2.2.2; omega⟩ (fun r h1 hq => ?_)
  obtain ⟨v, hv, rfl, ⟨fsm, hm⟩, Rm, hRm, hc2⟩ := hq
  refine ev_aload_n d_Law_law_391 rfl rfl ?_
  refine ev_aload_n d_Law_law_392 rfl rfl ?_
  refine ev_iload_n d_Law_law_393 rfl rfl ?_
  refine ev_iconst (v := iZ 1) d_Law_law_394 rfl ?_
  refine ez_iadd d_Law_law_395 ?_
  refine ez_sld (5 * i + 1) d_Law_law_396 (by omega) (by omega) hn ?_
  refine ev_callV M_Mo_shot Rm _ (As := [.int (iZ (xs G (5 * i + 1)))]) (rest := [.int (iZ v)]) hc2 d_Law_law_397 mk_Mo_shot ml_Law_60 mv_Mo_shot hm rfl rfl rfl (Nat.le_of_ble_eq_true rfl) ⟨by show _ ≤ 10; have := hRm.1; omega, by show 8 + (4 + 11) + Rm.locals ≤ 342; have := hRm.2.1; omega⟩ ⟨by show _ ≤ 600000; have := hRx.2.2.1; have := hRm.2.2.1; omega, by show _ ≤ 7302250; have := hRx.2.2.2; have := hRm.2.2.2; omega⟩ (fun r2 h2 hq2 => ?_)
  obtain ⟨rfl, hP⟩ := hq2
  refine ez_icmp_eq (tgt := 682) hv hv d_Law_law_400 rfl (fun _ => ?_) (fun c => absurd rfl c)
  refine ev_widen (k + 12) (n + 2164) (by have := hRx.2.2.1; have := hRm.2.2.1; omega) (by have := hRx.2.2.2; have := hRm.2.2.2; omega) ?_
  exact hk _ hP
set_option maxHeartbeats 4000000 in
set_option maxRecDepth 100000 in
theorem tu_rules (G : GT) (x m i k n : Nat) (h : HM) (P : HM → Prop) (hn : G_n G ≤ 2560) (hi : 5 * i + 5 ≤ G_n G) (hkr : k + 12 ≤ 600000) (hnr : n + 2164 ≤ 7302250) (hd : ∀ a0 a1 a2 a3 : Int, iR a0 → iR a1 → iR a2 → iR a3 → Duo G x m M_CB_rules M_Mo_rules [.int (iZ a0), .int (iZ a1), .int (iZ a2), .int (iZ a3)] mI iR h P) (hk : ∀ h2, P h2 → Ev G M_Law_law room_1 (fun r _ => r = some (.int 1)) 682 [(0, .ref (G_b G)), (1, .ref x), (2, .ref m), (3, .int (iZ ((5 * i : Nat) : Int)))] [] h2 (k + 12) (n + 2164)) : Ev G M_Law_law room_1 (fun r _ => r = some (.int 1)) 405 [(0, .ref (G_b G)), (1, .ref x), (2, .ref m), (3, .int (iZ ((5 * i : Nat) : Int)))] [] h k n := by
  obtain ⟨⟨fsx, hx⟩, Rx, hRx, hc⟩ := hd _ _ _ _ (xs_r G _) (xs_r G _) (xs_r G _) (xs_r G _)
  refine ev_aload_n d_Law_law_405 rfl rfl ?_
  refine ev_aload_n d_Law_law_406 rfl rfl ?_
  refine ev_iload_n d_Law_law_407 rfl rfl ?_
  refine ev_iconst (v := iZ 1) d_Law_law_408 rfl ?_
  refine ez_iadd d_Law_law_409 ?_
  refine ez_sld (5 * i + 1) d_Law_law_410 (by omega) (by omega) hn ?_
  refine ev_aload_n d_Law_law_411 rfl rfl ?_
  refine ev_iload_n d_Law_law_412 rfl rfl ?_
  refine ev_iconst (v := iZ 2) d_Law_law_413 rfl ?_
  refine ez_iadd d_Law_law_414 ?_
  refine ez_sld (5 * i + 2) d_Law_law_415 (by omega) (by omega) hn ?_
  refine ev_aload_n d_Law_law_416 rfl rfl ?_
  refine ev_iload_n d_Law_law_417 rfl rfl ?_
  refine ev_iconst (v := iZ 3) d_Law_law_418 rfl ?_
  refine ez_iadd d_Law_law_419 ?_
  refine ez_sld (5 * i + 3) d_Law_law_420 (by omega) (by omega) hn ?_
  refine ev_aload_n d_Law_law_421 rfl rfl ?_
  refine ev_iload_n d_Law_law_422 rfl rfl ?_
  refine ev_iconst (v := iZ 4) d_Law_law_423 rfl ?_
  refine ez_iadd d_Law_law_424 ?_
  refine ez_sld (5 * i + 4) d_Law_law_425 (by omega) (by omega) hn ?_
  refine ev_callV M_CB_rules Rx _ (As := [.int (iZ (xs G (5 * i + 1))), .int (iZ (xs G (5 * i + 2))), .int (iZ (xs G (5 * i + 3))), .int (iZ (xs G (5 * i + 4)))]) hc d_Law_law_426 mk_CB_rules ml_Law_61 mv_CB_rules hx rfl rfl rfl (Nat.le_of_ble_eq_true rfl) ⟨by show _ ≤ 10; have := hRx.1; omega, by show 8 + (_ + 11) + _ ≤ 342; have := hRx.2.1; show 8 + (5 + 11) + Rx.locals ≤ 342; omega⟩ ⟨by show _ ≤ 600000; have := hRx.2.2.1; omega, by show _ ≤ 7302250; have := hRx.2.2.2; omega⟩ (fun r h1 hq => ?_)
  obtain ⟨v, hv, rfl, ⟨fsm, hm⟩, Rm, hRm, hc2⟩ := hq
  refine ev_aload_n d_Law_law_429 rfl rfl ?_
  refine ev_aload_n d_Law_law_430 rfl rfl ?_
  refine ev_iload_n d_Law_law_431 rfl rfl ?_
  refine ev_iconst (v := iZ 1) d_Law_law_432 rfl ?_
  refine ez_iadd d_Law_law_433 ?_
  refine ez_sld (5 * i + 1) d_Law_law_434 (by omega) (by omega) hn ?_
  refine ev_aload_n d_Law_law_435 rfl rfl ?_
  refine ev_iload_n d_Law_law_436 rfl rfl ?_
  refine ev_iconst (v := iZ 2) d_Law_law_437 rfl ?_
  refine ez_iadd d_Law_law_438 ?_
  refine ez_sld (5 * i + 2) d_Law_law_439 (by omega) (by omega) hn ?_
  refine ev_aload_n d_Law_law_440 rfl rfl ?_
  refine ev_iload_n d_Law_law_441 rfl rfl ?_
  refine ev_iconst (v := iZ 3) d_Law_law_442 rfl ?_
  refine ez_iadd d_Law_law_443 ?_
  refine ez_sld (5 * i + 3) d_Law_law_444 (by omega) (by omega) hn ?_
  refine ev_aload_n d_Law_law_445 rfl rfl ?_
  refine ev_iload_n d_Law_law_446 rfl rfl ?_
  refine ev_iconst (v := iZ 4) d_Law_law_447 rfl ?_
  refine ez_iadd d_Law_law_448 ?_
  refine ez_sld (5 * i + 4) d_Law_law_449 (by omega) (by omega) hn ?_
  refine ev_callV M_Mo_rules Rm _ (As := [.int (iZ (xs G (5 * i + 1))), .int (iZ (xs G (5 * i + 2))), .int (iZ (xs G (5 * i + 3))), .int (iZ (xs G (5 * i + 4)))]) (rest := [.int (iZ v)]) hc2 d_Law_law_450 mk_Mo_rules ml_Law_65 mv_Mo_rules hm rfl rfl rfl (Nat.le_of_ble_eq_true rfl) ⟨by show _ ≤ 10; have := hRm.1; omega, by show 8 + (5 + 11) + Rm.locals ≤ 342; have := hRm.2.1; omega⟩ ⟨by show _ ≤ 600000; have := hRx.2.2.1; have := hRm.2.2.1; omega, by show _ ≤ 7302250; have := hRx.2.2.2; have := hRm.2.2.2; omega⟩ (fun r2 h2 hq2 => ?_)
  obtain ⟨rfl, hP⟩ := hq2
  refine ez_icmp_eq (tgt := 682) hv hv d_Law_law_453 rfl (fun _ => ?_) (fun c => absurd rfl c)
  refine ev_widen (k + 12) (n + 2164) (by have := hRx.2.2.1; have := hRm.2.2.1; omega) (by have := hRx.2.2.2; have := hRm.2.2.2; omega) ?_
  exact hk _ hP
set_option maxHeartbeats 4000000 in
set_option maxRecDepth 100000 in
theorem tu_repair (G : GT) (x m i k n : Nat) (h : HM) (P : HM → Prop) (hn : G_n G ≤ 2560) (hi : 5 * i + 5 ≤ G_n G) (hkr : k + 12 ≤ 600000) (hnr : n + 2164 ≤ 7302250) (hd : Duo G x m M_CB_repair M_Mo_repair [] mI iR h P) (hk : ∀ h2, P h2 → Ev G M_Law_law room_1 (fun r _ => r = some (.int 1)) 682 [(0, .ref (G_b G)), (1, .ref x), (2, .ref m), (3, .int (iZ ((5 * i : Nat) : Int)))] [] h2 (k + 12) (n + 2164)) : Ev G M_Law_law room_1 (fun r _ => r = some (.int 1)) 458 [(0, .ref (G_b G)), (1, .ref x), (2, .ref m), (3, .int (iZ ((5 * i : Nat) : Int)))] [] h k n := by
  obtain ⟨⟨fsx, hx⟩, Rx, hRx, hc⟩ := hd
  refine ev_aload_n d_Law_law_458 rfl rfl ?_
  refine ev_callV M_CB_repair Rx _ (As := []) hc d_Law_law_459 mk_CB_repair ml_Law_66 mv_CB_repair hx rfl rfl rfl (Nat.le_of_ble_eq_true rfl) ⟨by show _ ≤ 10; have := hRx.1; omega, by show 8 + (_ + 11) + _ ≤ 342; have := hRx.2.1; show 8 + (2 + 11) + Rx.locals ≤ 342; omega⟩ ⟨by show _ ≤ 600000; have := hRx.2.2.1; omega, by show _ ≤ 7302250; have := hRx.2.2.2; omega⟩ (fun r h1 hq => ?_)
  obtain ⟨v, hv, rfl, ⟨fsm, hm⟩, Rm, hRm, hc2⟩ := hq
  refine ev_aload_n d_Law_law_462 rfl rfl ?_
  refine ev_callV M_Mo_repair Rm _ (As := []) (rest := [.int (iZ v)]) hc2 d_Law_law_463 mk_Mo_repair ml_Law_69 mv_Mo_repair hm rfl rfl rfl (Nat.le_of_ble_eq_true rfl) ⟨by show _ ≤ 10; have := hRm.1; omega, by show 8 + (7 + 11) + Rm.locals ≤ 342; have := hRm.2.1; omega⟩ ⟨by show _ ≤ 600000; have := hRx.2.2.1; have := hRm.2.2.1; omega, by show _ ≤ 7302250; have := hRx.2.2.2; have := hRm.2.2.2; omega⟩ (fun r2 h2 hq2 => ?_)
  obtain ⟨rfl, hP⟩ := hq2
  refine ez_icmp_eq (tgt := 682) hv hv d_Law_law_466 rfl (fun _ => ?_) (fun c => absurd rfl c)
  refine ev_widen (k + 12) (n + 2164) (by have := hRx.2.2.1; have := hRm.2.2.1; omega) (by have := hRx.2.2.2; have := hRm.2.2.2; omega) ?_
  exact hk _ hP
set_option maxHeartbeats 4000000 in
set_option maxRecDepth 100000 in
theorem tu_breakLines (G : GT) (x m i k n : Nat) (h : HM) (P : HM → Prop) (hn : G_n G ≤ 2560) (hi : 5 * i + 5 ≤ G_n G) (hkr : k + 12 ≤ 600000) (hnr : n + 2164 ≤ 7302250) (hd : ∀ a0 : Int, iR a0 → Duo G x m M_CB_breakLines M_Mo_breakLines [.int (iZ a0)] mI iR h P) (hk : ∀ h2, P h2 → Ev G M_Law_law room_1 (fun r _ => r = some (.int 1)) 682 [(0, .ref (G_b G)), (1, .ref x), (2, .ref m), (3, .int (iZ ((5 * i : Nat) : Int)))] [] h2 (k + 12) (n + 2164)) : Ev G M_Law_law room_1 (fun r _ => r = some (.int 1)) 471 [(0, .ref (G_b G)), (1, .ref x), (2, .ref m), (3, .int (iZ ((5 * i : Nat) : Int)))] [] h k n := by
  obtain ⟨⟨fsx, hx⟩, Rx, hRx, hc⟩ := hd _ (xs_r G _)
  refine ev_aload_n d_Law_law_471 rfl rfl ?_
  refine ev_aload_n d_Law_law_472 rfl rfl ?_
  refine ev_iload_n d_Law_law_473 rfl rfl ?_
  refine ev_iconst (v := iZ 1) d_Law_law_474 rfl ?_
  refine ez_iadd d_Law_law_475 ?_
  refine ez_sld (5 * i + 1) d_Law_law_476 (by omega) (by omega) hn ?_
  refine ev_callV M_CB_breakLines Rx _ (As := [.int (iZ (xs G (5 * i + 1)))]) hc d_Law_law_477 mk_CB_breakLines ml_Law_70 mv_CB_breakLines hx rfl rfl rfl (Nat.le_of_ble_eq_true rfl) ⟨by show _ ≤ 10; have := hRx.1; omega, by show 8 + (_ + 11) + _ ≤ 342; have := hRx.2.1; show 8 + (3 + 11) + Rx.locals ≤ 342; omega⟩ ⟨by show _ ≤ 600000; have := hRx.2.2.1; omega, by show _ ≤ 7302250; have := hRx.2.2.2; omega⟩ (fun r h1 hq => ?_)
  obtain ⟨v, hv, rfl, ⟨fsm, hm⟩, Rm, hRm, hc2⟩ := hq
  refine ev_aload_n d_Law_law_480 rfl rfl ?_
  refine ev_aload_n d_Law_law_481 rfl rfl ?_
  refine ev_iload_n d_Law_law_482 rfl rfl ?_
  refine ev_iconst (v := iZ 1) d_Law_law_483 rfl ?_
  refine ez_iadd d_Law_law_484 ?_
  refine ez_sld (5 * i + 1) d_Law_law_485 (by omega) (by omega) hn ?_
  refine ev_callV M_Mo_breakLines Rm _ (As := [.int (iZ (xs G (5 * i + 1)))]) (rest := [.int (iZ v)]) hc2 d_Law_law_486 mk_Mo_breakLines ml_Law_73 mv_Mo_breakLines hm rfl rfl rfl (Nat.le_of_ble_eq_true rfl) ⟨by show _ ≤ 10; have := hRm.1; omega, by show 8 + (8 + 11) + Rm.locals ≤ 342; have := hRm.2.1; omega⟩ ⟨by show _ ≤ 600000; have := hRx.2.2.1; have := hRm.2.2.1; omega, by show _ ≤ 7302250; have := hRx.2.2.2; have := hRm.2.2.2; omega⟩ (fun r2 h2 hq2 => ?_)
  obtain ⟨rfl, hP⟩ := hq2
  refine ez_icmp_eq (tgt := 682) hv hv d_Law_law_489 rfl (fun _ => ?_) (fun c => absurd rfl c)
  refine ev_widen (k + 12) (n + 2164) (by have := hRx.2.2.1; have := hRm.2.2.1; omega) (by have := hRx.2.2.2; have := hRm.2.2.2; omega) ?_
  exact hk _ hP
set_option maxHeartbeats 4000000 in
set_option maxRecDepth 100000 in
theorem tu_twoPoint (G : GT) (x m i k n : Nat) (h : HM) (P : HM → Prop) (hn : G_n G ≤ 2560) (hi : 5 * i + 5 ≤ G_n G) (hkr : k + 12 ≤ 600000) (hnr : n + 2164 ≤ 7302250) (hd : ∀ a0 a1 a2 a3 : Int, iR a0 → iR a1 → iR a2 → iR a3 → Duo G x m M_CB_twoPoint M_Mo_twoPoint [.int (iZ a0), .int (iZ a1), .int (iZ a2), .int (iZ a3)] mI iR h P) (hk : ∀ h2, P h2 → Ev G M_Law_law room_1 (fun r _ => r = some (.int 1)) 682 [(0, .ref (G_b G)), (1, .ref x), (2, .ref m), (3, .int (iZ ((5 * i : Nat) : Int)))] [] h2 (k + 12) (n + 2164)) : Ev G M_Law_law room_1 (fun r _ => r = some (.int 1)) 494 [(0, .ref (G_b G)), (1, .ref x), (2, .ref m), (3, .int (iZ ((5 * i : Nat) : Int)))] [] h k n := by
  obtain ⟨⟨fsx, hx⟩, Rx, hRx, hc⟩ := hd _ _ _ _ (xs_r G _) (xs_r G _) (xs_r G _) (xs_r G _)
  refine ev_aload_n d_Law_law_494 rfl rfl ?_
  refine ev_aload_n d_Law_law_495 rfl rfl ?_
  refine ev_iload_n d_Law_law_496 rfl rfl ?_
  refine ev_iconst (v := iZ 1) d_Law_law_497 rfl ?_
  refine ez_iadd d_Law_law_498 ?_
  refine ez_sld (5 * i + 1) d_Law_law_499 (by omega) (by omega) hn ?_
  refine ev_aload_n d_Law_law_500 rfl rfl ?_
  refine ev_iload_n d_Law_law_501 rfl rfl ?_
  refine ev_iconst (v := iZ 2) d_Law_law_502 rfl ?_
  refine ez_iadd d_Law_law_503 ?_
  refine ez_sld (5 * i + 2) d_Law_law_504 (by omega) (by omega) hn ?_
  refine ev_aload_n d_Law_law_505 rfl rfl ?_
  refine ev_iload_n d_Law_law_506 rfl rfl ?_
  refine ev_iconst (v := iZ 3) d_Law_law_507 rfl ?_
  refine ez_iadd d_Law_law_508 ?_
  refine ez_sld (5 * i + 3) d_Law_law_509 (by omega) (by omega) hn ?_
  refine ev_aload_n d_Law_law_510 rfl rfl ?_
  refine ev_iload_n d_Law_law_511 rfl rfl ?_
  refine ev_iconst (v := iZ 4) d_Law_law_512 rfl ?_
  refine ez_iadd d_Law_law_513 ?_
  refine ez_sld (5 * i + 4) d_Law_law_514 (by omega) (by omega) hn ?_
  refine ev_callV M_CB_twoPoint Rx _ (As := [.int (iZ (xs G (5 * i + 1))), .int (iZ (xs G (5 * i + 2))), .int (iZ (xs G (5 * i + 3))), .int (iZ (xs G (5 * i + 4)))]) hc d_Law_law_515 mk_CB_twoPoint ml_Law_74 mv_CB_twoPoint hx rfl rfl rfl (Nat.le_of_ble_eq_true rfl) ⟨by show _ ≤ 10; have := hRx.1; omega, by show 8 + (_ + 11) + _ ≤ 342; have := hRx.2.1; show 8 + (11 + 11) + Rx.locals ≤ 342; omega⟩ ⟨by show _ ≤ 600000; have := hRx.2.2.1; omega, by show _ ≤ 7302250; have := hRx.2.2.2; omega⟩ (fun r h1 hq => ?_)
  obtain ⟨v, hv, rfl, ⟨fsm, hm⟩, Rm, hRm, hc2⟩ := hq
  refine ev_aload_n d_Law_law_518 rfl rfl ?_
  refine ev_aload_n d_Law_law_519 rfl rfl ?_
  refine ev_iload_n d_Law_law_520 rfl rfl ?_
  refine ev_iconst (v := iZ 1) d_Law_law_521 rfl ?_
  refine ez_iadd d_Law_law_522 ?_
  refine ez_sld (5 * i + 1) d_Law_law_523 (by omega) (by omega) hn ?_
  refine ev_aload_n d_Law_law_524 rfl rfl ?_
  refine ev_iload_n d_Law_law_525 rfl rfl ?_
  refine ev_iconst (v := iZ 2) d_Law_law_526 rfl ?_
  refine ez_iadd d_Law_law_527 ?_
  refine ez_sld (5 * i + 2) d_Law_law_528 (by omega) (by omega) hn ?_
  refine ev_aload_n d_Law_law_529 rfl rfl ?_
  refine ev_iload_n d_Law_law_530 rfl rfl ?_
  refine ev_iconst (v := iZ 3) d_Law_law_531 rfl ?_
  refine ez_iadd d_Law_law_532 ?_
  refine ez_sld (5 * i + 3) d_Law_law_533 (by omega) (by omega) hn ?_
  refine ev_aload_n d_Law_law_534 rfl rfl ?_
  refine ev_iload_n d_Law_law_535 rfl rfl ?_
  refine ev_iconst (v := iZ 4) d_Law_law_536 rfl ?_
  refine ez_iadd d_Law_law_537 ?_
  refine ez_sld (5 * i + 4) d_Law_law_538 (by omega) (by omega) hn ?_
  refine ev_callV M_Mo_twoPoint Rm _ (As := [.int (iZ (xs G (5 * i + 1))), .int (iZ (xs G (5 * i + 2))), .int (iZ (xs G (5 * i + 3))), .int (iZ (xs G (5 * i + 4)))]) (rest := [.int (iZ v)]) hc2 d_Law_law_539 mk_Mo_twoPoint ml_Law_77 mv_Mo_twoPoint hm rfl rfl rfl (Nat.le_of_ble_eq_true rfl) ⟨by show _ ≤ 10; have := hRm.1; omega, by show 8 + (13 + 11) + Rm.locals ≤ 342; have := hRm.2.1; omega⟩ ⟨by show _ ≤ 600000; have := hRx.2.2.1; have := hRm.2.2.1; omega, by show _ ≤ 7302250; have := hRx.2.2.2; have := hRm.2.2.2; omega⟩ (fun r2 h2 hq2 => ?_)
  obtain ⟨rfl, hP⟩ := hq2
  refine ez_icmp_eq (tgt := 682) hv hv d_Law_law_542 rfl (fun _ => ?_) (fun c => absurd rfl c)
  refine ev_widen (k + 12) (n + 2164) (by have := hRx.2.2.1; have := hRm.2.2.1; omega) (by have := hRx.2.2.2; have := hRm.2.2.2; omega) ?_
  exact hk _ hP
set_option maxHeartbeats 4000000 in
set_option maxRecDepth 100000 in
theorem tu_shift (G : GT) (x m i k n : Nat) (h : HM) (P : HM → Prop) (hn : G_n G ≤ 2560) (hi : 5 * i + 5 ≤ G_n G) (hkr : k + 12 ≤ 600000) (hnr : n + 2164 ≤ 7302250) (hd : ∀ a0 : Int, lR a0 → Duo G x m M_CB_shift M_Mo_shift [.long (lZ a0)] mI iR h P) (hk : ∀ h2, P h2 → Ev G M_Law_law room_1 (fun r _ => r = some (.int 1)) 682 [(0, .ref (G_b G)), (1, .ref x), (2, .ref m), (3, .int (iZ ((5 * i : Nat) : Int)))] [] h2 (k + 12) (n + 2164)) : Ev G M_Law_law room_1 (fun r _ => r = some (.int 1)) 547 [(0, .ref (G_b G)), (1, .ref x), (2, .ref m), (3, .int (iZ ((5 * i : Nat) : Int)))] [] h k n := by
  obtain ⟨⟨fsx, hx⟩, Rx, hRx, hc⟩ := hd _ (la_r _ _)
  refine ev_aload_n d_Law_law_547 rfl rfl ?_
  refine ev_aload_n d_Law_law_548 rfl rfl ?_
  refine ev_iload_n d_Law_law_549 rfl rfl ?_
  refine ev_iconst (v := iZ 1) d_Law_law_550 rfl ?_
  refine ez_iadd d_Law_law_551 ?_
  refine ez_sld (5 * i + 1) d_Law_law_552 (by omega) (by omega) hn ?_
  refine ez_i2l (xs_r G _) d_Law_law_553 ?_
  refine ev_bipush (v := iZ 32) d_Law_law_554 rfl ?_
  refine ev_lshl d_Law_law_556 ?_
  refine ev_aload_n d_Law_law_557 rfl rfl ?_
  refine ev_iload_n d_Law_law_558 rfl rfl ?_
  refine ev_iconst (v := iZ 2) d_Law_law_559 rfl ?_
  refine ez_iadd d_Law_law_560 ?_
  refine ez_sld (5 * i + 2) d_Law_law_561 (by omega) (by omega) hn ?_
  refine ez_i2l (xs_r G _) d_Law_law_562 ?_
  refine ev_ldc2 (v := lZ 4294967295) d_Law_law_563 kc_Law_13 ?_
  refine ez_la d_Law_law_566 d_Law_law_567 ?_
  refine ev_callV M_CB_shift Rx _ (As := [.long (lZ (la (xs G (5 * i + 1)) (xs G (5 * i + 2))))]) hc d_Law_law_568 mk_CB_shift ml_Law_78 mv_CB_shift hx rfl rfl rfl (Nat.le_of_ble_eq_true rfl) ⟨by show _ ≤ 10; have := hRx.1; omega, by show 8 + (_ + 11) + _ ≤ 342; have := hRx.2.1; show 8 + (4 + 11) + Rx.locals ≤ 342; omega⟩ ⟨by show _ ≤ 600000; have := hRx.2.2.1; omega, by show _ ≤ 7302250; have := hRx.2.2.2; omega⟩ (fun r h1 hq => ?_)
  obtain ⟨v, hv, rfl, ⟨fsm, hm⟩, Rm, hRm, hc2⟩ := hq
  refine ev_aload_n d_Law_law_571 rfl rfl ?_
  refine ev_aload_n d_Law_law_572 rfl rfl ?_
  refine ev_iload_n d_Law_law_573 rfl rfl ?_
  refine ev_iconst (v := iZ 1) d_Law_law_574 rfl ?_
  refine ez_iadd d_Law_law_575 ?_
  refine ez_sld (5 * i + 1) d_Law_law_576 (by omega) (by omega) hn ?_
  refine ez_i2l (xs_r G _) d_Law_law_577 ?_
  refine ev_bipush (v := iZ 32) d_Law_law_578 rfl ?_
  refine ev_lshl d_Law_law_580 ?_
  refine ev_aload_n d_Law_law_581 rfl rfl ?_
  refine ev_iload_n d_Law_law_582 rfl rfl ?_
  refine ev_iconst (v := iZ 2) d_Law_law_583 rfl ?_
  refine ez_iadd d_Law_law_584 ?_
  refine ez_sld (5 * i + 2) d_Law_law_585 (by omega) (by omega) hn ?_
  refine ez_i2l (xs_r G _) d_Law_law_586 ?_
  refine ev_ldc2 (v := lZ 4294967295) d_Law_law_587 kc_Law_13 ?_
  refine ez_la d_Law_law_590 d_Law_law_591 ?_
  refine ev_callV M_Mo_shift Rm _ (As := [.long (lZ (la (xs G (5 * i + 1)) (xs G (5 * i + 2))))]) (rest := [.int (iZ v)]) hc2 d_Law_law_592 mk_Mo_shift ml_Law_82 mv_Mo_shift hm rfl rfl rfl (Nat.le_of_ble_eq_true rfl) ⟨by show _ ≤ 10; have := hRm.1; omega, by show 8 + (5 + 11) + Rm.locals ≤ 342; have := hRm.2.1; omega⟩ ⟨by show _ ≤ 600000; have := hRx.2.2.1; have := hRm.2.2.1; omega, by show _ ≤ 7302250; have := hRx.2.2.2; have := hRm.2.2.2; omega⟩ (fun r2 h2 hq2 => ?_)
  obtain ⟨rfl, hP⟩ := hq2
  refine ez_icmp_eq (tgt := 682) hv hv d_Law_law_595 rfl (fun _ => ?_) (fun c => absurd rfl c)
  refine ev_widen (k + 12) (n + 2164) (by have := hRx.2.2.1; have := hRm.2.2.1; omega) (by have := hRx.2.2.2; have := hRm.2.2.2; omega) ?_
  exact hk _ hP
set_option maxHeartbeats 4000000 in
set_option maxRecDepth 100000 in
theorem tu_merge (G : GT) (x m i k n : Nat) (h : HM) (P : HM → Prop) (hn : G_n G ≤ 2560) (hi : 5 * i + 5 ≤ G_n G) (hkr : k + 12 ≤ 600000) (hnr : n + 2164 ≤ 7302250) (hd : ∀ a0 : Int, iR a0 → Duo G x m M_CB_merge M_Mo_merge [.int (iZ a0)] mI iR h P) (hk : ∀ h2, P h2 → Ev G M_Law_law room_1 (fun r _ => r = some (.int 1)) 682 [(0, .ref (G_b G)), (1, .ref x), (2, .ref m), (3, .int (iZ ((5 * i : Nat) : Int)))] [] h2 (k + 12) (n + 2164)) : Ev G M_Law_law room_1 (fun r _ => r = some (.int 1)) 600 [(0, .ref (G_b G)), (1, .ref x), (2, .ref m), (3, .int (iZ ((5 * i : Nat) : Int)))] [] h k n := by
  obtain ⟨⟨fsx, hx⟩, Rx, hRx, hc⟩ := hd _ (xs_r G _)
  refine ev_aload_n d_Law_law_600 rfl rfl ?_
  refine ev_aload_n d_Law_law_601 rfl rfl ?_
  refine ev_iload_n d_Law_law_602 rfl rfl ?_
  refine ev_iconst (v := iZ 1) d_Law_law_603 rfl ?_
  refine ez_iadd d_Law_law_604 ?_
  refine ez_sld (5 * i + 1) d_Law_law_605 (by omega) (by omega) hn ?_
  refine ev_callV M_CB_merge Rx _ (As := [.int (iZ (xs G (5 * i + 1)))]) hc d_Law_law_606 mk_CB_merge ml_Law_83 mv_CB_merge hx rfl rfl rfl (Nat.le_of_ble_eq_true rfl) ⟨by show _ ≤ 10; have := hRx.1; omega, by show 8 + (_ + 11) + _ ≤ 342; have := hRx.2.1; show 8 + (2 + 11) + Rx.locals ≤ 342; omega⟩ ⟨by show _ ≤ 600000; have := hRx.2.2.1; omega, by show _ ≤ 7302250; have := hRx.2.2.2; omega⟩ (fun r h1 hq => ?_)
  obtain ⟨v, hv, rfl, ⟨fsm, hm⟩, Rm, hRm, hc2⟩ := hq
  refine ev_aload_n d_Law_law_609 rfl rfl ?_
  refine ev_aload_n d_Law_law_610 rfl rfl ?_
  refine ev_iload_n d_Law_law_611 rfl rfl ?_
  refine ev_iconst (v := iZ 1) d_Law_law_612 rfl ?_
  refine ez_iadd d_Law_law_613 ?_
  refine ez_sld (5 * i + 1) d_Law_law_614 (by omega) (by omega) hn ?_
  refine ev_callV M_Mo_merge Rm _ (As := [.int (iZ (xs G (5 * i + 1)))]) (rest := [.int (iZ v)]) hc2 d_Law_law_615 mk_Mo_merge ml_Law_86 mv_Mo_merge hm rfl rfl rfl (Nat.le_of_ble_eq_true rfl) ⟨by show _ ≤ 10; have := hRm.1; omega, by show 8 + (4 + 11) + Rm.locals ≤ 342; have := hRm.2.1; omega⟩ ⟨by show _ ≤ 600000; have := hRx.2.2.1; have := hRm.2.2.1; omega, by show _ ≤ 7302250; have := hRx.2.2.2; have := hRm.2.2.2; omega⟩ (fun r2 h2 hq2 => ?_)
  obtain ⟨rfl, hP⟩ := hq2
  refine ez_icmp_eq (tgt := 682) hv hv d_Law_law_618 rfl (fun _ => ?_) (fun c => absurd rfl c)
  refine ev_widen (k + 12) (n + 2164) (by have := hRx.2.2.1; have := hRm.2.2.1; omega) (by have := hRx.2.2.2; have := hRm.2.2.2; omega) ?_
  exact hk _ hP
set_option maxHeartbeats 4000000 in
set_option maxRecDepth 100000 in
theorem tu_split (G : GT) (x m i k n : Nat) (h : HM) (P : HM → Prop) (hn : G_n G ≤ 2560) (hi : 5 * i + 5 ≤ G_n G) (hkr : k + 12 ≤ 600000) (hnr : n + 2164 ≤ 7302250) (hd : ∀ a0 a1 : Int, iR a0 → iR a1 → Duo G x m M_CB_split M_Mo_split [.int (iZ a0), .int (iZ a1)] mI iR h P) (hk : ∀ h2, P h2 → Ev G M_Law_law room_1 (fun r _ => r = some (.int 1)) 682 [(0, .ref (G_b G)), (1, .ref x), (2, .ref m), (3, .int (iZ ((5 * i : Nat) : Int)))] [] h2 (k + 12) (n + 2164)) : Ev G M_Law_law room_1 (fun r _ => r = some (.int 1)) 623 [(0, .ref (G_b G)), (1, .ref x), (2, .ref m), (3, .int (iZ ((5 * i : Nat) : Int)))] [] h k n := by
  obtain ⟨⟨fsx, hx⟩, Rx, hRx, hc⟩ := hd _ _ (xs_r G _) (xs_r G _)
  refine ev_aload_n d_Law_law_623 rfl rfl ?_
  refine ev_aload_n d_Law_law_624 rfl rfl ?_
  refine ev_iload_n d_Law_law_625 rfl rfl ?_
  refine ev_iconst (v := iZ 1) d_Law_law_626 rfl ?_
  refine ez_iadd d_Law_law_627 ?_
  refine ez_sld (5 * i + 1) d_Law_law_628 (by omega) (by omega) hn ?_
  refine ev_aload_n d_Law_law_629 rfl rfl ?_
  refine ev_iload_n d_Law_law_630 rfl rfl ?_
  refine ev_iconst (v := iZ 2) d_Law_law_631 rfl ?_
  refine ez_iadd d_Law_law_632 ?_
  refine ez_sld (5 * i + 2) d_Law_law_633 (by omega) (by omega) hn ?_
  refine ev_callV M_CB_split Rx _ (As := [.int (iZ (xs G (5 * i + 1))), .int (iZ (xs G (5 * i + 2)))]) hc d_Law_law_634 mk_CB_split ml_Law_87 mv_CB_split hx rfl rfl rfl (Nat.le_of_ble_eq_true rfl) ⟨by show _ ≤ 10; have := hRx.1; omega, by show 8 + (_ + 11) + _ ≤ 342; have := hRx.2.1; show 8 + (5 + 11) + Rx.locals ≤ 342; omega⟩ ⟨by show _ ≤ 600000; have := hRx.2.2.1; omega, by show _ ≤ 7302250; have := hRx.2.2.2; omega⟩ (fun r h1 hq => ?_)
  obtain ⟨v, hv, rfl, ⟨fsm, hm⟩, Rm, hRm, hc2⟩ := hq
  refine ev_aload_n d_Law_law_637 rfl rfl ?_
  refine ev_aload_n d_Law_law_638 rfl rfl ?_
  refine ev_iload_n d_Law_law_639 rfl rfl ?_
  refine ev_iconst (v := iZ 1) d_Law_law_640 rfl ?_
  refine ez_iadd d_Law_law_641 ?_
  refine ez_sld (5 * i + 1) d_Law_law_642 (by omega) (by omega) hn ?_
  refine ev_aload_n d_Law_law_643 rfl rfl ?_
  refine ev_iload_n d_Law_law_644 rfl rfl ?_
  refine ev_iconst (v := iZ 2) d_Law_law_645 rfl ?_
  refine ez_iadd d_Law_law_646 ?_
  refine ez_sld (5 * i + 2) d_Law_law_647 (by omega) (by omega) hn ?_
  refine ev_callV M_Mo_split Rm _ (As := [.int (iZ (xs G (5 * i + 1))), .int (iZ (xs G (5 * i + 2)))]) (rest := [.int (iZ v)]) hc2 d_Law_law_648 mk_Mo_split ml_Law_90 mv_Mo_split hm rfl rfl rfl (Nat.le_of_ble_eq_true rfl) ⟨by show _ ≤ 10; have := hRm.1; omega, by show 8 + (14 + 11) + Rm.locals ≤ 342; have := hRm.2.1; omega⟩ ⟨by show _ ≤ 600000; have := hRx.2.2.1; have := hRm.2.2.1; omega, by show _ ≤ 7302250; have := hRx.2.2.2; have := hRm.2.2.2; omega⟩ (fun r2 h2 hq2 => ?_)
  obtain ⟨rfl, hP⟩ := hq2
  refine ez_icmp_eq (tgt := 682) hv hv d_Law_law_651 rfl (fun _ => ?_) (fun c => absurd rfl c)
  refine ev_widen (k + 12) (n + 2164) (by have := hRx.2.2.1; have := hRm.2.2.1; omega) (by have := hRx.2.2.2; have := hRm.2.2.2; omega) ?_
  exact hk _ hP
set_option maxHeartbeats 4000000 in
set_option maxRecDepth 100000 in
theorem tu_clash (G : GT) (x m i k n : Nat) (h : HM) (P : HM → Prop) (hn : G_n G ≤ 2560) (hi : 5 * i + 5 ≤ G_n G) (hkr : k + 12 ≤ 600000) (hnr : n + 2164 ≤ 7302250) (hd : Duo G x m M_CB_clash M_Mo_clash [] mI iR h P) (hk : ∀ h2, P h2 → Ev G M_Law_law room_1 (fun r _ => r = some (.int 1)) 682 [(0, .ref (G_b G)), (1, .ref x), (2, .ref m), (3, .int (iZ ((5 * i : Nat) : Int)))] [] h2 (k + 12) (n + 2164)) : Ev G M_Law_law room_1 (fun r _ => r = some (.int 1)) 656 [(0, .ref (G_b G)), (1, .ref x), (2, .ref m), (3, .int (iZ ((5 * i : Nat) : Int)))] [] h k n := by
  obtain ⟨⟨fsx, hx⟩, Rx, hRx, hc⟩ := hd
  refine ev_aload_n d_Law_law_656 rfl rfl ?_
  refine ev_callV M_CB_clash Rx _ (As := []) hc d_Law_law_657 mk_CB_clash ml_Law_91 mv_CB_clash hx rfl rfl rfl (Nat.le_of_ble_eq_true rfl) ⟨by show _ ≤ 10; have := hRx.1; omega, by show 8 + (_ + 11) + _ ≤ 342; have := hRx.2.1; show 8 + (2 + 11) + Rx.locals ≤ 342; omega⟩ ⟨by show _ ≤ 600000; have := hRx.2.2.1; omega, by show _ ≤ 7302250; have := hRx.2.2.2; omega⟩ (fun r h1 hq => ?_)
  obtain ⟨v, hv, rfl, ⟨fsm, hm⟩, Rm, hRm, hc2⟩ := hq
  refine ev_aload_n d_Law_law_660 rfl rfl ?_
  refine ev_callV M_Mo_clash Rm _ (As := []) (rest := [.int (iZ v)]) hc2 d_Law_law_661 mk_Mo_clash ml_Law_94 mv_Mo_clash hm rfl rfl rfl (Nat.le_of_ble_eq_true rfl) ⟨by show _ ≤ 10; have := hRm.1; omega, by show 8 + (2 + 11) + Rm.locals ≤ 342; have := hRm.2.1; omega⟩ ⟨by show _ ≤ 600000; have := hRx.2.2.1; have := hRm.2.2.1; omega, by show _ ≤ 7302250; have := hRx.2.2.2; have := hRm.2.2.2; omega⟩ (fun r2 h2 hq2 => ?_)
  obtain ⟨rfl, hP⟩ := hq2
  refine ez_icmp_eq (tgt := 682) hv hv d_Law_law_664 rfl (fun _ => ?_) (fun c => absurd rfl c)
  refine ev_widen (k + 12) (n + 2164) (by have := hRx.2.2.1; have := hRm.2.2.1; omega) (by have := hRx.2.2.2; have := hRm.2.2.2; omega) ?_
  exact hk _ hP
set_option maxHeartbeats 4000000 in
set_option maxRecDepth 100000 in
theorem tu_undo (G : GT) (x m i k n : Nat) (h : HM) (P : HM → Prop) (hn : G_n G ≤ 2560) (hi : 5 * i + 5 ≤ G_n G) (hkr : k + 12 ≤ 600000) (hnr : n + 2164 ≤ 7302250) (hd : Duo G x m M_CB_undo M_Mo_undo [] mI iR h P) (hk : ∀ h2, P h2 → Ev G M_Law_law room_1 (fun r _ => r = some (.int 1)) 682 [(0, .ref (G_b G)), (1, .ref x), (2, .ref m), (3, .int (iZ ((5 * i : Nat) : Int)))] [] h2 (k + 12) (n + 2164)) : Ev G M_Law_law room_1 (fun r _ => r = some (.int 1)) 669 [(0, .ref (G_b G)), (1, .ref x), (2, .ref m), (3, .int (iZ ((5 * i : Nat) : Int)))] [] h k n := by
  obtain ⟨⟨fsx, hx⟩, Rx, hRx, hc⟩ := hd
  refine ev_aload_n d_Law_law_669 rfl rfl ?_
  refine ev_callV M_CB_undo Rx _ (As := []) hc d_Law_law_670 mk_CB_undo ml_Law_95 mv_CB_undo hx rfl rfl rfl (Nat.le_of_ble_eq_true rfl) ⟨by show _ ≤ 10; have := hRx.1; omega, by show 8 + (_ + 11) + _ ≤ 342; have := hRx.2.1; show 8 + (1 + 11) + Rx.locals ≤ 342; omega⟩ ⟨by show _ ≤ 600000; have := hRx.2.2.1; omega, by show _ ≤ 7302250; have := hRx.2.2.2; omega⟩ (fun r h1 hq => ?_)
  obtain ⟨v, hv, rfl, ⟨fsm, hm⟩, Rm, hRm, hc2⟩ := hq
  refine ev_aload_n d_Law_law_673 rfl rfl ?_
  refine ev_callV M_Mo_undo Rm _ (As := []) (rest := [.int (iZ v)]) hc2 d_Law_law_674 mk_Mo_undo ml_Law_99 mv_Mo_undo hm rfl rfl rfl (Nat.le_of_ble_eq_true rfl) ⟨by show _ ≤ 10; have := hRm.1; omega, by show 8 + (3 + 11) + Rm.locals ≤ 342; have := hRm.2.1; omega⟩ ⟨by show _ ≤ 600000; have := hRx.2.2.1; have := hRm.2.2.1; omega, by show _ ≤ 7302250; have := hRx.2.2.2; have := hRm.2.2.2; omega⟩ (fun r2 h2 hq2 => ?_)
  obtain ⟨rfl, hP⟩ := hq2
  refine ez_icmp_eq (tgt := 682) hv hv d_Law_law_677 rfl (fun _ => ?_) (fun c => absurd rfl c)
  refine ev_widen (k + 12) (n + 2164) (by have := hRx.2.2.1; have := hRm.2.2.1; omega) (by have := hRx.2.2.2; have := hRm.2.2.2; omega) ?_
  exact hk _ hP
