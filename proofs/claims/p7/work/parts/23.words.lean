abbrev cb_L_law : ByteArray := code
theorem dc_L_law_0 : decode cb_L_law 0 = .ok (.new 8, 3) := by decide +kernel
theorem dc_L_law_3 : decode cb_L_law 3 = .ok (.dup, 1) := by decide +kernel
theorem dc_L_law_4 : decode cb_L_law 4 = .ok (.invokespecial 54, 3) := by decide +kernel
theorem dc_L_law_7 : decode cb_L_law 7 = .ok (.astore_n 1, 1) := by decide +kernel
theorem dc_L_law_8 : decode cb_L_law 8 = .ok (.new 55, 3) := by decide +kernel
theorem dc_L_law_11 : decode cb_L_law 11 = .ok (.dup, 1) := by decide +kernel
theorem dc_L_law_12 : decode cb_L_law 12 = .ok (.invokespecial 57, 3) := by decide +kernel
theorem dc_L_law_15 : decode cb_L_law 15 = .ok (.astore_n 2, 1) := by decide +kernel
theorem dc_L_law_16 : decode cb_L_law 16 = .ok (.iconst 1, 1) := by decide +kernel
theorem dc_L_law_17 : decode cb_L_law 17 = .ok (.newarray .long, 2) := by decide +kernel
theorem dc_L_law_19 : decode cb_L_law 19 = .ok (.astore_n 3, 1) := by decide +kernel
theorem dc_L_law_20 : decode cb_L_law 20 = .ok (.iconst 0, 1) := by decide +kernel
theorem dc_L_law_21 : decode cb_L_law 21 = .ok (.istore 4, 2) := by decide +kernel
theorem dc_L_law_23 : decode cb_L_law 23 = .ok (.iload 4, 2) := by decide +kernel
theorem dc_L_law_25 : decode cb_L_law 25 = .ok (.aload_n 0, 1) := by decide +kernel
theorem dc_L_law_26 : decode cb_L_law 26 = .ok (.arraylength, 1) := by decide +kernel
theorem dc_L_law_27 : decode cb_L_law 27 = .ok (.iconst 5, 1) := by decide +kernel
theorem dc_L_law_28 : decode cb_L_law 28 = .ok (.isub, 1) := by decide +kernel
theorem dc_L_law_29 : decode cb_L_law 29 = .ok (.if_icmp .gt 525, 3) := by decide +kernel
theorem dc_L_law_32 : decode cb_L_law 32 = .ok (.aload_n 0, 1) := by decide +kernel
theorem dc_L_law_33 : decode cb_L_law 33 = .ok (.iload 4, 2) := by decide +kernel
theorem dc_L_law_35 : decode cb_L_law 35 = .ok (.iaload, 1) := by decide +kernel
theorem dc_L_law_36 : decode cb_L_law 36 = .ok (.bipush 15, 2) := by decide +kernel
theorem dc_L_law_38 : decode cb_L_law 38 = .ok (.iand, 1) := by decide +kernel
theorem dc_L_law_39 : decode cb_L_law 39 = .ok (.tableswitch 509 0 11 #[61, 125, 153, 181, 209, 237, 293, 333, 373, 413, 453, 481], 61) := by decide +kernel
theorem dc_L_law_100 : decode cb_L_law 100 = .ok (.aload_n 1, 1) := by decide +kernel
theorem dc_L_law_101 : decode cb_L_law 101 = .ok (.aload_n 0, 1) := by decide +kernel
theorem dc_L_law_102 : decode cb_L_law 102 = .ok (.iload 4, 2) := by decide +kernel
theorem dc_L_law_104 : decode cb_L_law 104 = .ok (.iconst 1, 1) := by decide +kernel
theorem dc_L_law_105 : decode cb_L_law 105 = .ok (.iadd, 1) := by decide +kernel
theorem dc_L_law_106 : decode cb_L_law 106 = .ok (.iaload, 1) := by decide +kernel
theorem dc_L_law_107 : decode cb_L_law 107 = .ok (.aload_n 0, 1) := by decide +kernel
theorem dc_L_law_108 : decode cb_L_law 108 = .ok (.iload 4, 2) := by decide +kernel
theorem dc_L_law_110 : decode cb_L_law 110 = .ok (.iconst 2, 1) := by decide +kernel
theorem dc_L_law_111 : decode cb_L_law 111 = .ok (.iadd, 1) := by decide +kernel
theorem dc_L_law_112 : decode cb_L_law 112 = .ok (.iaload, 1) := by decide +kernel
theorem dc_L_law_113 : decode cb_L_law 113 = .ok (.aload_n 0, 1) := by decide +kernel
theorem dc_L_law_114 : decode cb_L_law 114 = .ok (.iload 4, 2) := by decide +kernel
theorem dc_L_law_116 : decode cb_L_law 116 = .ok (.iconst 3, 1) := by decide +kernel
theorem dc_L_law_117 : decode cb_L_law 117 = .ok (.iadd, 1) := by decide +kernel
theorem dc_L_law_118 : decode cb_L_law 118 = .ok (.iaload, 1) := by decide +kernel
theorem dc_L_law_119 : decode cb_L_law 119 = .ok (.aload_n 0, 1) := by decide +kernel
theorem dc_L_law_120 : decode cb_L_law 120 = .ok (.iload 4, 2) := by decide +kernel
theorem dc_L_law_122 : decode cb_L_law 122 = .ok (.iconst 4, 1) := by decide +kernel
theorem dc_L_law_123 : decode cb_L_law 123 = .ok (.iadd, 1) := by decide +kernel
theorem dc_L_law_124 : decode cb_L_law 124 = .ok (.iaload, 1) := by decide +kernel
theorem dc_L_law_125 : decode cb_L_law 125 = .ok (.aload_n 3, 1) := by decide +kernel
theorem dc_L_law_126 : decode cb_L_law 126 = .ok (.invokestatic 58, 3) := by decide +kernel
theorem dc_L_law_129 : decode cb_L_law 129 = .ok (.istore 5, 2) := by decide +kernel
theorem dc_L_law_131 : decode cb_L_law 131 = .ok (.aload_n 2, 1) := by decide +kernel
theorem dc_L_law_132 : decode cb_L_law 132 = .ok (.aload_n 0, 1) := by decide +kernel
theorem dc_L_law_133 : decode cb_L_law 133 = .ok (.iload 4, 2) := by decide +kernel
theorem dc_L_law_135 : decode cb_L_law 135 = .ok (.iconst 1, 1) := by decide +kernel
theorem dc_L_law_136 : decode cb_L_law 136 = .ok (.iadd, 1) := by decide +kernel
theorem dc_L_law_137 : decode cb_L_law 137 = .ok (.iaload, 1) := by decide +kernel
theorem dc_L_law_138 : decode cb_L_law 138 = .ok (.aload_n 0, 1) := by decide +kernel
theorem dc_L_law_139 : decode cb_L_law 139 = .ok (.iload 4, 2) := by decide +kernel
theorem dc_L_law_141 : decode cb_L_law 141 = .ok (.iconst 2, 1) := by decide +kernel
theorem dc_L_law_142 : decode cb_L_law 142 = .ok (.iadd, 1) := by decide +kernel
theorem dc_L_law_143 : decode cb_L_law 143 = .ok (.iaload, 1) := by decide +kernel
theorem dc_L_law_144 : decode cb_L_law 144 = .ok (.aload_n 0, 1) := by decide +kernel
theorem dc_L_law_145 : decode cb_L_law 145 = .ok (.iload 4, 2) := by decide +kernel
theorem dc_L_law_147 : decode cb_L_law 147 = .ok (.iconst 3, 1) := by decide +kernel
theorem dc_L_law_148 : decode cb_L_law 148 = .ok (.iadd, 1) := by decide +kernel
theorem dc_L_law_149 : decode cb_L_law 149 = .ok (.iaload, 1) := by decide +kernel
theorem dc_L_law_150 : decode cb_L_law 150 = .ok (.aload_n 0, 1) := by decide +kernel
theorem dc_L_law_151 : decode cb_L_law 151 = .ok (.iload 4, 2) := by decide +kernel
theorem dc_L_law_153 : decode cb_L_law 153 = .ok (.iconst 4, 1) := by decide +kernel
theorem dc_L_law_154 : decode cb_L_law 154 = .ok (.iadd, 1) := by decide +kernel
theorem dc_L_law_155 : decode cb_L_law 155 = .ok (.iaload, 1) := by decide +kernel
theorem dc_L_law_156 : decode cb_L_law 156 = .ok (.invokevirtual 63, 3) := by decide +kernel
theorem dc_L_law_159 : decode cb_L_law 159 = .ok (.istore 6, 2) := by decide +kernel
theorem dc_L_law_161 : decode cb_L_law 161 = .ok (.goto 387, 3) := by decide +kernel
theorem dc_L_law_164 : decode cb_L_law 164 = .ok (.aload_n 1, 1) := by decide +kernel
theorem dc_L_law_165 : decode cb_L_law 165 = .ok (.aload_n 0, 1) := by decide +kernel
theorem dc_L_law_166 : decode cb_L_law 166 = .ok (.iload 4, 2) := by decide +kernel
theorem dc_L_law_168 : decode cb_L_law 168 = .ok (.iconst 1, 1) := by decide +kernel
theorem dc_L_law_169 : decode cb_L_law 169 = .ok (.iadd, 1) := by decide +kernel
theorem dc_L_law_170 : decode cb_L_law 170 = .ok (.iaload, 1) := by decide +kernel
theorem dc_L_law_171 : decode cb_L_law 171 = .ok (.aload_n 3, 1) := by decide +kernel
theorem dc_L_law_172 : decode cb_L_law 172 = .ok (.invokestatic 64, 3) := by decide +kernel
theorem dc_L_law_175 : decode cb_L_law 175 = .ok (.istore 5, 2) := by decide +kernel
theorem dc_L_law_177 : decode cb_L_law 177 = .ok (.aload_n 2, 1) := by decide +kernel
theorem dc_L_law_178 : decode cb_L_law 178 = .ok (.aload_n 0, 1) := by decide +kernel
theorem dc_L_law_179 : decode cb_L_law 179 = .ok (.iload 4, 2) := by decide +kernel
theorem dc_L_law_181 : decode cb_L_law 181 = .ok (.iconst 1, 1) := by decide +kernel
theorem dc_L_law_182 : decode cb_L_law 182 = .ok (.iadd, 1) := by decide +kernel
theorem dc_L_law_183 : decode cb_L_law 183 = .ok (.iaload, 1) := by decide +kernel
theorem dc_L_law_184 : decode cb_L_law 184 = .ok (.invokevirtual 67, 3) := by decide +kernel
theorem dc_L_law_187 : decode cb_L_law 187 = .ok (.istore 6, 2) := by decide +kernel
theorem dc_L_law_189 : decode cb_L_law 189 = .ok (.goto 359, 3) := by decide +kernel
theorem dc_L_law_192 : decode cb_L_law 192 = .ok (.aload_n 1, 1) := by decide +kernel
theorem dc_L_law_193 : decode cb_L_law 193 = .ok (.aload_n 0, 1) := by decide +kernel
theorem dc_L_law_194 : decode cb_L_law 194 = .ok (.iload 4, 2) := by decide +kernel
theorem dc_L_law_196 : decode cb_L_law 196 = .ok (.iconst 1, 1) := by decide +kernel
theorem dc_L_law_197 : decode cb_L_law 197 = .ok (.iadd, 1) := by decide +kernel
theorem dc_L_law_198 : decode cb_L_law 198 = .ok (.iaload, 1) := by decide +kernel
theorem dc_L_law_199 : decode cb_L_law 199 = .ok (.aload_n 3, 1) := by decide +kernel
theorem dc_L_law_200 : decode cb_L_law 200 = .ok (.invokestatic 68, 3) := by decide +kernel
theorem dc_L_law_203 : decode cb_L_law 203 = .ok (.istore 5, 2) := by decide +kernel
theorem dc_L_law_205 : decode cb_L_law 205 = .ok (.aload_n 2, 1) := by decide +kernel
theorem dc_L_law_206 : decode cb_L_law 206 = .ok (.aload_n 0, 1) := by decide +kernel
theorem dc_L_law_207 : decode cb_L_law 207 = .ok (.iload 4, 2) := by decide +kernel
theorem dc_L_law_209 : decode cb_L_law 209 = .ok (.iconst 1, 1) := by decide +kernel
theorem dc_L_law_210 : decode cb_L_law 210 = .ok (.iadd, 1) := by decide +kernel
theorem dc_L_law_211 : decode cb_L_law 211 = .ok (.iaload, 1) := by decide +kernel
theorem dc_L_law_212 : decode cb_L_law 212 = .ok (.invokevirtual 70, 3) := by decide +kernel
theorem dc_L_law_215 : decode cb_L_law 215 = .ok (.istore 6, 2) := by decide +kernel
theorem dc_L_law_217 : decode cb_L_law 217 = .ok (.goto 331, 3) := by decide +kernel
theorem dc_L_law_220 : decode cb_L_law 220 = .ok (.aload_n 1, 1) := by decide +kernel
theorem dc_L_law_221 : decode cb_L_law 221 = .ok (.aload_n 0, 1) := by decide +kernel
theorem dc_L_law_222 : decode cb_L_law 222 = .ok (.iload 4, 2) := by decide +kernel
theorem dc_L_law_224 : decode cb_L_law 224 = .ok (.iconst 1, 1) := by decide +kernel
theorem dc_L_law_225 : decode cb_L_law 225 = .ok (.iadd, 1) := by decide +kernel
theorem dc_L_law_226 : decode cb_L_law 226 = .ok (.iaload, 1) := by decide +kernel
theorem dc_L_law_227 : decode cb_L_law 227 = .ok (.aload_n 3, 1) := by decide +kernel
theorem dc_L_law_228 : decode cb_L_law 228 = .ok (.invokestatic 71, 3) := by decide +kernel
theorem dc_L_law_231 : decode cb_L_law 231 = .ok (.istore 5, 2) := by decide +kernel
theorem dc_L_law_233 : decode cb_L_law 233 = .ok (.aload_n 2, 1) := by decide +kernel
theorem dc_L_law_234 : decode cb_L_law 234 = .ok (.aload_n 0, 1) := by decide +kernel
theorem dc_L_law_235 : decode cb_L_law 235 = .ok (.iload 4, 2) := by decide +kernel
theorem dc_L_law_237 : decode cb_L_law 237 = .ok (.iconst 1, 1) := by decide +kernel
theorem dc_L_law_238 : decode cb_L_law 238 = .ok (.iadd, 1) := by decide +kernel
theorem dc_L_law_239 : decode cb_L_law 239 = .ok (.iaload, 1) := by decide +kernel
theorem dc_L_law_240 : decode cb_L_law 240 = .ok (.invokevirtual 73, 3) := by decide +kernel
theorem dc_L_law_243 : decode cb_L_law 243 = .ok (.istore 6, 2) := by decide +kernel
theorem dc_L_law_245 : decode cb_L_law 245 = .ok (.goto 303, 3) := by decide +kernel
theorem dc_L_law_248 : decode cb_L_law 248 = .ok (.aload_n 1, 1) := by decide +kernel
theorem dc_L_law_249 : decode cb_L_law 249 = .ok (.aload_n 0, 1) := by decide +kernel
theorem dc_L_law_250 : decode cb_L_law 250 = .ok (.iload 4, 2) := by decide +kernel
theorem dc_L_law_252 : decode cb_L_law 252 = .ok (.iconst 1, 1) := by decide +kernel
theorem dc_L_law_253 : decode cb_L_law 253 = .ok (.iadd, 1) := by decide +kernel
theorem dc_L_law_254 : decode cb_L_law 254 = .ok (.iaload, 1) := by decide +kernel
theorem dc_L_law_255 : decode cb_L_law 255 = .ok (.aload_n 3, 1) := by decide +kernel
theorem dc_L_law_256 : decode cb_L_law 256 = .ok (.invokestatic 74, 3) := by decide +kernel
theorem dc_L_law_259 : decode cb_L_law 259 = .ok (.istore 5, 2) := by decide +kernel
theorem dc_L_law_261 : decode cb_L_law 261 = .ok (.aload_n 2, 1) := by decide +kernel
theorem dc_L_law_262 : decode cb_L_law 262 = .ok (.aload_n 0, 1) := by decide +kernel
theorem dc_L_law_263 : decode cb_L_law 263 = .ok (.iload 4, 2) := by decide +kernel
theorem dc_L_law_265 : decode cb_L_law 265 = .ok (.iconst 1, 1) := by decide +kernel
theorem dc_L_law_266 : decode cb_L_law 266 = .ok (.iadd, 1) := by decide +kernel
theorem dc_L_law_267 : decode cb_L_law 267 = .ok (.iaload, 1) := by decide +kernel
theorem dc_L_law_268 : decode cb_L_law 268 = .ok (.invokevirtual 76, 3) := by decide +kernel
theorem dc_L_law_271 : decode cb_L_law 271 = .ok (.istore 6, 2) := by decide +kernel
theorem dc_L_law_273 : decode cb_L_law 273 = .ok (.goto 275, 3) := by decide +kernel
theorem dc_L_law_276 : decode cb_L_law 276 = .ok (.aload_n 1, 1) := by decide +kernel
theorem dc_L_law_277 : decode cb_L_law 277 = .ok (.aload_n 0, 1) := by decide +kernel
theorem dc_L_law_278 : decode cb_L_law 278 = .ok (.iload 4, 2) := by decide +kernel
theorem dc_L_law_280 : decode cb_L_law 280 = .ok (.iconst 1, 1) := by decide +kernel
theorem dc_L_law_281 : decode cb_L_law 281 = .ok (.iadd, 1) := by decide +kernel
theorem dc_L_law_282 : decode cb_L_law 282 = .ok (.iaload, 1) := by decide +kernel
theorem dc_L_law_283 : decode cb_L_law 283 = .ok (.aload_n 3, 1) := by decide +kernel
theorem dc_L_law_284 : decode cb_L_law 284 = .ok (.invokestatic 77, 3) := by decide +kernel
theorem dc_L_law_287 : decode cb_L_law 287 = .ok (.istore 5, 2) := by decide +kernel
theorem dc_L_law_289 : decode cb_L_law 289 = .ok (.aload_n 2, 1) := by decide +kernel
theorem dc_L_law_290 : decode cb_L_law 290 = .ok (.aload_n 0, 1) := by decide +kernel
theorem dc_L_law_291 : decode cb_L_law 291 = .ok (.iload 4, 2) := by decide +kernel
theorem dc_L_law_293 : decode cb_L_law 293 = .ok (.iconst 1, 1) := by decide +kernel
theorem dc_L_law_294 : decode cb_L_law 294 = .ok (.iadd, 1) := by decide +kernel
theorem dc_L_law_295 : decode cb_L_law 295 = .ok (.iaload, 1) := by decide +kernel
theorem dc_L_law_296 : decode cb_L_law 296 = .ok (.invokevirtual 79, 3) := by decide +kernel
theorem dc_L_law_299 : decode cb_L_law 299 = .ok (.istore 6, 2) := by decide +kernel
theorem dc_L_law_301 : decode cb_L_law 301 = .ok (.aload_n 2, 1) := by decide +kernel
theorem dc_L_law_302 : decode cb_L_law 302 = .ok (.invokevirtual 80, 3) := by decide +kernel
theorem dc_L_law_305 : decode cb_L_law 305 = .ok (.iload 5, 2) := by decide +kernel
theorem dc_L_law_307 : decode cb_L_law 307 = .ok (.if_icmp .eq 5, 3) := by decide +kernel
theorem dc_L_law_310 : decode cb_L_law 310 = .ok (.iconst 0, 1) := by decide +kernel
theorem dc_L_law_311 : decode cb_L_law 311 = .ok (.ireturn, 1) := by decide +kernel
theorem dc_L_law_312 : decode cb_L_law 312 = .ok (.iload 5, 2) := by decide +kernel
theorem dc_L_law_314 : decode cb_L_law 314 = .ok (.ifCond .ne 15, 3) := by decide +kernel
theorem dc_L_law_317 : decode cb_L_law 317 = .ok (.aload_n 3, 1) := by decide +kernel
theorem dc_L_law_318 : decode cb_L_law 318 = .ok (.iconst 0, 1) := by decide +kernel
theorem dc_L_law_319 : decode cb_L_law 319 = .ok (.laload, 1) := by decide +kernel
theorem dc_L_law_320 : decode cb_L_law 320 = .ok (.iload 6, 2) := by decide +kernel
theorem dc_L_law_322 : decode cb_L_law 322 = .ok (.i2l, 1) := by decide +kernel
theorem dc_L_law_323 : decode cb_L_law 323 = .ok (.lcmp, 1) := by decide +kernel
theorem dc_L_law_324 : decode cb_L_law 324 = .ok (.ifCond .eq 5, 3) := by decide +kernel
theorem dc_L_law_327 : decode cb_L_law 327 = .ok (.iconst 0, 1) := by decide +kernel
theorem dc_L_law_328 : decode cb_L_law 328 = .ok (.ireturn, 1) := by decide +kernel
theorem dc_L_law_329 : decode cb_L_law 329 = .ok (.goto 219, 3) := by decide +kernel
theorem dc_L_law_332 : decode cb_L_law 332 = .ok (.aload_n 1, 1) := by decide +kernel
theorem dc_L_law_333 : decode cb_L_law 333 = .ok (.aload_n 0, 1) := by decide +kernel
theorem dc_L_law_334 : decode cb_L_law 334 = .ok (.iload 4, 2) := by decide +kernel
theorem dc_L_law_336 : decode cb_L_law 336 = .ok (.iconst 1, 1) := by decide +kernel
theorem dc_L_law_337 : decode cb_L_law 337 = .ok (.iadd, 1) := by decide +kernel
theorem dc_L_law_338 : decode cb_L_law 338 = .ok (.iaload, 1) := by decide +kernel
theorem dc_L_law_339 : decode cb_L_law 339 = .ok (.aload_n 0, 1) := by decide +kernel
theorem dc_L_law_340 : decode cb_L_law 340 = .ok (.iload 4, 2) := by decide +kernel
theorem dc_L_law_342 : decode cb_L_law 342 = .ok (.iconst 2, 1) := by decide +kernel
theorem dc_L_law_343 : decode cb_L_law 343 = .ok (.iadd, 1) := by decide +kernel
theorem dc_L_law_344 : decode cb_L_law 344 = .ok (.iaload, 1) := by decide +kernel
theorem dc_L_law_345 : decode cb_L_law 345 = .ok (.aload_n 3, 1) := by decide +kernel
theorem dc_L_law_346 : decode cb_L_law 346 = .ok (.invokestatic 84, 3) := by decide +kernel
theorem dc_L_law_349 : decode cb_L_law 349 = .ok (.istore 5, 2) := by decide +kernel
theorem dc_L_law_351 : decode cb_L_law 351 = .ok (.aload_n 2, 1) := by decide +kernel
theorem dc_L_law_352 : decode cb_L_law 352 = .ok (.aload_n 0, 1) := by decide +kernel
theorem dc_L_law_353 : decode cb_L_law 353 = .ok (.iload 4, 2) := by decide +kernel
theorem dc_L_law_355 : decode cb_L_law 355 = .ok (.iconst 1, 1) := by decide +kernel
theorem dc_L_law_356 : decode cb_L_law 356 = .ok (.iadd, 1) := by decide +kernel
theorem dc_L_law_357 : decode cb_L_law 357 = .ok (.iaload, 1) := by decide +kernel
theorem dc_L_law_358 : decode cb_L_law 358 = .ok (.aload_n 0, 1) := by decide +kernel
theorem dc_L_law_359 : decode cb_L_law 359 = .ok (.iload 4, 2) := by decide +kernel
theorem dc_L_law_361 : decode cb_L_law 361 = .ok (.iconst 2, 1) := by decide +kernel
theorem dc_L_law_362 : decode cb_L_law 362 = .ok (.iadd, 1) := by decide +kernel
theorem dc_L_law_363 : decode cb_L_law 363 = .ok (.iaload, 1) := by decide +kernel
theorem dc_L_law_364 : decode cb_L_law 364 = .ok (.invokevirtual 87, 3) := by decide +kernel
theorem dc_L_law_367 : decode cb_L_law 367 = .ok (.istore 6, 2) := by decide +kernel
theorem dc_L_law_369 : decode cb_L_law 369 = .ok (.goto 179, 3) := by decide +kernel
theorem dc_L_law_372 : decode cb_L_law 372 = .ok (.aload_n 1, 1) := by decide +kernel
theorem dc_L_law_373 : decode cb_L_law 373 = .ok (.aload_n 0, 1) := by decide +kernel
theorem dc_L_law_374 : decode cb_L_law 374 = .ok (.iload 4, 2) := by decide +kernel
theorem dc_L_law_376 : decode cb_L_law 376 = .ok (.iconst 1, 1) := by decide +kernel
theorem dc_L_law_377 : decode cb_L_law 377 = .ok (.iadd, 1) := by decide +kernel
theorem dc_L_law_378 : decode cb_L_law 378 = .ok (.iaload, 1) := by decide +kernel
theorem dc_L_law_379 : decode cb_L_law 379 = .ok (.aload_n 0, 1) := by decide +kernel
theorem dc_L_law_380 : decode cb_L_law 380 = .ok (.iload 4, 2) := by decide +kernel
theorem dc_L_law_382 : decode cb_L_law 382 = .ok (.iconst 2, 1) := by decide +kernel
theorem dc_L_law_383 : decode cb_L_law 383 = .ok (.iadd, 1) := by decide +kernel
theorem dc_L_law_384 : decode cb_L_law 384 = .ok (.iaload, 1) := by decide +kernel
theorem dc_L_law_385 : decode cb_L_law 385 = .ok (.aload_n 3, 1) := by decide +kernel
theorem dc_L_law_386 : decode cb_L_law 386 = .ok (.invokestatic 88, 3) := by decide +kernel
theorem dc_L_law_389 : decode cb_L_law 389 = .ok (.istore 5, 2) := by decide +kernel
theorem dc_L_law_391 : decode cb_L_law 391 = .ok (.aload_n 2, 1) := by decide +kernel
theorem dc_L_law_392 : decode cb_L_law 392 = .ok (.aload_n 0, 1) := by decide +kernel
theorem dc_L_law_393 : decode cb_L_law 393 = .ok (.iload 4, 2) := by decide +kernel
theorem dc_L_law_395 : decode cb_L_law 395 = .ok (.iconst 1, 1) := by decide +kernel
theorem dc_L_law_396 : decode cb_L_law 396 = .ok (.iadd, 1) := by decide +kernel
theorem dc_L_law_397 : decode cb_L_law 397 = .ok (.iaload, 1) := by decide +kernel
theorem dc_L_law_398 : decode cb_L_law 398 = .ok (.aload_n 0, 1) := by decide +kernel
theorem dc_L_law_399 : decode cb_L_law 399 = .ok (.iload 4, 2) := by decide +kernel
theorem dc_L_law_401 : decode cb_L_law 401 = .ok (.iconst 2, 1) := by decide +kernel
theorem dc_L_law_402 : decode cb_L_law 402 = .ok (.iadd, 1) := by decide +kernel
theorem dc_L_law_403 : decode cb_L_law 403 = .ok (.iaload, 1) := by decide +kernel
theorem dc_L_law_404 : decode cb_L_law 404 = .ok (.invokevirtual 90, 3) := by decide +kernel
theorem dc_L_law_407 : decode cb_L_law 407 = .ok (.istore 6, 2) := by decide +kernel
theorem dc_L_law_409 : decode cb_L_law 409 = .ok (.goto 139, 3) := by decide +kernel
theorem dc_L_law_412 : decode cb_L_law 412 = .ok (.aload_n 1, 1) := by decide +kernel
theorem dc_L_law_413 : decode cb_L_law 413 = .ok (.aload_n 0, 1) := by decide +kernel
theorem dc_L_law_414 : decode cb_L_law 414 = .ok (.iload 4, 2) := by decide +kernel
theorem dc_L_law_416 : decode cb_L_law 416 = .ok (.iconst 1, 1) := by decide +kernel
theorem dc_L_law_417 : decode cb_L_law 417 = .ok (.iadd, 1) := by decide +kernel
theorem dc_L_law_418 : decode cb_L_law 418 = .ok (.iaload, 1) := by decide +kernel
theorem dc_L_law_419 : decode cb_L_law 419 = .ok (.aload_n 0, 1) := by decide +kernel
theorem dc_L_law_420 : decode cb_L_law 420 = .ok (.iload 4, 2) := by decide +kernel
theorem dc_L_law_422 : decode cb_L_law 422 = .ok (.iconst 2, 1) := by decide +kernel
theorem dc_L_law_423 : decode cb_L_law 423 = .ok (.iadd, 1) := by decide +kernel
theorem dc_L_law_424 : decode cb_L_law 424 = .ok (.iaload, 1) := by decide +kernel
theorem dc_L_law_425 : decode cb_L_law 425 = .ok (.aload_n 3, 1) := by decide +kernel
theorem dc_L_law_426 : decode cb_L_law 426 = .ok (.invokestatic 91, 3) := by decide +kernel
theorem dc_L_law_429 : decode cb_L_law 429 = .ok (.istore 5, 2) := by decide +kernel
theorem dc_L_law_431 : decode cb_L_law 431 = .ok (.aload_n 2, 1) := by decide +kernel
theorem dc_L_law_432 : decode cb_L_law 432 = .ok (.aload_n 0, 1) := by decide +kernel
theorem dc_L_law_433 : decode cb_L_law 433 = .ok (.iload 4, 2) := by decide +kernel
theorem dc_L_law_435 : decode cb_L_law 435 = .ok (.iconst 1, 1) := by decide +kernel
theorem dc_L_law_436 : decode cb_L_law 436 = .ok (.iadd, 1) := by decide +kernel
theorem dc_L_law_437 : decode cb_L_law 437 = .ok (.iaload, 1) := by decide +kernel
theorem dc_L_law_438 : decode cb_L_law 438 = .ok (.aload_n 0, 1) := by decide +kernel
theorem dc_L_law_439 : decode cb_L_law 439 = .ok (.iload 4, 2) := by decide +kernel
theorem dc_L_law_441 : decode cb_L_law 441 = .ok (.iconst 2, 1) := by decide +kernel
theorem dc_L_law_442 : decode cb_L_law 442 = .ok (.iadd, 1) := by decide +kernel
theorem dc_L_law_443 : decode cb_L_law 443 = .ok (.iaload, 1) := by decide +kernel
theorem dc_L_law_444 : decode cb_L_law 444 = .ok (.invokevirtual 93, 3) := by decide +kernel
theorem dc_L_law_447 : decode cb_L_law 447 = .ok (.istore 6, 2) := by decide +kernel
theorem dc_L_law_449 : decode cb_L_law 449 = .ok (.goto 99, 3) := by decide +kernel
theorem dc_L_law_452 : decode cb_L_law 452 = .ok (.aload_n 1, 1) := by decide +kernel
theorem dc_L_law_453 : decode cb_L_law 453 = .ok (.aload_n 0, 1) := by decide +kernel
theorem dc_L_law_454 : decode cb_L_law 454 = .ok (.iload 4, 2) := by decide +kernel
theorem dc_L_law_456 : decode cb_L_law 456 = .ok (.iconst 1, 1) := by decide +kernel
theorem dc_L_law_457 : decode cb_L_law 457 = .ok (.iadd, 1) := by decide +kernel
theorem dc_L_law_458 : decode cb_L_law 458 = .ok (.iaload, 1) := by decide +kernel
theorem dc_L_law_459 : decode cb_L_law 459 = .ok (.aload_n 0, 1) := by decide +kernel
theorem dc_L_law_460 : decode cb_L_law 460 = .ok (.iload 4, 2) := by decide +kernel
theorem dc_L_law_462 : decode cb_L_law 462 = .ok (.iconst 2, 1) := by decide +kernel
theorem dc_L_law_463 : decode cb_L_law 463 = .ok (.iadd, 1) := by decide +kernel
theorem dc_L_law_464 : decode cb_L_law 464 = .ok (.iaload, 1) := by decide +kernel
theorem dc_L_law_465 : decode cb_L_law 465 = .ok (.aload_n 3, 1) := by decide +kernel
theorem dc_L_law_466 : decode cb_L_law 466 = .ok (.invokestatic 94, 3) := by decide +kernel
theorem dc_L_law_469 : decode cb_L_law 469 = .ok (.istore 5, 2) := by decide +kernel
theorem dc_L_law_471 : decode cb_L_law 471 = .ok (.aload_n 2, 1) := by decide +kernel
theorem dc_L_law_472 : decode cb_L_law 472 = .ok (.aload_n 0, 1) := by decide +kernel
theorem dc_L_law_473 : decode cb_L_law 473 = .ok (.iload 4, 2) := by decide +kernel
theorem dc_L_law_475 : decode cb_L_law 475 = .ok (.iconst 1, 1) := by decide +kernel
theorem dc_L_law_476 : decode cb_L_law 476 = .ok (.iadd, 1) := by decide +kernel
theorem dc_L_law_477 : decode cb_L_law 477 = .ok (.iaload, 1) := by decide +kernel
theorem dc_L_law_478 : decode cb_L_law 478 = .ok (.aload_n 0, 1) := by decide +kernel
theorem dc_L_law_479 : decode cb_L_law 479 = .ok (.iload 4, 2) := by decide +kernel
theorem dc_L_law_481 : decode cb_L_law 481 = .ok (.iconst 2, 1) := by decide +kernel
theorem dc_L_law_482 : decode cb_L_law 482 = .ok (.iadd, 1) := by decide +kernel
theorem dc_L_law_483 : decode cb_L_law 483 = .ok (.iaload, 1) := by decide +kernel
theorem dc_L_law_484 : decode cb_L_law 484 = .ok (.invokevirtual 96, 3) := by decide +kernel
theorem dc_L_law_487 : decode cb_L_law 487 = .ok (.istore 6, 2) := by decide +kernel
theorem dc_L_law_489 : decode cb_L_law 489 = .ok (.goto 59, 3) := by decide +kernel
theorem dc_L_law_492 : decode cb_L_law 492 = .ok (.aload_n 1, 1) := by decide +kernel
theorem dc_L_law_493 : decode cb_L_law 493 = .ok (.aload_n 0, 1) := by decide +kernel
theorem dc_L_law_494 : decode cb_L_law 494 = .ok (.iload 4, 2) := by decide +kernel
theorem dc_L_law_496 : decode cb_L_law 496 = .ok (.iconst 1, 1) := by decide +kernel
theorem dc_L_law_497 : decode cb_L_law 497 = .ok (.iadd, 1) := by decide +kernel
theorem dc_L_law_498 : decode cb_L_law 498 = .ok (.iaload, 1) := by decide +kernel
theorem dc_L_law_499 : decode cb_L_law 499 = .ok (.aload_n 3, 1) := by decide +kernel
theorem dc_L_law_500 : decode cb_L_law 500 = .ok (.invokestatic 97, 3) := by decide +kernel
theorem dc_L_law_503 : decode cb_L_law 503 = .ok (.istore 5, 2) := by decide +kernel
theorem dc_L_law_505 : decode cb_L_law 505 = .ok (.aload_n 2, 1) := by decide +kernel
theorem dc_L_law_506 : decode cb_L_law 506 = .ok (.aload_n 0, 1) := by decide +kernel
theorem dc_L_law_507 : decode cb_L_law 507 = .ok (.iload 4, 2) := by decide +kernel
theorem dc_L_law_509 : decode cb_L_law 509 = .ok (.iconst 1, 1) := by decide +kernel
theorem dc_L_law_510 : decode cb_L_law 510 = .ok (.iadd, 1) := by decide +kernel
theorem dc_L_law_511 : decode cb_L_law 511 = .ok (.iaload, 1) := by decide +kernel
theorem dc_L_law_512 : decode cb_L_law 512 = .ok (.invokevirtual 99, 3) := by decide +kernel
theorem dc_L_law_515 : decode cb_L_law 515 = .ok (.istore 6, 2) := by decide +kernel
theorem dc_L_law_517 : decode cb_L_law 517 = .ok (.goto 31, 3) := by decide +kernel
theorem dc_L_law_520 : decode cb_L_law 520 = .ok (.aload_n 1, 1) := by decide +kernel
theorem dc_L_law_521 : decode cb_L_law 521 = .ok (.aload_n 0, 1) := by decide +kernel
theorem dc_L_law_522 : decode cb_L_law 522 = .ok (.iload 4, 2) := by decide +kernel
theorem dc_L_law_524 : decode cb_L_law 524 = .ok (.iconst 1, 1) := by decide +kernel
theorem dc_L_law_525 : decode cb_L_law 525 = .ok (.iadd, 1) := by decide +kernel
theorem dc_L_law_526 : decode cb_L_law 526 = .ok (.iaload, 1) := by decide +kernel
theorem dc_L_law_527 : decode cb_L_law 527 = .ok (.aload_n 3, 1) := by decide +kernel
theorem dc_L_law_528 : decode cb_L_law 528 = .ok (.invokestatic 100, 3) := by decide +kernel
theorem dc_L_law_531 : decode cb_L_law 531 = .ok (.istore 5, 2) := by decide +kernel
theorem dc_L_law_533 : decode cb_L_law 533 = .ok (.aload_n 2, 1) := by decide +kernel
theorem dc_L_law_534 : decode cb_L_law 534 = .ok (.aload_n 0, 1) := by decide +kernel
theorem dc_L_law_535 : decode cb_L_law 535 = .ok (.iload 4, 2) := by decide +kernel
theorem dc_L_law_537 : decode cb_L_law 537 = .ok (.iconst 1, 1) := by decide +kernel
theorem dc_L_law_538 : decode cb_L_law 538 = .ok (.iadd, 1) := by decide +kernel
theorem dc_L_law_539 : decode cb_L_law 539 = .ok (.iaload, 1) := by decide +kernel
theorem dc_L_law_540 : decode cb_L_law 540 = .ok (.invokevirtual 102, 3) := by decide +kernel
theorem dc_L_law_543 : decode cb_L_law 543 = .ok (.istore 6, 2) := by decide +kernel
theorem dc_L_law_545 : decode cb_L_law 545 = .ok (.goto 3, 3) := by decide +kernel
theorem dc_L_law_548 : decode cb_L_law 548 = .ok (.iinc 4 5, 3) := by decide +kernel
theorem dc_L_law_551 : decode cb_L_law 551 = .ok (.goto (-528), 3) := by decide +kernel
theorem dc_L_law_554 : decode cb_L_law 554 = .ok (.iconst 1, 1) := by decide +kernel
theorem dc_L_law_555 : decode cb_L_law 555 = .ok (.ireturn, 1) := by decide +kernel
theorem ok_L_63 : th_okV rn_L 63 rn_O yn_O_add cb_O_add 6 (some .int) 4 := ⟨⟨(tb 745 (by decide +kernel) rfl), (tb 53 (by decide +kernel) rfl), (tb 742 (by decide +kernel) rfl), by decide, by decide, by decide⟩, (tb 743 (by decide +kernel) rfl), (tb 744 (by decide +kernel) rfl)⟩
theorem ok_L_67 : th_okV rn_L 67 rn_O yn_O_clear cb_O_clear 3 (some .int) 1 := ⟨⟨(tb 763 (by decide +kernel) rfl), (tb 53 (by decide +kernel) rfl), (tb 760 (by decide +kernel) rfl), by decide, by decide, by decide⟩, (tb 761 (by decide +kernel) rfl), (tb 762 (by decide +kernel) rfl)⟩
theorem ok_L_70 : th_okV rn_L 70 rn_O yn_O_start cb_O_start 2 (some .int) 1 := ⟨⟨(tb 851 (by decide +kernel) rfl), (tb 53 (by decide +kernel) rfl), (tb 848 (by decide +kernel) rfl), by decide, by decide, by decide⟩, (tb 849 (by decide +kernel) rfl), (tb 850 (by decide +kernel) rfl)⟩
theorem ok_L_73 : th_okV rn_L 73 rn_O yn_O_run cb_O_run 4 (some .int) 1 := ⟨⟨(tb 767 (by decide +kernel) rfl), (tb 53 (by decide +kernel) rfl), (tb 764 (by decide +kernel) rfl), by decide, by decide, by decide⟩, (tb 765 (by decide +kernel) rfl), (tb 766 (by decide +kernel) rfl)⟩
theorem ok_L_76 : th_okV rn_L 76 rn_O yn_O_interrupt cb_O_interrupt 2 (some .int) 1 := ⟨⟨(tb 855 (by decide +kernel) rfl), (tb 53 (by decide +kernel) rfl), (tb 852 (by decide +kernel) rfl), by decide, by decide, by decide⟩, (tb 853 (by decide +kernel) rfl), (tb 854 (by decide +kernel) rfl)⟩
theorem ok_L_79 : th_okV rn_L 79 rn_O yn_O_slice cb_O_slice 3 (some .int) 1 := ⟨⟨(tb 859 (by decide +kernel) rfl), (tb 53 (by decide +kernel) rfl), (tb 856 (by decide +kernel) rfl), by decide, by decide, by decide⟩, (tb 857 (by decide +kernel) rfl), (tb 858 (by decide +kernel) rfl)⟩
theorem ok_L_80 : th_okV rn_L 80 rn_O yn_O_thrown cb_O_thrown 1 (some .int) 0 := ⟨⟨(tb 741 (by decide +kernel) rfl), (tb 53 (by decide +kernel) rfl), (tb 738 (by decide +kernel) rfl), by decide, by decide, by decide⟩, (tb 739 (by decide +kernel) rfl), (tb 740 (by decide +kernel) rfl)⟩
theorem ok_L_87 : th_okV rn_L 87 rn_O yn_O_global cb_O_global 4 (some .int) 2 := ⟨⟨(tb 863 (by decide +kernel) rfl), (tb 53 (by decide +kernel) rfl), (tb 860 (by decide +kernel) rfl), by decide, by decide, by decide⟩, (tb 861 (by decide +kernel) rfl), (tb 862 (by decide +kernel) rfl)⟩
theorem ok_L_90 : th_okV rn_L 90 rn_O yn_O_special cb_O_special 3 (some .int) 2 := ⟨⟨(tb 867 (by decide +kernel) rfl), (tb 53 (by decide +kernel) rfl), (tb 864 (by decide +kernel) rfl), by decide, by decide, by decide⟩, (tb 865 (by decide +kernel) rfl), (tb 866 (by decide +kernel) rfl)⟩
theorem ok_L_93 : th_okV rn_L 93 rn_O yn_O_look cb_O_look 3 (some .int) 2 := ⟨⟨(tb 871 (by decide +kernel) rfl), (tb 53 (by decide +kernel) rfl), (tb 868 (by decide +kernel) rfl), by decide, by decide, by decide⟩, (tb 869 (by decide +kernel) rfl), (tb 870 (by decide +kernel) rfl)⟩
theorem ok_L_96 : th_okV rn_L 96 rn_O yn_O_lock cb_O_lock 3 (some .int) 2 := ⟨⟨(tb 875 (by decide +kernel) rfl), (tb 53 (by decide +kernel) rfl), (tb 872 (by decide +kernel) rfl), by decide, by decide, by decide⟩, (tb 873 (by decide +kernel) rfl), (tb 874 (by decide +kernel) rfl)⟩
theorem ok_L_99 : th_okV rn_L 99 rn_O yn_O_said cb_O_said 2 (some .int) 1 := ⟨⟨(tb 879 (by decide +kernel) rfl), (tb 53 (by decide +kernel) rfl), (tb 876 (by decide +kernel) rfl), by decide, by decide, by decide⟩, (tb 877 (by decide +kernel) rfl), (tb 878 (by decide +kernel) rfl)⟩
theorem ok_L_102 : th_okV rn_L 102 rn_O yn_O_count cb_O_count 4 (some .int) 1 := ⟨⟨(tb 883 (by decide +kernel) rfl), (tb 53 (by decide +kernel) rfl), (tb 880 (by decide +kernel) rfl), by decide, by decide, by decide⟩, (tb 881 (by decide +kernel) rfl), (tb 882 (by decide +kernel) rfl)⟩
theorem okW_58 : th_okW rn_L 58 yn_L_add cb_L_add 7 (some .int) [(0, 14, 17, 13), (0, 14, 21, 15), (0, 14, 25, 17)] 6 := ⟨⟨(tb 264 (by decide +kernel) rfl), (tb 46 (by decide +kernel) rfl), (tb 262 (by decide +kernel) rfl), by decide, by decide, by decide⟩, (tb 263 (by decide +kernel) rfl)⟩
theorem okW_64 : th_okW rn_L 64 yn_L_clear cb_L_clear 4 (some .int) [(0, 9, 12, 13), (0, 9, 15, 15)] 3 := ⟨⟨(tb 391 (by decide +kernel) rfl), (tb 46 (by decide +kernel) rfl), (tb 389 (by decide +kernel) rfl), by decide, by decide, by decide⟩, (tb 390 (by decide +kernel) rfl)⟩
theorem okW_68 : th_okW rn_L 68 yn_L_start cb_L_start 4 (some .int) [(0, 9, 12, 13)] 3 := ⟨⟨(tb 398 (by decide +kernel) rfl), (tb 46 (by decide +kernel) rfl), (tb 396 (by decide +kernel) rfl), by decide, by decide, by decide⟩, (tb 397 (by decide +kernel) rfl)⟩
theorem okW_71 : th_okW rn_L 71 yn_L_run cb_L_run 4 (some .int) [(0, 9, 12, 13)] 3 := ⟨⟨(tb 417 (by decide +kernel) rfl), (tb 46 (by decide +kernel) rfl), (tb 415 (by decide +kernel) rfl), by decide, by decide, by decide⟩, (tb 416 (by decide +kernel) rfl)⟩
theorem okW_74 : th_okW rn_L 74 yn_L_interrupt cb_L_interrupt 4 (some .int) [(0, 9, 12, 13)] 3 := ⟨⟨(tb 560 (by decide +kernel) rfl), (tb 46 (by decide +kernel) rfl), (tb 558 (by decide +kernel) rfl), by decide, by decide, by decide⟩, (tb 559 (by decide +kernel) rfl)⟩
theorem okW_77 : th_okW rn_L 77 yn_L_slice cb_L_slice 4 (some .int) [(0, 9, 12, 13)] 3 := ⟨⟨(tb 567 (by decide +kernel) rfl), (tb 46 (by decide +kernel) rfl), (tb 565 (by decide +kernel) rfl), by decide, by decide, by decide⟩, (tb 566 (by decide +kernel) rfl)⟩
theorem okW_84 : th_okW rn_L 84 yn_L_global cb_L_global 5 (some .int) [(0, 10, 13, 13)] 4 := ⟨⟨(tb 574 (by decide +kernel) rfl), (tb 46 (by decide +kernel) rfl), (tb 572 (by decide +kernel) rfl), by decide, by decide, by decide⟩, (tb 573 (by decide +kernel) rfl)⟩
theorem okW_88 : th_okW rn_L 88 yn_L_special cb_L_special 5 (some .int) [(0, 10, 13, 13)] 4 := ⟨⟨(tb 581 (by decide +kernel) rfl), (tb 46 (by decide +kernel) rfl), (tb 579 (by decide +kernel) rfl), by decide, by decide, by decide⟩, (tb 580 (by decide +kernel) rfl)⟩
theorem okW_91 : th_okW rn_L 91 yn_L_look cb_L_look 5 (some .int) [(0, 10, 13, 13)] 4 := ⟨⟨(tb 588 (by decide +kernel) rfl), (tb 46 (by decide +kernel) rfl), (tb 586 (by decide +kernel) rfl), by decide, by decide, by decide⟩, (tb 587 (by decide +kernel) rfl)⟩
theorem okW_94 : th_okW rn_L 94 yn_L_lock cb_L_lock 5 (some .int) [(0, 10, 13, 13)] 4 := ⟨⟨(tb 595 (by decide +kernel) rfl), (tb 46 (by decide +kernel) rfl), (tb 593 (by decide +kernel) rfl), by decide, by decide, by decide⟩, (tb 594 (by decide +kernel) rfl)⟩
theorem okW_97 : th_okW rn_L 97 yn_L_said cb_L_said 4 (some .int) [(0, 9, 12, 17)] 3 := ⟨⟨(tb 602 (by decide +kernel) rfl), (tb 46 (by decide +kernel) rfl), (tb 600 (by decide +kernel) rfl), by decide, by decide, by decide⟩, (tb 601 (by decide +kernel) rfl)⟩
theorem okW_100 : th_okW rn_L 100 yn_L_count cb_L_count 4 (some .int) [(0, 9, 12, 13)] 3 := ⟨⟨(tb 609 (by decide +kernel) rfl), (tb 46 (by decide +kernel) rfl), (tb 607 (by decide +kernel) rfl), by decide, by decide, by decide⟩, (tb 608 (by decide +kernel) rfl)⟩
