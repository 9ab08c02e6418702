abbrev cb_L_law : ByteArray := code
theorem th_of5 : ∀ L : Nat, L < 6 → (Int32.ofNat L).toInt = (L : Int) := by decide +kernel
theorem dc_L_law_0 : decode cb_L_law 0 = .ok (.new 8, 3) := by decide +kernel
theorem dc_L_law_3 : decode cb_L_law 3 = .ok (.dup, 1) := by decide +kernel
theorem dc_L_law_4 : decode cb_L_law 4 = .ok (.invokespecial 54, 3) := by decide +kernel
theorem dc_L_law_7 : decode cb_L_law 7 = .ok (.astore_n 1, 1) := by decide +kernel
theorem dc_L_law_8 : decode cb_L_law 8 = .ok (.new 55, 3) := by decide +kernel
theorem dc_L_law_11 : decode cb_L_law 11 = .ok (.dup, 1) := by decide +kernel
theorem dc_L_law_12 : decode cb_L_law 12 = .ok (.invokespecial 57, 3) := by decide +kernel
theorem dc_L_law_15 : decode cb_L_law 15 = .ok (.astore_n 2, 1) := by decide +kernel
theorem dc_L_law_16 : decode cb_L_law 16 = .ok (.iconst 1, 1) := by decide +kernel
theorem dc_L_law_17 : decode cb_L_law 17 = .ok (.newarray .long, 2) := by decide +kernel
theorem dc_L_law_19 : decode cb_L_law 19 = .ok (.astore_n 3, 1) := by decide +kernel
theorem dc_L_law_20 : decode cb_L_law 20 = .ok (.iconst 0, 1) := by decide +kernel
theorem dc_L_law_21 : decode cb_L_law 21 = .ok (.istore 4, 2) := by decide +kernel
theorem dc_L_law_23 : decode cb_L_law 23 = .ok (.iload 4, 2) := by decide +kernel
theorem dc_L_law_25 : decode cb_L_law 25 = .ok (.aload_n 0, 1) := by decide +kernel
theorem dc_L_law_26 : decode cb_L_law 26 = .ok (.arraylength, 1) := by decide +kernel
theorem dc_L_law_27 : decode cb_L_law 27 = .ok (.iconst 5, 1) := by decide +kernel
theorem dc_L_law_28 : decode cb_L_law 28 = .ok (.isub, 1) := by decide +kernel
theorem dc_L_law_29 : decode cb_L_law 29 = .ok (.if_icmp .gt 833, 3) := by decide +kernel
theorem dc_L_law_32 : decode cb_L_law 32 = .ok (.aload_n 0, 1) := by decide +kernel
theorem dc_L_law_33 : decode cb_L_law 33 = .ok (.iload 4, 2) := by decide +kernel
theorem dc_L_law_35 : decode cb_L_law 35 = .ok (.iaload, 1) := by decide +kernel
theorem dc_L_law_36 : decode cb_L_law 36 = .ok (.bipush 15, 2) := by decide +kernel
theorem dc_L_law_38 : decode cb_L_law 38 = .ok (.iand, 1) := by decide +kernel
theorem dc_L_law_39 : decode cb_L_law 39 = .ok (.tableswitch 817 0 11 #[61, 153, 209, 265, 321, 377, 433, 501, 569, 637, 705, 761], 61) := by decide +kernel
theorem dc_L_law_100 : decode cb_L_law 100 = .ok (.aload_n 1, 1) := by decide +kernel
theorem dc_L_law_101 : decode cb_L_law 101 = .ok (.aload_n 0, 1) := by decide +kernel
theorem dc_L_law_102 : decode cb_L_law 102 = .ok (.iload 4, 2) := by decide +kernel
theorem dc_L_law_104 : decode cb_L_law 104 = .ok (.iconst 1, 1) := by decide +kernel
theorem dc_L_law_105 : decode cb_L_law 105 = .ok (.iadd, 1) := by decide +kernel
theorem dc_L_law_106 : decode cb_L_law 106 = .ok (.iaload, 1) := by decide +kernel
theorem dc_L_law_107 : decode cb_L_law 107 = .ok (.aload_n 0, 1) := by decide +kernel
theorem dc_L_law_108 : decode cb_L_law 108 = .ok (.iload 4, 2) := by decide +kernel
theorem dc_L_law_110 : decode cb_L_law 110 = .ok (.iconst 2, 1) := by decide +kernel
theorem dc_L_law_111 : decode cb_L_law 111 = .ok (.iadd, 1) := by decide +kernel
theorem dc_L_law_112 : decode cb_L_law 112 = .ok (.iaload, 1) := by decide +kernel
theorem dc_L_law_113 : decode cb_L_law 113 = .ok (.aload_n 0, 1) := by decide +kernel
theorem dc_L_law_114 : decode cb_L_law 114 = .ok (.iload 4, 2) := by decide +kernel
theorem dc_L_law_116 : decode cb_L_law 116 = .ok (.iconst 3, 1) := by decide +kernel
theorem dc_L_law_117 : decode cb_L_law 117 = .ok (.iadd, 1) := by decide +kernel
theorem dc_L_law_118 : decode cb_L_law 118 = .ok (.iaload, 1) := by decide +kernel
theorem dc_L_law_119 : decode cb_L_law 119 = .ok (.aload_n 0, 1) := by decide +kernel
theorem dc_L_law_120 : decode cb_L_law 120 = .ok (.iload 4, 2) := by decide +kernel
theorem dc_L_law_122 : decode cb_L_law 122 = .ok (.iconst 4, 1) := by decide +kernel
theorem dc_L_law_123 : decode cb_L_law 123 = .ok (.iadd, 1) := by decide +kernel
theorem dc_L_law_124 : decode cb_L_law 124 = .ok (.iaload, 1) := by decide +kernel
theorem dc_L_law_125 : decode cb_L_law 125 = .ok (.aload_n 3, 1) := by decide +kernel
theorem dc_L_law_126 : decode cb_L_law 126 = .ok (.invokestatic 58, 3) := by decide +kernel
theorem dc_L_law_129 : decode cb_L_law 129 = .ok (.istore 5, 2) := by decide +kernel
theorem dc_L_law_131 : decode cb_L_law 131 = .ok (.aload_n 2, 1) := by decide +kernel
theorem dc_L_law_132 : decode cb_L_law 132 = .ok (.aload_n 0, 1) := by decide +kernel
theorem dc_L_law_133 : decode cb_L_law 133 = .ok (.iload 4, 2) := by decide +kernel
theorem dc_L_law_135 : decode cb_L_law 135 = .ok (.iconst 1, 1) := by decide +kernel
theorem dc_L_law_136 : decode cb_L_law 136 = .ok (.iadd, 1) := by decide +kernel
theorem dc_L_law_137 : decode cb_L_law 137 = .ok (.iaload, 1) := by decide +kernel
theorem dc_L_law_138 : decode cb_L_law 138 = .ok (.aload_n 0, 1) := by decide +kernel
theorem dc_L_law_139 : decode cb_L_law 139 = .ok (.iload 4, 2) := by decide +kernel
theorem dc_L_law_141 : decode cb_L_law 141 = .ok (.iconst 2, 1) := by decide +kernel
theorem dc_L_law_142 : decode cb_L_law 142 = .ok (.iadd, 1) := by decide +kernel
theorem dc_L_law_143 : decode cb_L_law 143 = .ok (.iaload, 1) := by decide +kernel
theorem dc_L_law_144 : decode cb_L_law 144 = .ok (.aload_n 0, 1) := by decide +kernel
theorem dc_L_law_145 : decode cb_L_law 145 = .ok (.iload 4, 2) := by decide +kernel
theorem dc_L_law_147 : decode cb_L_law 147 = .ok (.iconst 3, 1) := by decide +kernel
theorem dc_L_law_148 : decode cb_L_law 148 = .ok (.iadd, 1) := by decide +kernel
theorem dc_L_law_149 : decode cb_L_law 149 = .ok (.iaload, 1) := by decide +kernel
theorem dc_L_law_150 : decode cb_L_law 150 = .ok (.aload_n 0, 1) := by decide +kernel
theorem dc_L_law_151 : decode cb_L_law 151 = .ok (.iload 4, 2) := by decide +kernel
theorem dc_L_law_153 : decode cb_L_law 153 = .ok (.iconst 4, 1) := by decide +kernel
theorem dc_L_law_154 : decode cb_L_law 154 = .ok (.iadd, 1) := by decide +kernel
theorem dc_L_law_155 : decode cb_L_law 155 = .ok (.iaload, 1) := by decide +kernel
theorem dc_L_law_156 : decode cb_L_law 156 = .ok (.invokevirtual 63, 3) := by decide +kernel
theorem dc_L_law_159 : decode cb_L_law 159 = .ok (.istore 6, 2) := by decide +kernel
theorem dc_L_law_161 : decode cb_L_law 161 = .ok (.aload_n 2, 1) := by decide +kernel
theorem dc_L_law_162 : decode cb_L_law 162 = .ok (.invokevirtual 64, 3) := by decide +kernel
theorem dc_L_law_165 : decode cb_L_law 165 = .ok (.iload 5, 2) := by decide +kernel
theorem dc_L_law_167 : decode cb_L_law 167 = .ok (.if_icmp .eq 5, 3) := by decide +kernel
theorem dc_L_law_170 : decode cb_L_law 170 = .ok (.iconst 0, 1) := by decide +kernel
theorem dc_L_law_171 : decode cb_L_law 171 = .ok (.ireturn, 1) := by decide +kernel
theorem dc_L_law_172 : decode cb_L_law 172 = .ok (.iload 5, 2) := by decide +kernel
theorem dc_L_law_174 : decode cb_L_law 174 = .ok (.ifCond .ne 15, 3) := by decide +kernel
theorem dc_L_law_177 : decode cb_L_law 177 = .ok (.aload_n 3, 1) := by decide +kernel
theorem dc_L_law_178 : decode cb_L_law 178 = .ok (.iconst 0, 1) := by decide +kernel
theorem dc_L_law_179 : decode cb_L_law 179 = .ok (.laload, 1) := by decide +kernel
theorem dc_L_law_180 : decode cb_L_law 180 = .ok (.iload 6, 2) := by decide +kernel
theorem dc_L_law_182 : decode cb_L_law 182 = .ok (.i2l, 1) := by decide +kernel
theorem dc_L_law_183 : decode cb_L_law 183 = .ok (.lcmp, 1) := by decide +kernel
theorem dc_L_law_184 : decode cb_L_law 184 = .ok (.ifCond .eq 5, 3) := by decide +kernel
theorem dc_L_law_187 : decode cb_L_law 187 = .ok (.iconst 0, 1) := by decide +kernel
theorem dc_L_law_188 : decode cb_L_law 188 = .ok (.ireturn, 1) := by decide +kernel
theorem dc_L_law_189 : decode cb_L_law 189 = .ok (.goto 667, 3) := by decide +kernel
theorem dc_L_law_192 : decode cb_L_law 192 = .ok (.aload_n 1, 1) := by decide +kernel
theorem dc_L_law_193 : decode cb_L_law 193 = .ok (.aload_n 0, 1) := by decide +kernel
theorem dc_L_law_194 : decode cb_L_law 194 = .ok (.iload 4, 2) := by decide +kernel
theorem dc_L_law_196 : decode cb_L_law 196 = .ok (.iconst 1, 1) := by decide +kernel
theorem dc_L_law_197 : decode cb_L_law 197 = .ok (.iadd, 1) := by decide +kernel
theorem dc_L_law_198 : decode cb_L_law 198 = .ok (.iaload, 1) := by decide +kernel
theorem dc_L_law_199 : decode cb_L_law 199 = .ok (.aload_n 3, 1) := by decide +kernel
theorem dc_L_law_200 : decode cb_L_law 200 = .ok (.invokestatic 68, 3) := by decide +kernel
theorem dc_L_law_203 : decode cb_L_law 203 = .ok (.istore 5, 2) := by decide +kernel
theorem dc_L_law_205 : decode cb_L_law 205 = .ok (.aload_n 2, 1) := by decide +kernel
theorem dc_L_law_206 : decode cb_L_law 206 = .ok (.aload_n 0, 1) := by decide +kernel
theorem dc_L_law_207 : decode cb_L_law 207 = .ok (.iload 4, 2) := by decide +kernel
theorem dc_L_law_209 : decode cb_L_law 209 = .ok (.iconst 1, 1) := by decide +kernel
theorem dc_L_law_210 : decode cb_L_law 210 = .ok (.iadd, 1) := by decide +kernel
theorem dc_L_law_211 : decode cb_L_law 211 = .ok (.iaload, 1) := by decide +kernel
theorem dc_L_law_212 : decode cb_L_law 212 = .ok (.invokevirtual 71, 3) := by decide +kernel
theorem dc_L_law_215 : decode cb_L_law 215 = .ok (.istore 6, 2) := by decide +kernel
theorem dc_L_law_217 : decode cb_L_law 217 = .ok (.aload_n 2, 1) := by decide +kernel
theorem dc_L_law_218 : decode cb_L_law 218 = .ok (.invokevirtual 64, 3) := by decide +kernel
theorem dc_L_law_221 : decode cb_L_law 221 = .ok (.iload 5, 2) := by decide +kernel
theorem dc_L_law_223 : decode cb_L_law 223 = .ok (.if_icmp .eq 5, 3) := by decide +kernel
theorem dc_L_law_226 : decode cb_L_law 226 = .ok (.iconst 0, 1) := by decide +kernel
theorem dc_L_law_227 : decode cb_L_law 227 = .ok (.ireturn, 1) := by decide +kernel
theorem dc_L_law_228 : decode cb_L_law 228 = .ok (.iload 5, 2) := by decide +kernel
theorem dc_L_law_230 : decode cb_L_law 230 = .ok (.ifCond .ne 15, 3) := by decide +kernel
theorem dc_L_law_233 : decode cb_L_law 233 = .ok (.aload_n 3, 1) := by decide +kernel
theorem dc_L_law_234 : decode cb_L_law 234 = .ok (.iconst 0, 1) := by decide +kernel
theorem dc_L_law_235 : decode cb_L_law 235 = .ok (.laload, 1) := by decide +kernel
theorem dc_L_law_236 : decode cb_L_law 236 = .ok (.iload 6, 2) := by decide +kernel
theorem dc_L_law_238 : decode cb_L_law 238 = .ok (.i2l, 1) := by decide +kernel
theorem dc_L_law_239 : decode cb_L_law 239 = .ok (.lcmp, 1) := by decide +kernel
theorem dc_L_law_240 : decode cb_L_law 240 = .ok (.ifCond .eq 5, 3) := by decide +kernel
theorem dc_L_law_243 : decode cb_L_law 243 = .ok (.iconst 0, 1) := by decide +kernel
theorem dc_L_law_244 : decode cb_L_law 244 = .ok (.ireturn, 1) := by decide +kernel
theorem dc_L_law_245 : decode cb_L_law 245 = .ok (.goto 611, 3) := by decide +kernel
theorem dc_L_law_248 : decode cb_L_law 248 = .ok (.aload_n 1, 1) := by decide +kernel
theorem dc_L_law_249 : decode cb_L_law 249 = .ok (.aload_n 0, 1) := by decide +kernel
theorem dc_L_law_250 : decode cb_L_law 250 = .ok (.iload 4, 2) := by decide +kernel
theorem dc_L_law_252 : decode cb_L_law 252 = .ok (.iconst 1, 1) := by decide +kernel
theorem dc_L_law_253 : decode cb_L_law 253 = .ok (.iadd, 1) := by decide +kernel
theorem dc_L_law_254 : decode cb_L_law 254 = .ok (.iaload, 1) := by decide +kernel
theorem dc_L_law_255 : decode cb_L_law 255 = .ok (.aload_n 3, 1) := by decide +kernel
theorem dc_L_law_256 : decode cb_L_law 256 = .ok (.invokestatic 72, 3) := by decide +kernel
theorem dc_L_law_259 : decode cb_L_law 259 = .ok (.istore 5, 2) := by decide +kernel
theorem dc_L_law_261 : decode cb_L_law 261 = .ok (.aload_n 2, 1) := by decide +kernel
theorem dc_L_law_262 : decode cb_L_law 262 = .ok (.aload_n 0, 1) := by decide +kernel
theorem dc_L_law_263 : decode cb_L_law 263 = .ok (.iload 4, 2) := by decide +kernel
theorem dc_L_law_265 : decode cb_L_law 265 = .ok (.iconst 1, 1) := by decide +kernel
theorem dc_L_law_266 : decode cb_L_law 266 = .ok (.iadd, 1) := by decide +kernel
theorem dc_L_law_267 : decode cb_L_law 267 = .ok (.iaload, 1) := by decide +kernel
theorem dc_L_law_268 : decode cb_L_law 268 = .ok (.invokevirtual 74, 3) := by decide +kernel
theorem dc_L_law_271 : decode cb_L_law 271 = .ok (.istore 6, 2) := by decide +kernel
theorem dc_L_law_273 : decode cb_L_law 273 = .ok (.aload_n 2, 1) := by decide +kernel
theorem dc_L_law_274 : decode cb_L_law 274 = .ok (.invokevirtual 64, 3) := by decide +kernel
theorem dc_L_law_277 : decode cb_L_law 277 = .ok (.iload 5, 2) := by decide +kernel
theorem dc_L_law_279 : decode cb_L_law 279 = .ok (.if_icmp .eq 5, 3) := by decide +kernel
theorem dc_L_law_282 : decode cb_L_law 282 = .ok (.iconst 0, 1) := by decide +kernel
theorem dc_L_law_283 : decode cb_L_law 283 = .ok (.ireturn, 1) := by decide +kernel
theorem dc_L_law_284 : decode cb_L_law 284 = .ok (.iload 5, 2) := by decide +kernel
theorem dc_L_law_286 : decode cb_L_law 286 = .ok (.ifCond .ne 15, 3) := by decide +kernel
theorem dc_L_law_289 : decode cb_L_law 289 = .ok (.aload_n 3, 1) := by decide +kernel
theorem dc_L_law_290 : decode cb_L_law 290 = .ok (.iconst 0, 1) := by decide +kernel
theorem dc_L_law_291 : decode cb_L_law 291 = .ok (.laload, 1) := by decide +kernel
theorem dc_L_law_292 : decode cb_L_law 292 = .ok (.iload 6, 2) := by decide +kernel
theorem dc_L_law_294 : decode cb_L_law 294 = .ok (.i2l, 1) := by decide +kernel
theorem dc_L_law_295 : decode cb_L_law 295 = .ok (.lcmp, 1) := by decide +kernel
theorem dc_L_law_296 : decode cb_L_law 296 = .ok (.ifCond .eq 5, 3) := by decide +kernel
theorem dc_L_law_299 : decode cb_L_law 299 = .ok (.iconst 0, 1) := by decide +kernel
theorem dc_L_law_300 : decode cb_L_law 300 = .ok (.ireturn, 1) := by decide +kernel
theorem dc_L_law_301 : decode cb_L_law 301 = .ok (.goto 555, 3) := by decide +kernel
theorem dc_L_law_304 : decode cb_L_law 304 = .ok (.aload_n 1, 1) := by decide +kernel
theorem dc_L_law_305 : decode cb_L_law 305 = .ok (.aload_n 0, 1) := by decide +kernel
theorem dc_L_law_306 : decode cb_L_law 306 = .ok (.iload 4, 2) := by decide +kernel
theorem dc_L_law_308 : decode cb_L_law 308 = .ok (.iconst 1, 1) := by decide +kernel
theorem dc_L_law_309 : decode cb_L_law 309 = .ok (.iadd, 1) := by decide +kernel
theorem dc_L_law_310 : decode cb_L_law 310 = .ok (.iaload, 1) := by decide +kernel
theorem dc_L_law_311 : decode cb_L_law 311 = .ok (.aload_n 3, 1) := by decide +kernel
theorem dc_L_law_312 : decode cb_L_law 312 = .ok (.invokestatic 75, 3) := by decide +kernel
theorem dc_L_law_315 : decode cb_L_law 315 = .ok (.istore 5, 2) := by decide +kernel
theorem dc_L_law_317 : decode cb_L_law 317 = .ok (.aload_n 2, 1) := by decide +kernel
theorem dc_L_law_318 : decode cb_L_law 318 = .ok (.aload_n 0, 1) := by decide +kernel
theorem dc_L_law_319 : decode cb_L_law 319 = .ok (.iload 4, 2) := by decide +kernel
theorem dc_L_law_321 : decode cb_L_law 321 = .ok (.iconst 1, 1) := by decide +kernel
theorem dc_L_law_322 : decode cb_L_law 322 = .ok (.iadd, 1) := by decide +kernel
theorem dc_L_law_323 : decode cb_L_law 323 = .ok (.iaload, 1) := by decide +kernel
theorem dc_L_law_324 : decode cb_L_law 324 = .ok (.invokevirtual 77, 3) := by decide +kernel
theorem dc_L_law_327 : decode cb_L_law 327 = .ok (.istore 6, 2) := by decide +kernel
theorem dc_L_law_329 : decode cb_L_law 329 = .ok (.aload_n 2, 1) := by decide +kernel
theorem dc_L_law_330 : decode cb_L_law 330 = .ok (.invokevirtual 64, 3) := by decide +kernel
theorem dc_L_law_333 : decode cb_L_law 333 = .ok (.iload 5, 2) := by decide +kernel
theorem dc_L_law_335 : decode cb_L_law 335 = .ok (.if_icmp .eq 5, 3) := by decide +kernel
theorem dc_L_law_338 : decode cb_L_law 338 = .ok (.iconst 0, 1) := by decide +kernel
theorem dc_L_law_339 : decode cb_L_law 339 = .ok (.ireturn, 1) := by decide +kernel
theorem dc_L_law_340 : decode cb_L_law 340 = .ok (.iload 5, 2) := by decide +kernel
theorem dc_L_law_342 : decode cb_L_law 342 = .ok (.ifCond .ne 15, 3) := by decide +kernel
theorem dc_L_law_345 : decode cb_L_law 345 = .ok (.aload_n 3, 1) := by decide +kernel
theorem dc_L_law_346 : decode cb_L_law 346 = .ok (.iconst 0, 1) := by decide +kernel
theorem dc_L_law_347 : decode cb_L_law 347 = .ok (.laload, 1) := by decide +kernel
theorem dc_L_law_348 : decode cb_L_law 348 = .ok (.iload 6, 2) := by decide +kernel
theorem dc_L_law_350 : decode cb_L_law 350 = .ok (.i2l, 1) := by decide +kernel
theorem dc_L_law_351 : decode cb_L_law 351 = .ok (.lcmp, 1) := by decide +kernel
theorem dc_L_law_352 : decode cb_L_law 352 = .ok (.ifCond .eq 5, 3) := by decide +kernel
theorem dc_L_law_355 : decode cb_L_law 355 = .ok (.iconst 0, 1) := by decide +kernel
theorem dc_L_law_356 : decode cb_L_law 356 = .ok (.ireturn, 1) := by decide +kernel
theorem dc_L_law_357 : decode cb_L_law 357 = .ok (.goto 499, 3) := by decide +kernel
theorem dc_L_law_360 : decode cb_L_law 360 = .ok (.aload_n 1, 1) := by decide +kernel
theorem dc_L_law_361 : decode cb_L_law 361 = .ok (.aload_n 0, 1) := by decide +kernel
theorem dc_L_law_362 : decode cb_L_law 362 = .ok (.iload 4, 2) := by decide +kernel
theorem dc_L_law_364 : decode cb_L_law 364 = .ok (.iconst 1, 1) := by decide +kernel
theorem dc_L_law_365 : decode cb_L_law 365 = .ok (.iadd, 1) := by decide +kernel
theorem dc_L_law_366 : decode cb_L_law 366 = .ok (.iaload, 1) := by decide +kernel
theorem dc_L_law_367 : decode cb_L_law 367 = .ok (.aload_n 3, 1) := by decide +kernel
theorem dc_L_law_368 : decode cb_L_law 368 = .ok (.invokestatic 78, 3) := by decide +kernel
theorem dc_L_law_371 : decode cb_L_law 371 = .ok (.istore 5, 2) := by decide +kernel
theorem dc_L_law_373 : decode cb_L_law 373 = .ok (.aload_n 2, 1) := by decide +kernel
theorem dc_L_law_374 : decode cb_L_law 374 = .ok (.aload_n 0, 1) := by decide +kernel
theorem dc_L_law_375 : decode cb_L_law 375 = .ok (.iload 4, 2) := by decide +kernel
theorem dc_L_law_377 : decode cb_L_law 377 = .ok (.iconst 1, 1) := by decide +kernel
theorem dc_L_law_378 : decode cb_L_law 378 = .ok (.iadd, 1) := by decide +kernel
theorem dc_L_law_379 : decode cb_L_law 379 = .ok (.iaload, 1) := by decide +kernel
theorem dc_L_law_380 : decode cb_L_law 380 = .ok (.invokevirtual 80, 3) := by decide +kernel
theorem dc_L_law_383 : decode cb_L_law 383 = .ok (.istore 6, 2) := by decide +kernel
theorem dc_L_law_385 : decode cb_L_law 385 = .ok (.aload_n 2, 1) := by decide +kernel
theorem dc_L_law_386 : decode cb_L_law 386 = .ok (.invokevirtual 64, 3) := by decide +kernel
theorem dc_L_law_389 : decode cb_L_law 389 = .ok (.iload 5, 2) := by decide +kernel
theorem dc_L_law_391 : decode cb_L_law 391 = .ok (.if_icmp .eq 5, 3) := by decide +kernel
theorem dc_L_law_394 : decode cb_L_law 394 = .ok (.iconst 0, 1) := by decide +kernel
theorem dc_L_law_395 : decode cb_L_law 395 = .ok (.ireturn, 1) := by decide +kernel
theorem dc_L_law_396 : decode cb_L_law 396 = .ok (.iload 5, 2) := by decide +kernel
theorem dc_L_law_398 : decode cb_L_law 398 = .ok (.ifCond .ne 15, 3) := by decide +kernel
theorem dc_L_law_401 : decode cb_L_law 401 = .ok (.aload_n 3, 1) := by decide +kernel
theorem dc_L_law_402 : decode cb_L_law 402 = .ok (.iconst 0, 1) := by decide +kernel
theorem dc_L_law_403 : decode cb_L_law 403 = .ok (.laload, 1) := by decide +kernel
theorem dc_L_law_404 : decode cb_L_law 404 = .ok (.iload 6, 2) := by decide +kernel
theorem dc_L_law_406 : decode cb_L_law 406 = .ok (.i2l, 1) := by decide +kernel
theorem dc_L_law_407 : decode cb_L_law 407 = .ok (.lcmp, 1) := by decide +kernel
theorem dc_L_law_408 : decode cb_L_law 408 = .ok (.ifCond .eq 5, 3) := by decide +kernel
theorem dc_L_law_411 : decode cb_L_law 411 = .ok (.iconst 0, 1) := by decide +kernel
theorem dc_L_law_412 : decode cb_L_law 412 = .ok (.ireturn, 1) := by decide +kernel
theorem dc_L_law_413 : decode cb_L_law 413 = .ok (.goto 443, 3) := by decide +kernel
theorem dc_L_law_416 : decode cb_L_law 416 = .ok (.aload_n 1, 1) := by decide +kernel
theorem dc_L_law_417 : decode cb_L_law 417 = .ok (.aload_n 0, 1) := by decide +kernel
theorem dc_L_law_418 : decode cb_L_law 418 = .ok (.iload 4, 2) := by decide +kernel
theorem dc_L_law_420 : decode cb_L_law 420 = .ok (.iconst 1, 1) := by decide +kernel
theorem dc_L_law_421 : decode cb_L_law 421 = .ok (.iadd, 1) := by decide +kernel
theorem dc_L_law_422 : decode cb_L_law 422 = .ok (.iaload, 1) := by decide +kernel
theorem dc_L_law_423 : decode cb_L_law 423 = .ok (.aload_n 3, 1) := by decide +kernel
theorem dc_L_law_424 : decode cb_L_law 424 = .ok (.invokestatic 81, 3) := by decide +kernel
theorem dc_L_law_427 : decode cb_L_law 427 = .ok (.istore 5, 2) := by decide +kernel
theorem dc_L_law_429 : decode cb_L_law 429 = .ok (.aload_n 2, 1) := by decide +kernel
theorem dc_L_law_430 : decode cb_L_law 430 = .ok (.aload_n 0, 1) := by decide +kernel
theorem dc_L_law_431 : decode cb_L_law 431 = .ok (.iload 4, 2) := by decide +kernel
theorem dc_L_law_433 : decode cb_L_law 433 = .ok (.iconst 1, 1) := by decide +kernel
theorem dc_L_law_434 : decode cb_L_law 434 = .ok (.iadd, 1) := by decide +kernel
theorem dc_L_law_435 : decode cb_L_law 435 = .ok (.iaload, 1) := by decide +kernel
theorem dc_L_law_436 : decode cb_L_law 436 = .ok (.invokevirtual 83, 3) := by decide +kernel
theorem dc_L_law_439 : decode cb_L_law 439 = .ok (.istore 6, 2) := by decide +kernel
theorem dc_L_law_441 : decode cb_L_law 441 = .ok (.aload_n 2, 1) := by decide +kernel
theorem dc_L_law_442 : decode cb_L_law 442 = .ok (.invokevirtual 64, 3) := by decide +kernel
theorem dc_L_law_445 : decode cb_L_law 445 = .ok (.iload 5, 2) := by decide +kernel
theorem dc_L_law_447 : decode cb_L_law 447 = .ok (.if_icmp .eq 5, 3) := by decide +kernel
theorem dc_L_law_450 : decode cb_L_law 450 = .ok (.iconst 0, 1) := by decide +kernel
theorem dc_L_law_451 : decode cb_L_law 451 = .ok (.ireturn, 1) := by decide +kernel
theorem dc_L_law_452 : decode cb_L_law 452 = .ok (.iload 5, 2) := by decide +kernel
theorem dc_L_law_454 : decode cb_L_law 454 = .ok (.ifCond .ne 15, 3) := by decide +kernel
theorem dc_L_law_457 : decode cb_L_law 457 = .ok (.aload_n 3, 1) := by decide +kernel
theorem dc_L_law_458 : decode cb_L_law 458 = .ok (.iconst 0, 1) := by decide +kernel
theorem dc_L_law_459 : decode cb_L_law 459 = .ok (.laload, 1) := by decide +kernel
theorem dc_L_law_460 : decode cb_L_law 460 = .ok (.iload 6, 2) := by decide +kernel
theorem dc_L_law_462 : decode cb_L_law 462 = .ok (.i2l, 1) := by decide +kernel
theorem dc_L_law_463 : decode cb_L_law 463 = .ok (.lcmp, 1) := by decide +kernel
theorem dc_L_law_464 : decode cb_L_law 464 = .ok (.ifCond .eq 5, 3) := by decide +kernel
theorem dc_L_law_467 : decode cb_L_law 467 = .ok (.iconst 0, 1) := by decide +kernel
theorem dc_L_law_468 : decode cb_L_law 468 = .ok (.ireturn, 1) := by decide +kernel
theorem dc_L_law_469 : decode cb_L_law 469 = .ok (.goto 387, 3) := by decide +kernel
theorem dc_L_law_472 : decode cb_L_law 472 = .ok (.aload_n 1, 1) := by decide +kernel
theorem dc_L_law_473 : decode cb_L_law 473 = .ok (.aload_n 0, 1) := by decide +kernel
theorem dc_L_law_474 : decode cb_L_law 474 = .ok (.iload 4, 2) := by decide +kernel
theorem dc_L_law_476 : decode cb_L_law 476 = .ok (.iconst 1, 1) := by decide +kernel
theorem dc_L_law_477 : decode cb_L_law 477 = .ok (.iadd, 1) := by decide +kernel
theorem dc_L_law_478 : decode cb_L_law 478 = .ok (.iaload, 1) := by decide +kernel
theorem dc_L_law_479 : decode cb_L_law 479 = .ok (.aload_n 0, 1) := by decide +kernel
theorem dc_L_law_480 : decode cb_L_law 480 = .ok (.iload 4, 2) := by decide +kernel
theorem dc_L_law_482 : decode cb_L_law 482 = .ok (.iconst 2, 1) := by decide +kernel
theorem dc_L_law_483 : decode cb_L_law 483 = .ok (.iadd, 1) := by decide +kernel
theorem dc_L_law_484 : decode cb_L_law 484 = .ok (.iaload, 1) := by decide +kernel
theorem dc_L_law_485 : decode cb_L_law 485 = .ok (.aload_n 3, 1) := by decide +kernel
theorem dc_L_law_486 : decode cb_L_law 486 = .ok (.invokestatic 84, 3) := by decide +kernel
theorem dc_L_law_489 : decode cb_L_law 489 = .ok (.istore 5, 2) := by decide +kernel
theorem dc_L_law_491 : decode cb_L_law 491 = .ok (.aload_n 2, 1) := by decide +kernel
theorem dc_L_law_492 : decode cb_L_law 492 = .ok (.aload_n 0, 1) := by decide +kernel
theorem dc_L_law_493 : decode cb_L_law 493 = .ok (.iload 4, 2) := by decide +kernel
theorem dc_L_law_495 : decode cb_L_law 495 = .ok (.iconst 1, 1) := by decide +kernel
theorem dc_L_law_496 : decode cb_L_law 496 = .ok (.iadd, 1) := by decide +kernel
theorem dc_L_law_497 : decode cb_L_law 497 = .ok (.iaload, 1) := by decide +kernel
theorem dc_L_law_498 : decode cb_L_law 498 = .ok (.aload_n 0, 1) := by decide +kernel
theorem dc_L_law_499 : decode cb_L_law 499 = .ok (.iload 4, 2) := by decide +kernel
theorem dc_L_law_501 : decode cb_L_law 501 = .ok (.iconst 2, 1) := by decide +kernel
theorem dc_L_law_502 : decode cb_L_law 502 = .ok (.iadd, 1) := by decide +kernel
theorem dc_L_law_503 : decode cb_L_law 503 = .ok (.iaload, 1) := by decide +kernel
theorem dc_L_law_504 : decode cb_L_law 504 = .ok (.invokevirtual 87, 3) := by decide +kernel
theorem dc_L_law_507 : decode cb_L_law 507 = .ok (.istore 6, 2) := by decide +kernel
theorem dc_L_law_509 : decode cb_L_law 509 = .ok (.aload_n 2, 1) := by decide +kernel
theorem dc_L_law_510 : decode cb_L_law 510 = .ok (.invokevirtual 64, 3) := by decide +kernel
theorem dc_L_law_513 : decode cb_L_law 513 = .ok (.iload 5, 2) := by decide +kernel
theorem dc_L_law_515 : decode cb_L_law 515 = .ok (.if_icmp .eq 5, 3) := by decide +kernel
theorem dc_L_law_518 : decode cb_L_law 518 = .ok (.iconst 0, 1) := by decide +kernel
theorem dc_L_law_519 : decode cb_L_law 519 = .ok (.ireturn, 1) := by decide +kernel
theorem dc_L_law_520 : decode cb_L_law 520 = .ok (.iload 5, 2) := by decide +kernel
theorem dc_L_law_522 : decode cb_L_law 522 = .ok (.ifCond .ne 15, 3) := by decide +kernel
theorem dc_L_law_525 : decode cb_L_law 525 = .ok (.aload_n 3, 1) := by decide +kernel
theorem dc_L_law_526 : decode cb_L_law 526 = .ok (.iconst 0, 1) := by decide +kernel
theorem dc_L_law_527 : decode cb_L_law 527 = .ok (.laload, 1) := by decide +kernel
theorem dc_L_law_528 : decode cb_L_law 528 = .ok (.iload 6, 2) := by decide +kernel
theorem dc_L_law_530 : decode cb_L_law 530 = .ok (.i2l, 1) := by decide +kernel
theorem dc_L_law_531 : decode cb_L_law 531 = .ok (.lcmp, 1) := by decide +kernel
theorem dc_L_law_532 : decode cb_L_law 532 = .ok (.ifCond .eq 5, 3) := by decide +kernel
theorem dc_L_law_535 : decode cb_L_law 535 = .ok (.iconst 0, 1) := by decide +kernel
theorem dc_L_law_536 : decode cb_L_law 536 = .ok (.ireturn, 1) := by decide +kernel
theorem dc_L_law_537 : decode cb_L_law 537 = .ok (.goto 319, 3) := by decide +kernel
theorem dc_L_law_540 : decode cb_L_law 540 = .ok (.aload_n 1, 1) := by decide +kernel
theorem dc_L_law_541 : decode cb_L_law 541 = .ok (.aload_n 0, 1) := by decide +kernel
theorem dc_L_law_542 : decode cb_L_law 542 = .ok (.iload 4, 2) := by decide +kernel
theorem dc_L_law_544 : decode cb_L_law 544 = .ok (.iconst 1, 1) := by decide +kernel
theorem dc_L_law_545 : decode cb_L_law 545 = .ok (.iadd, 1) := by decide +kernel
theorem dc_L_law_546 : decode cb_L_law 546 = .ok (.iaload, 1) := by decide +kernel
theorem dc_L_law_547 : decode cb_L_law 547 = .ok (.aload_n 0, 1) := by decide +kernel
theorem dc_L_law_548 : decode cb_L_law 548 = .ok (.iload 4, 2) := by decide +kernel
theorem dc_L_law_550 : decode cb_L_law 550 = .ok (.iconst 2, 1) := by decide +kernel
theorem dc_L_law_551 : decode cb_L_law 551 = .ok (.iadd, 1) := by decide +kernel
theorem dc_L_law_552 : decode cb_L_law 552 = .ok (.iaload, 1) := by decide +kernel
theorem dc_L_law_553 : decode cb_L_law 553 = .ok (.aload_n 3, 1) := by decide +kernel
theorem dc_L_law_554 : decode cb_L_law 554 = .ok (.invokestatic 88, 3) := by decide +kernel
theorem dc_L_law_557 : decode cb_L_law 557 = .ok (.istore 5, 2) := by decide +kernel
theorem dc_L_law_559 : decode cb_L_law 559 = .ok (.aload_n 2, 1) := by decide +kernel
theorem dc_L_law_560 : decode cb_L_law 560 = .ok (.aload_n 0, 1) := by decide +kernel
theorem dc_L_law_561 : decode cb_L_law 561 = .ok (.iload 4, 2) := by decide +kernel
theorem dc_L_law_563 : decode cb_L_law 563 = .ok (.iconst 1, 1) := by decide +kernel
theorem dc_L_law_564 : decode cb_L_law 564 = .ok (.iadd, 1) := by decide +kernel
theorem dc_L_law_565 : decode cb_L_law 565 = .ok (.iaload, 1) := by decide +kernel
theorem dc_L_law_566 : decode cb_L_law 566 = .ok (.aload_n 0, 1) := by decide +kernel
theorem dc_L_law_567 : decode cb_L_law 567 = .ok (.iload 4, 2) := by decide +kernel
theorem dc_L_law_569 : decode cb_L_law 569 = .ok (.iconst 2, 1) := by decide +kernel
theorem dc_L_law_570 : decode cb_L_law 570 = .ok (.iadd, 1) := by decide +kernel
theorem dc_L_law_571 : decode cb_L_law 571 = .ok (.iaload, 1) := by decide +kernel
theorem dc_L_law_572 : decode cb_L_law 572 = .ok (.invokevirtual 90, 3) := by decide +kernel
theorem dc_L_law_575 : decode cb_L_law 575 = .ok (.istore 6, 2) := by decide +kernel
theorem dc_L_law_577 : decode cb_L_law 577 = .ok (.aload_n 2, 1) := by decide +kernel
theorem dc_L_law_578 : decode cb_L_law 578 = .ok (.invokevirtual 64, 3) := by decide +kernel
theorem dc_L_law_581 : decode cb_L_law 581 = .ok (.iload 5, 2) := by decide +kernel
theorem dc_L_law_583 : decode cb_L_law 583 = .ok (.if_icmp .eq 5, 3) := by decide +kernel
theorem dc_L_law_586 : decode cb_L_law 586 = .ok (.iconst 0, 1) := by decide +kernel
theorem dc_L_law_587 : decode cb_L_law 587 = .ok (.ireturn, 1) := by decide +kernel
theorem dc_L_law_588 : decode cb_L_law 588 = .ok (.iload 5, 2) := by decide +kernel
theorem dc_L_law_590 : decode cb_L_law 590 = .ok (.ifCond .ne 15, 3) := by decide +kernel
theorem dc_L_law_593 : decode cb_L_law 593 = .ok (.aload_n 3, 1) := by decide +kernel
theorem dc_L_law_594 : decode cb_L_law 594 = .ok (.iconst 0, 1) := by decide +kernel
theorem dc_L_law_595 : decode cb_L_law 595 = .ok (.laload, 1) := by decide +kernel
theorem dc_L_law_596 : decode cb_L_law 596 = .ok (.iload 6, 2) := by decide +kernel
theorem dc_L_law_598 : decode cb_L_law 598 = .ok (.i2l, 1) := by decide +kernel
theorem dc_L_law_599 : decode cb_L_law 599 = .ok (.lcmp, 1) := by decide +kernel
theorem dc_L_law_600 : decode cb_L_law 600 = .ok (.ifCond .eq 5, 3) := by decide +kernel
theorem dc_L_law_603 : decode cb_L_law 603 = .ok (.iconst 0, 1) := by decide +kernel
theorem dc_L_law_604 : decode cb_L_law 604 = .ok (.ireturn, 1) := by decide +kernel
theorem dc_L_law_605 : decode cb_L_law 605 = .ok (.goto 251, 3) := by decide +kernel
theorem dc_L_law_608 : decode cb_L_law 608 = .ok (.aload_n 1, 1) := by decide +kernel
theorem dc_L_law_609 : decode cb_L_law 609 = .ok (.aload_n 0, 1) := by decide +kernel
theorem dc_L_law_610 : decode cb_L_law 610 = .ok (.iload 4, 2) := by decide +kernel
theorem dc_L_law_612 : decode cb_L_law 612 = .ok (.iconst 1, 1) := by decide +kernel
theorem dc_L_law_613 : decode cb_L_law 613 = .ok (.iadd, 1) := by decide +kernel
theorem dc_L_law_614 : decode cb_L_law 614 = .ok (.iaload, 1) := by decide +kernel
theorem dc_L_law_615 : decode cb_L_law 615 = .ok (.aload_n 0, 1) := by decide +kernel
theorem dc_L_law_616 : decode cb_L_law 616 = .ok (.iload 4, 2) := by decide +kernel
theorem dc_L_law_618 : decode cb_L_law 618 = .ok (.iconst 2, 1) := by decide +kernel
theorem dc_L_law_619 : decode cb_L_law 619 = .ok (.iadd, 1) := by decide +kernel
theorem dc_L_law_620 : decode cb_L_law 620 = .ok (.iaload, 1) := by decide +kernel
theorem dc_L_law_621 : decode cb_L_law 621 = .ok (.aload_n 3, 1) := by decide +kernel
theorem dc_L_law_622 : decode cb_L_law 622 = .ok (.invokestatic 91, 3) := by decide +kernel
theorem dc_L_law_625 : decode cb_L_law 625 = .ok (.istore 5, 2) := by decide +kernel
theorem dc_L_law_627 : decode cb_L_law 627 = .ok (.aload_n 2, 1) := by decide +kernel
theorem dc_L_law_628 : decode cb_L_law 628 = .ok (.aload_n 0, 1) := by decide +kernel
theorem dc_L_law_629 : decode cb_L_law 629 = .ok (.iload 4, 2) := by decide +kernel
theorem dc_L_law_631 : decode cb_L_law 631 = .ok (.iconst 1, 1) := by decide +kernel
theorem dc_L_law_632 : decode cb_L_law 632 = .ok (.iadd, 1) := by decide +kernel
theorem dc_L_law_633 : decode cb_L_law 633 = .ok (.iaload, 1) := by decide +kernel
theorem dc_L_law_634 : decode cb_L_law 634 = .ok (.aload_n 0, 1) := by decide +kernel
theorem dc_L_law_635 : decode cb_L_law 635 = .ok (.iload 4, 2) := by decide +kernel
theorem dc_L_law_637 : decode cb_L_law 637 = .ok (.iconst 2, 1) := by decide +kernel
theorem dc_L_law_638 : decode cb_L_law 638 = .ok (.iadd, 1) := by decide +kernel
theorem dc_L_law_639 : decode cb_L_law 639 = .ok (.iaload, 1) := by decide +kernel
theorem dc_L_law_640 : decode cb_L_law 640 = .ok (.invokevirtual 93, 3) := by decide +kernel
theorem dc_L_law_643 : decode cb_L_law 643 = .ok (.istore 6, 2) := by decide +kernel
theorem dc_L_law_645 : decode cb_L_law 645 = .ok (.aload_n 2, 1) := by decide +kernel
theorem dc_L_law_646 : decode cb_L_law 646 = .ok (.invokevirtual 64, 3) := by decide +kernel
theorem dc_L_law_649 : decode cb_L_law 649 = .ok (.iload 5, 2) := by decide +kernel
theorem dc_L_law_651 : decode cb_L_law 651 = .ok (.if_icmp .eq 5, 3) := by decide +kernel
theorem dc_L_law_654 : decode cb_L_law 654 = .ok (.iconst 0, 1) := by decide +kernel
theorem dc_L_law_655 : decode cb_L_law 655 = .ok (.ireturn, 1) := by decide +kernel
theorem dc_L_law_656 : decode cb_L_law 656 = .ok (.iload 5, 2) := by decide +kernel
theorem dc_L_law_658 : decode cb_L_law 658 = .ok (.ifCond .ne 15, 3) := by decide +kernel
theorem dc_L_law_661 : decode cb_L_law 661 = .ok (.aload_n 3, 1) := by decide +kernel
theorem dc_L_law_662 : decode cb_L_law 662 = .ok (.iconst 0, 1) := by decide +kernel
theorem dc_L_law_663 : decode cb_L_law 663 = .ok (.laload, 1) := by decide +kernel
theorem dc_L_law_664 : decode cb_L_law 664 = .ok (.iload 6, 2) := by decide +kernel
theorem dc_L_law_666 : decode cb_L_law 666 = .ok (.i2l, 1) := by decide +kernel
theorem dc_L_law_667 : decode cb_L_law 667 = .ok (.lcmp, 1) := by decide +kernel
theorem dc_L_law_668 : decode cb_L_law 668 = .ok (.ifCond .eq 5, 3) := by decide +kernel
theorem dc_L_law_671 : decode cb_L_law 671 = .ok (.iconst 0, 1) := by decide +kernel
theorem dc_L_law_672 : decode cb_L_law 672 = .ok (.ireturn, 1) := by decide +kernel
theorem dc_L_law_673 : decode cb_L_law 673 = .ok (.goto 183, 3) := by decide +kernel
theorem dc_L_law_676 : decode cb_L_law 676 = .ok (.aload_n 1, 1) := by decide +kernel
theorem dc_L_law_677 : decode cb_L_law 677 = .ok (.aload_n 0, 1) := by decide +kernel
theorem dc_L_law_678 : decode cb_L_law 678 = .ok (.iload 4, 2) := by decide +kernel
theorem dc_L_law_680 : decode cb_L_law 680 = .ok (.iconst 1, 1) := by decide +kernel
theorem dc_L_law_681 : decode cb_L_law 681 = .ok (.iadd, 1) := by decide +kernel
theorem dc_L_law_682 : decode cb_L_law 682 = .ok (.iaload, 1) := by decide +kernel
theorem dc_L_law_683 : decode cb_L_law 683 = .ok (.aload_n 0, 1) := by decide +kernel
theorem dc_L_law_684 : decode cb_L_law 684 = .ok (.iload 4, 2) := by decide +kernel
theorem dc_L_law_686 : decode cb_L_law 686 = .ok (.iconst 2, 1) := by decide +kernel
theorem dc_L_law_687 : decode cb_L_law 687 = .ok (.iadd, 1) := by decide +kernel
theorem dc_L_law_688 : decode cb_L_law 688 = .ok (.iaload, 1) := by decide +kernel
theorem dc_L_law_689 : decode cb_L_law 689 = .ok (.aload_n 3, 1) := by decide +kernel
theorem dc_L_law_690 : decode cb_L_law 690 = .ok (.invokestatic 94, 3) := by decide +kernel
theorem dc_L_law_693 : decode cb_L_law 693 = .ok (.istore 5, 2) := by decide +kernel
theorem dc_L_law_695 : decode cb_L_law 695 = .ok (.aload_n 2, 1) := by decide +kernel
theorem dc_L_law_696 : decode cb_L_law 696 = .ok (.aload_n 0, 1) := by decide +kernel
theorem dc_L_law_697 : decode cb_L_law 697 = .ok (.iload 4, 2) := by decide +kernel
theorem dc_L_law_699 : decode cb_L_law 699 = .ok (.iconst 1, 1) := by decide +kernel
theorem dc_L_law_700 : decode cb_L_law 700 = .ok (.iadd, 1) := by decide +kernel
theorem dc_L_law_701 : decode cb_L_law 701 = .ok (.iaload, 1) := by decide +kernel
theorem dc_L_law_702 : decode cb_L_law 702 = .ok (.aload_n 0, 1) := by decide +kernel
theorem dc_L_law_703 : decode cb_L_law 703 = .ok (.iload 4, 2) := by decide +kernel
theorem dc_L_law_705 : decode cb_L_law 705 = .ok (.iconst 2, 1) := by decide +kernel
theorem dc_L_law_706 : decode cb_L_law 706 = .ok (.iadd, 1) := by decide +kernel
theorem dc_L_law_707 : decode cb_L_law 707 = .ok (.iaload, 1) := by decide +kernel
theorem dc_L_law_708 : decode cb_L_law 708 = .ok (.invokevirtual 96, 3) := by decide +kernel
theorem dc_L_law_711 : decode cb_L_law 711 = .ok (.istore 6, 2) := by decide +kernel
theorem dc_L_law_713 : decode cb_L_law 713 = .ok (.aload_n 2, 1) := by decide +kernel
theorem dc_L_law_714 : decode cb_L_law 714 = .ok (.invokevirtual 64, 3) := by decide +kernel
theorem dc_L_law_717 : decode cb_L_law 717 = .ok (.iload 5, 2) := by decide +kernel
theorem dc_L_law_719 : decode cb_L_law 719 = .ok (.if_icmp .eq 5, 3) := by decide +kernel
theorem dc_L_law_722 : decode cb_L_law 722 = .ok (.iconst 0, 1) := by decide +kernel
theorem dc_L_law_723 : decode cb_L_law 723 = .ok (.ireturn, 1) := by decide +kernel
theorem dc_L_law_724 : decode cb_L_law 724 = .ok (.iload 5, 2) := by decide +kernel
theorem dc_L_law_726 : decode cb_L_law 726 = .ok (.ifCond .ne 15, 3) := by decide +kernel
theorem dc_L_law_729 : decode cb_L_law 729 = .ok (.aload_n 3, 1) := by decide +kernel
theorem dc_L_law_730 : decode cb_L_law 730 = .ok (.iconst 0, 1) := by decide +kernel
theorem dc_L_law_731 : decode cb_L_law 731 = .ok (.laload, 1) := by decide +kernel
theorem dc_L_law_732 : decode cb_L_law 732 = .ok (.iload 6, 2) := by decide +kernel
theorem dc_L_law_734 : decode cb_L_law 734 = .ok (.i2l, 1) := by decide +kernel
theorem dc_L_law_735 : decode cb_L_law 735 = .ok (.lcmp, 1) := by decide +kernel
theorem dc_L_law_736 : decode cb_L_law 736 = .ok (.ifCond .eq 5, 3) := by decide +kernel
theorem dc_L_law_739 : decode cb_L_law 739 = .ok (.iconst 0, 1) := by decide +kernel
theorem dc_L_law_740 : decode cb_L_law 740 = .ok (.ireturn, 1) := by decide +kernel
theorem dc_L_law_741 : decode cb_L_law 741 = .ok (.goto 115, 3) := by decide +kernel
theorem dc_L_law_744 : decode cb_L_law 744 = .ok (.aload_n 1, 1) := by decide +kernel
theorem dc_L_law_745 : decode cb_L_law 745 = .ok (.aload_n 0, 1) := by decide +kernel
theorem dc_L_law_746 : decode cb_L_law 746 = .ok (.iload 4, 2) := by decide +kernel
theorem dc_L_law_748 : decode cb_L_law 748 = .ok (.iconst 1, 1) := by decide +kernel
theorem dc_L_law_749 : decode cb_L_law 749 = .ok (.iadd, 1) := by decide +kernel
theorem dc_L_law_750 : decode cb_L_law 750 = .ok (.iaload, 1) := by decide +kernel
theorem dc_L_law_751 : decode cb_L_law 751 = .ok (.aload_n 3, 1) := by decide +kernel
theorem dc_L_law_752 : decode cb_L_law 752 = .ok (.invokestatic 97, 3) := by decide +kernel
theorem dc_L_law_755 : decode cb_L_law 755 = .ok (.istore 5, 2) := by decide +kernel
theorem dc_L_law_757 : decode cb_L_law 757 = .ok (.aload_n 2, 1) := by decide +kernel
theorem dc_L_law_758 : decode cb_L_law 758 = .ok (.aload_n 0, 1) := by decide +kernel
theorem dc_L_law_759 : decode cb_L_law 759 = .ok (.iload 4, 2) := by decide +kernel
theorem dc_L_law_761 : decode cb_L_law 761 = .ok (.iconst 1, 1) := by decide +kernel
theorem dc_L_law_762 : decode cb_L_law 762 = .ok (.iadd, 1) := by decide +kernel
theorem dc_L_law_763 : decode cb_L_law 763 = .ok (.iaload, 1) := by decide +kernel
theorem dc_L_law_764 : decode cb_L_law 764 = .ok (.invokevirtual 99, 3) := by decide +kernel
theorem dc_L_law_767 : decode cb_L_law 767 = .ok (.istore 6, 2) := by decide +kernel
theorem dc_L_law_769 : decode cb_L_law 769 = .ok (.aload_n 2, 1) := by decide +kernel
theorem dc_L_law_770 : decode cb_L_law 770 = .ok (.invokevirtual 64, 3) := by decide +kernel
theorem dc_L_law_773 : decode cb_L_law 773 = .ok (.iload 5, 2) := by decide +kernel
theorem dc_L_law_775 : decode cb_L_law 775 = .ok (.if_icmp .eq 5, 3) := by decide +kernel
theorem dc_L_law_778 : decode cb_L_law 778 = .ok (.iconst 0, 1) := by decide +kernel
theorem dc_L_law_779 : decode cb_L_law 779 = .ok (.ireturn, 1) := by decide +kernel
theorem dc_L_law_780 : decode cb_L_law 780 = .ok (.iload 5, 2) := by decide +kernel
theorem dc_L_law_782 : decode cb_L_law 782 = .ok (.ifCond .ne 15, 3) := by decide +kernel
theorem dc_L_law_785 : decode cb_L_law 785 = .ok (.aload_n 3, 1) := by decide +kernel
theorem dc_L_law_786 : decode cb_L_law 786 = .ok (.iconst 0, 1) := by decide +kernel
theorem dc_L_law_787 : decode cb_L_law 787 = .ok (.laload, 1) := by decide +kernel
theorem dc_L_law_788 : decode cb_L_law 788 = .ok (.iload 6, 2) := by decide +kernel
theorem dc_L_law_790 : decode cb_L_law 790 = .ok (.i2l, 1) := by decide +kernel
theorem dc_L_law_791 : decode cb_L_law 791 = .ok (.lcmp, 1) := by decide +kernel
theorem dc_L_law_792 : decode cb_L_law 792 = .ok (.ifCond .eq 5, 3) := by decide +kernel
theorem dc_L_law_795 : decode cb_L_law 795 = .ok (.iconst 0, 1) := by decide +kernel
theorem dc_L_law_796 : decode cb_L_law 796 = .ok (.ireturn, 1) := by decide +kernel
theorem dc_L_law_797 : decode cb_L_law 797 = .ok (.goto 59, 3) := by decide +kernel
theorem dc_L_law_800 : decode cb_L_law 800 = .ok (.aload_n 1, 1) := by decide +kernel
theorem dc_L_law_801 : decode cb_L_law 801 = .ok (.aload_n 0, 1) := by decide +kernel
theorem dc_L_law_802 : decode cb_L_law 802 = .ok (.iload 4, 2) := by decide +kernel
theorem dc_L_law_804 : decode cb_L_law 804 = .ok (.iconst 1, 1) := by decide +kernel
theorem dc_L_law_805 : decode cb_L_law 805 = .ok (.iadd, 1) := by decide +kernel
theorem dc_L_law_806 : decode cb_L_law 806 = .ok (.iaload, 1) := by decide +kernel
theorem dc_L_law_807 : decode cb_L_law 807 = .ok (.aload_n 3, 1) := by decide +kernel
theorem dc_L_law_808 : decode cb_L_law 808 = .ok (.invokestatic 100, 3) := by decide +kernel
theorem dc_L_law_811 : decode cb_L_law 811 = .ok (.istore 5, 2) := by decide +kernel
theorem dc_L_law_813 : decode cb_L_law 813 = .ok (.aload_n 2, 1) := by decide +kernel
theorem dc_L_law_814 : decode cb_L_law 814 = .ok (.aload_n 0, 1) := by decide +kernel
theorem dc_L_law_815 : decode cb_L_law 815 = .ok (.iload 4, 2) := by decide +kernel
theorem dc_L_law_817 : decode cb_L_law 817 = .ok (.iconst 1, 1) := by decide +kernel
theorem dc_L_law_818 : decode cb_L_law 818 = .ok (.iadd, 1) := by decide +kernel
theorem dc_L_law_819 : decode cb_L_law 819 = .ok (.iaload, 1) := by decide +kernel
theorem dc_L_law_820 : decode cb_L_law 820 = .ok (.invokevirtual 102, 3) := by decide +kernel
theorem dc_L_law_823 : decode cb_L_law 823 = .ok (.istore 6, 2) := by decide +kernel
theorem dc_L_law_825 : decode cb_L_law 825 = .ok (.aload_n 2, 1) := by decide +kernel
theorem dc_L_law_826 : decode cb_L_law 826 = .ok (.invokevirtual 64, 3) := by decide +kernel
theorem dc_L_law_829 : decode cb_L_law 829 = .ok (.iload 5, 2) := by decide +kernel
theorem dc_L_law_831 : decode cb_L_law 831 = .ok (.if_icmp .eq 5, 3) := by decide +kernel
theorem dc_L_law_834 : decode cb_L_law 834 = .ok (.iconst 0, 1) := by decide +kernel
theorem dc_L_law_835 : decode cb_L_law 835 = .ok (.ireturn, 1) := by decide +kernel
theorem dc_L_law_836 : decode cb_L_law 836 = .ok (.iload 5, 2) := by decide +kernel
theorem dc_L_law_838 : decode cb_L_law 838 = .ok (.ifCond .ne 15, 3) := by decide +kernel
theorem dc_L_law_841 : decode cb_L_law 841 = .ok (.aload_n 3, 1) := by decide +kernel
theorem dc_L_law_842 : decode cb_L_law 842 = .ok (.iconst 0, 1) := by decide +kernel
theorem dc_L_law_843 : decode cb_L_law 843 = .ok (.laload, 1) := by decide +kernel
theorem dc_L_law_844 : decode cb_L_law 844 = .ok (.iload 6, 2) := by decide +kernel
theorem dc_L_law_846 : decode cb_L_law 846 = .ok (.i2l, 1) := by decide +kernel
theorem dc_L_law_847 : decode cb_L_law 847 = .ok (.lcmp, 1) := by decide +kernel
theorem dc_L_law_848 : decode cb_L_law 848 = .ok (.ifCond .eq 5, 3) := by decide +kernel
theorem dc_L_law_851 : decode cb_L_law 851 = .ok (.iconst 0, 1) := by decide +kernel
theorem dc_L_law_852 : decode cb_L_law 852 = .ok (.ireturn, 1) := by decide +kernel
theorem dc_L_law_853 : decode cb_L_law 853 = .ok (.goto 3, 3) := by decide +kernel
theorem dc_L_law_856 : decode cb_L_law 856 = .ok (.iinc 4 5, 3) := by decide +kernel
theorem dc_L_law_859 : decode cb_L_law 859 = .ok (.goto (-836), 3) := by decide +kernel
theorem dc_L_law_862 : decode cb_L_law 862 = .ok (.iconst 1, 1) := by decide +kernel
theorem dc_L_law_863 : decode cb_L_law 863 = .ok (.ireturn, 1) := by decide +kernel
theorem ok_L_63 : th_okV rn_L 63 rn_O yn_O_add cb_O_add 6 (some .int) 4 := ⟨⟨(tb 745 (by decide +kernel) rfl), (tb 53 (by decide +kernel) rfl), (tb 742 (by decide +kernel) rfl), by decide, by decide, by decide⟩, (tb 743 (by decide +kernel) rfl), (tb 744 (by decide +kernel) rfl)⟩
theorem ok_L_64 : th_okV rn_L 64 rn_O yn_O_thrown cb_O_thrown 1 (some .int) 0 := ⟨⟨(tb 741 (by decide +kernel) rfl), (tb 53 (by decide +kernel) rfl), (tb 738 (by decide +kernel) rfl), by decide, by decide, by decide⟩, (tb 739 (by decide +kernel) rfl), (tb 740 (by decide +kernel) rfl)⟩
theorem ok_L_71 : th_okV rn_L 71 rn_O yn_O_clear cb_O_clear 3 (some .int) 1 := ⟨⟨(tb 763 (by decide +kernel) rfl), (tb 53 (by decide +kernel) rfl), (tb 760 (by decide +kernel) rfl), by decide, by decide, by decide⟩, (tb 761 (by decide +kernel) rfl), (tb 762 (by decide +kernel) rfl)⟩
theorem ok_L_74 : th_okV rn_L 74 rn_O yn_O_start cb_O_start 2 (some .int) 1 := ⟨⟨(tb 851 (by decide +kernel) rfl), (tb 53 (by decide +kernel) rfl), (tb 848 (by decide +kernel) rfl), by decide, by decide, by decide⟩, (tb 849 (by decide +kernel) rfl), (tb 850 (by decide +kernel) rfl)⟩
theorem ok_L_77 : th_okV rn_L 77 rn_O yn_O_run cb_O_run 4 (some .int) 1 := ⟨⟨(tb 767 (by decide +kernel) rfl), (tb 53 (by decide +kernel) rfl), (tb 764 (by decide +kernel) rfl), by decide, by decide, by decide⟩, (tb 765 (by decide +kernel) rfl), (tb 766 (by decide +kernel) rfl)⟩
theorem ok_L_80 : th_okV rn_L 80 rn_O yn_O_interrupt cb_O_interrupt 2 (some .int) 1 := ⟨⟨(tb 855 (by decide +kernel) rfl), (tb 53 (by decide +kernel) rfl), (tb 852 (by decide +kernel) rfl), by decide, by decide, by decide⟩, (tb 853 (by decide +kernel) rfl), (tb 854 (by decide +kernel) rfl)⟩
theorem ok_L_83 : th_okV rn_L 83 rn_O yn_O_slice cb_O_slice 3 (some .int) 1 := ⟨⟨(tb 859 (by decide +kernel) rfl), (tb 53 (by decide +kernel) rfl), (tb 856 (by decide +kernel) rfl), by decide, by decide, by decide⟩, (tb 857 (by decide +kernel) rfl), (tb 858 (by decide +kernel) rfl)⟩
theorem ok_L_87 : th_okV rn_L 87 rn_O yn_O_global cb_O_global 4 (some .int) 2 := ⟨⟨(tb 863 (by decide +kernel) rfl), (tb 53 (by decide +kernel) rfl), (tb 860 (by decide +kernel) rfl), by decide, by decide, by decide⟩, (tb 861 (by decide +kernel) rfl), (tb 862 (by decide +kernel) rfl)⟩
theorem ok_L_90 : th_okV rn_L 90 rn_O yn_O_special cb_O_special 3 (some .int) 2 := ⟨⟨(tb 867 (by decide +kernel) rfl), (tb 53 (by decide +kernel) rfl), (tb 864 (by decide +kernel) rfl), by decide, by decide, by decide⟩, (tb 865 (by decide +kernel) rfl), (tb 866 (by decide +kernel) rfl)⟩
theorem ok_L_93 : th_okV rn_L 93 rn_O yn_O_look cb_O_look 3 (some .int) 2 := ⟨⟨(tb 871 (by decide +kernel) rfl), (tb 53 (by decide +kernel) rfl), (tb 868 (by decide +kernel) rfl), by decide, by decide, by decide⟩, (tb 869 (by decide +kernel) rfl), (tb 870 (by decide +kernel) rfl)⟩
theorem ok_L_96 : th_okV rn_L 96 rn_O yn_O_lock cb_O_lock 3 (some .int) 2 := ⟨⟨(tb 875 (by decide +kernel) rfl), (tb 53 (by decide +kernel) rfl), (tb 872 (by decide +kernel) rfl), by decide, by decide, by decide⟩, (tb 873 (by decide +kernel) rfl), (tb 874 (by decide +kernel) rfl)⟩
theorem ok_L_99 : th_okV rn_L 99 rn_O yn_O_said cb_O_said 2 (some .int) 1 := ⟨⟨(tb 879 (by decide +kernel) rfl), (tb 53 (by decide +kernel) rfl), (tb 876 (by decide +kernel) rfl), by decide, by decide, by decide⟩, (tb 877 (by decide +kernel) rfl), (tb 878 (by decide +kernel) rfl)⟩
theorem ok_L_102 : th_okV rn_L 102 rn_O yn_O_count cb_O_count 4 (some .int) 1 := ⟨⟨(tb 883 (by decide +kernel) rfl), (tb 53 (by decide +kernel) rfl), (tb 880 (by decide +kernel) rfl), by decide, by decide, by decide⟩, (tb 881 (by decide +kernel) rfl), (tb 882 (by decide +kernel) rfl)⟩
theorem okW_58 : th_okW rn_L 58 yn_L_add cb_L_add 7 (some .int) [(0, 14, 17, 13), (0, 14, 21, 15), (0, 14, 25, 17)] 6 := ⟨⟨(tb 264 (by decide +kernel) rfl), (tb 46 (by decide +kernel) rfl), (tb 262 (by decide +kernel) rfl), by decide, by decide, by decide⟩, (tb 263 (by decide +kernel) rfl)⟩
theorem okW_68 : th_okW rn_L 68 yn_L_clear cb_L_clear 4 (some .int) [(0, 9, 12, 13), (0, 9, 15, 15)] 3 := ⟨⟨(tb 391 (by decide +kernel) rfl), (tb 46 (by decide +kernel) rfl), (tb 389 (by decide +kernel) rfl), by decide, by decide, by decide⟩, (tb 390 (by decide +kernel) rfl)⟩
theorem okW_72 : th_okW rn_L 72 yn_L_start cb_L_start 4 (some .int) [(0, 9, 12, 13)] 3 := ⟨⟨(tb 398 (by decide +kernel) rfl), (tb 46 (by decide +kernel) rfl), (tb 396 (by decide +kernel) rfl), by decide, by decide, by decide⟩, (tb 397 (by decide +kernel) rfl)⟩
theorem okW_75 : th_okW rn_L 75 yn_L_run cb_L_run 4 (some .int) [(0, 9, 12, 13)] 3 := ⟨⟨(tb 417 (by decide +kernel) rfl), (tb 46 (by decide +kernel) rfl), (tb 415 (by decide +kernel) rfl), by decide, by decide, by decide⟩, (tb 416 (by decide +kernel) rfl)⟩
theorem okW_78 : th_okW rn_L 78 yn_L_interrupt cb_L_interrupt 4 (some .int) [(0, 9, 12, 13)] 3 := ⟨⟨(tb 560 (by decide +kernel) rfl), (tb 46 (by decide +kernel) rfl), (tb 558 (by decide +kernel) rfl), by decide, by decide, by decide⟩, (tb 559 (by decide +kernel) rfl)⟩
theorem okW_81 : th_okW rn_L 81 yn_L_slice cb_L_slice 4 (some .int) [(0, 9, 12, 13)] 3 := ⟨⟨(tb 567 (by decide +kernel) rfl), (tb 46 (by decide +kernel) rfl), (tb 565 (by decide +kernel) rfl), by decide, by decide, by decide⟩, (tb 566 (by decide +kernel) rfl)⟩
theorem okW_84 : th_okW rn_L 84 yn_L_global cb_L_global 5 (some .int) [(0, 10, 13, 13)] 4 := ⟨⟨(tb 574 (by decide +kernel) rfl), (tb 46 (by decide +kernel) rfl), (tb 572 (by decide +kernel) rfl), by decide, by decide, by decide⟩, (tb 573 (by decide +kernel) rfl)⟩
theorem okW_88 : th_okW rn_L 88 yn_L_special cb_L_special 5 (some .int) [(0, 10, 13, 13)] 4 := ⟨⟨(tb 581 (by decide +kernel) rfl), (tb 46 (by decide +kernel) rfl), (tb 579 (by decide +kernel) rfl), by decide, by decide, by decide⟩, (tb 580 (by decide +kernel) rfl)⟩
theorem okW_91 : th_okW rn_L 91 yn_L_look cb_L_look 5 (some .int) [(0, 10, 13, 13)] 4 := ⟨⟨(tb 588 (by decide +kernel) rfl), (tb 46 (by decide +kernel) rfl), (tb 586 (by decide +kernel) rfl), by decide, by decide, by decide⟩, (tb 587 (by decide +kernel) rfl)⟩
theorem okW_94 : th_okW rn_L 94 yn_L_lock cb_L_lock 5 (some .int) [(0, 10, 13, 13)] 4 := ⟨⟨(tb 595 (by decide +kernel) rfl), (tb 46 (by decide +kernel) rfl), (tb 593 (by decide +kernel) rfl), by decide, by decide, by decide⟩, (tb 594 (by decide +kernel) rfl)⟩
theorem okW_97 : th_okW rn_L 97 yn_L_said cb_L_said 4 (some .int) [(0, 9, 12, 17)] 3 := ⟨⟨(tb 602 (by decide +kernel) rfl), (tb 46 (by decide +kernel) rfl), (tb 600 (by decide +kernel) rfl), by decide, by decide, by decide⟩, (tb 601 (by decide +kernel) rfl)⟩
theorem okW_100 : th_okW rn_L 100 yn_L_count cb_L_count 4 (some .int) [(0, 9, 12, 13)] 3 := ⟨⟨(tb 609 (by decide +kernel) rfl), (tb 46 (by decide +kernel) rfl), (tb 607 (by decide +kernel) rfl), by decide, by decide, by decide⟩, (tb 608 (by decide +kernel) rfl)⟩
