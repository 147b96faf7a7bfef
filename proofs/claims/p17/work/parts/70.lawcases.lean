abbrev b_La_law : ByteArray := code
theorem d_La_law_0 : decode b_La_law 0 = .ok (.new 8, 3) := by decide +kernel
theorem d_La_law_3 : decode b_La_law 3 = .ok (.dup, 1) := by decide +kernel
theorem d_La_law_4 : decode b_La_law 4 = .ok (.invokespecial 61, 3) := by decide +kernel
theorem d_La_law_7 : decode b_La_law 7 = .ok (.astore_n 1, 1) := by decide +kernel
theorem d_La_law_8 : decode b_La_law 8 = .ok (.new 62, 3) := by decide +kernel
theorem d_La_law_11 : decode b_La_law 11 = .ok (.dup, 1) := by decide +kernel
theorem d_La_law_12 : decode b_La_law 12 = .ok (.invokespecial 64, 3) := by decide +kernel
theorem d_La_law_15 : decode b_La_law 15 = .ok (.astore_n 2, 1) := by decide +kernel
theorem d_La_law_16 : decode b_La_law 16 = .ok (.iconst 1, 1) := by decide +kernel
theorem d_La_law_17 : decode b_La_law 17 = .ok (.newarray .long, 2) := by decide +kernel
theorem d_La_law_19 : decode b_La_law 19 = .ok (.astore_n 3, 1) := by decide +kernel
theorem d_La_law_20 : decode b_La_law 20 = .ok (.iconst 0, 1) := by decide +kernel
theorem d_La_law_21 : decode b_La_law 21 = .ok (.istore 4, 2) := by decide +kernel
theorem d_La_law_23 : decode b_La_law 23 = .ok (.iload 4, 2) := by decide +kernel
theorem d_La_law_25 : decode b_La_law 25 = .ok (.aload_n 0, 1) := by decide +kernel
theorem d_La_law_26 : decode b_La_law 26 = .ok (.arraylength, 1) := by decide +kernel
theorem d_La_law_27 : decode b_La_law 27 = .ok (.bipush 6, 2) := by decide +kernel
theorem d_La_law_29 : decode b_La_law 29 = .ok (.isub, 1) := by decide +kernel
theorem d_La_law_30 : decode b_La_law 30 = .ok (.if_icmp .gt 746, 3) := by decide +kernel
theorem d_La_law_33 : decode b_La_law 33 = .ok (.aload_n 0, 1) := by decide +kernel
theorem d_La_law_34 : decode b_La_law 34 = .ok (.iload 4, 2) := by decide +kernel
theorem d_La_law_36 : decode b_La_law 36 = .ok (.iaload, 1) := by decide +kernel
theorem d_La_law_37 : decode b_La_law 37 = .ok (.bipush 15, 2) := by decide +kernel
theorem d_La_law_39 : decode b_La_law 39 = .ok (.iand, 1) := by decide +kernel
theorem d_La_law_40 : decode b_La_law 40 = .ok (.tableswitch 730 0 15 #[80, 156, 184, 197, 210, 245, 285, 349, 377, 417, 445, 473, 525, 577, 641, 705], 80) := by decide +kernel
theorem d_La_law_120 : decode b_La_law 120 = .ok (.aload_n 1, 1) := by decide +kernel
theorem d_La_law_121 : decode b_La_law 121 = .ok (.aload_n 0, 1) := by decide +kernel
theorem d_La_law_122 : decode b_La_law 122 = .ok (.iload 4, 2) := by decide +kernel
theorem d_La_law_124 : decode b_La_law 124 = .ok (.iconst 1, 1) := by decide +kernel
theorem d_La_law_125 : decode b_La_law 125 = .ok (.iadd, 1) := by decide +kernel
theorem d_La_law_126 : decode b_La_law 126 = .ok (.iaload, 1) := by decide +kernel
theorem d_La_law_127 : decode b_La_law 127 = .ok (.aload_n 0, 1) := by decide +kernel
theorem d_La_law_128 : decode b_La_law 128 = .ok (.iload 4, 2) := by decide +kernel
theorem d_La_law_130 : decode b_La_law 130 = .ok (.iconst 2, 1) := by decide +kernel
theorem d_La_law_131 : decode b_La_law 131 = .ok (.iadd, 1) := by decide +kernel
theorem d_La_law_132 : decode b_La_law 132 = .ok (.iaload, 1) := by decide +kernel
theorem d_La_law_133 : decode b_La_law 133 = .ok (.aload_n 0, 1) := by decide +kernel
theorem d_La_law_134 : decode b_La_law 134 = .ok (.iload 4, 2) := by decide +kernel
theorem d_La_law_136 : decode b_La_law 136 = .ok (.iconst 3, 1) := by decide +kernel
theorem d_La_law_137 : decode b_La_law 137 = .ok (.iadd, 1) := by decide +kernel
theorem d_La_law_138 : decode b_La_law 138 = .ok (.iaload, 1) := by decide +kernel
theorem d_La_law_139 : decode b_La_law 139 = .ok (.aload_n 0, 1) := by decide +kernel
theorem d_La_law_140 : decode b_La_law 140 = .ok (.iload 4, 2) := by decide +kernel
theorem d_La_law_142 : decode b_La_law 142 = .ok (.iconst 4, 1) := by decide +kernel
theorem d_La_law_143 : decode b_La_law 143 = .ok (.iadd, 1) := by decide +kernel
theorem d_La_law_144 : decode b_La_law 144 = .ok (.iaload, 1) := by decide +kernel
theorem d_La_law_145 : decode b_La_law 145 = .ok (.aload_n 0, 1) := by decide +kernel
theorem d_La_law_146 : decode b_La_law 146 = .ok (.iload 4, 2) := by decide +kernel
theorem d_La_law_148 : decode b_La_law 148 = .ok (.iconst 5, 1) := by decide +kernel
theorem d_La_law_149 : decode b_La_law 149 = .ok (.iadd, 1) := by decide +kernel
theorem d_La_law_150 : decode b_La_law 150 = .ok (.iaload, 1) := by decide +kernel
theorem d_La_law_151 : decode b_La_law 151 = .ok (.aload_n 3, 1) := by decide +kernel
theorem d_La_law_152 : decode b_La_law 152 = .ok (.invokestatic 65, 3) := by decide +kernel
theorem d_La_law_155 : decode b_La_law 155 = .ok (.istore 5, 2) := by decide +kernel
theorem d_La_law_157 : decode b_La_law 157 = .ok (.aload_n 2, 1) := by decide +kernel
theorem d_La_law_158 : decode b_La_law 158 = .ok (.aload_n 0, 1) := by decide +kernel
theorem d_La_law_159 : decode b_La_law 159 = .ok (.iload 4, 2) := by decide +kernel
theorem d_La_law_161 : decode b_La_law 161 = .ok (.iconst 1, 1) := by decide +kernel
theorem d_La_law_162 : decode b_La_law 162 = .ok (.iadd, 1) := by decide +kernel
theorem d_La_law_163 : decode b_La_law 163 = .ok (.iaload, 1) := by decide +kernel
theorem d_La_law_164 : decode b_La_law 164 = .ok (.aload_n 0, 1) := by decide +kernel
theorem d_La_law_165 : decode b_La_law 165 = .ok (.iload 4, 2) := by decide +kernel
theorem d_La_law_167 : decode b_La_law 167 = .ok (.iconst 2, 1) := by decide +kernel
theorem d_La_law_168 : decode b_La_law 168 = .ok (.iadd, 1) := by decide +kernel
theorem d_La_law_169 : decode b_La_law 169 = .ok (.iaload, 1) := by decide +kernel
theorem d_La_law_170 : decode b_La_law 170 = .ok (.aload_n 0, 1) := by decide +kernel
theorem d_La_law_171 : decode b_La_law 171 = .ok (.iload 4, 2) := by decide +kernel
theorem d_La_law_173 : decode b_La_law 173 = .ok (.iconst 3, 1) := by decide +kernel
theorem d_La_law_174 : decode b_La_law 174 = .ok (.iadd, 1) := by decide +kernel
theorem d_La_law_175 : decode b_La_law 175 = .ok (.iaload, 1) := by decide +kernel
theorem d_La_law_176 : decode b_La_law 176 = .ok (.aload_n 0, 1) := by decide +kernel
theorem d_La_law_177 : decode b_La_law 177 = .ok (.iload 4, 2) := by decide +kernel
theorem d_La_law_179 : decode b_La_law 179 = .ok (.iconst 4, 1) := by decide +kernel
theorem d_La_law_180 : decode b_La_law 180 = .ok (.iadd, 1) := by decide +kernel
theorem d_La_law_181 : decode b_La_law 181 = .ok (.iaload, 1) := by decide +kernel
theorem d_La_law_182 : decode b_La_law 182 = .ok (.aload_n 0, 1) := by decide +kernel
theorem d_La_law_183 : decode b_La_law 183 = .ok (.iload 4, 2) := by decide +kernel
theorem d_La_law_185 : decode b_La_law 185 = .ok (.iconst 5, 1) := by decide +kernel
theorem d_La_law_186 : decode b_La_law 186 = .ok (.iadd, 1) := by decide +kernel
theorem d_La_law_187 : decode b_La_law 187 = .ok (.iaload, 1) := by decide +kernel
theorem d_La_law_188 : decode b_La_law 188 = .ok (.invokevirtual 70, 3) := by decide +kernel
theorem d_La_law_191 : decode b_La_law 191 = .ok (.istore 6, 2) := by decide +kernel
theorem d_La_law_193 : decode b_La_law 193 = .ok (.goto 577, 3) := by decide +kernel
theorem d_La_law_196 : decode b_La_law 196 = .ok (.aload_n 1, 1) := by decide +kernel
theorem d_La_law_197 : decode b_La_law 197 = .ok (.aload_n 0, 1) := by decide +kernel
theorem d_La_law_198 : decode b_La_law 198 = .ok (.iload 4, 2) := by decide +kernel
theorem d_La_law_200 : decode b_La_law 200 = .ok (.iconst 1, 1) := by decide +kernel
theorem d_La_law_201 : decode b_La_law 201 = .ok (.iadd, 1) := by decide +kernel
theorem d_La_law_202 : decode b_La_law 202 = .ok (.iaload, 1) := by decide +kernel
theorem d_La_law_203 : decode b_La_law 203 = .ok (.aload_n 3, 1) := by decide +kernel
theorem d_La_law_204 : decode b_La_law 204 = .ok (.invokestatic 71, 3) := by decide +kernel
theorem d_La_law_207 : decode b_La_law 207 = .ok (.istore 5, 2) := by decide +kernel
theorem d_La_law_209 : decode b_La_law 209 = .ok (.aload_n 2, 1) := by decide +kernel
theorem d_La_law_210 : decode b_La_law 210 = .ok (.aload_n 0, 1) := by decide +kernel
theorem d_La_law_211 : decode b_La_law 211 = .ok (.iload 4, 2) := by decide +kernel
theorem d_La_law_213 : decode b_La_law 213 = .ok (.iconst 1, 1) := by decide +kernel
theorem d_La_law_214 : decode b_La_law 214 = .ok (.iadd, 1) := by decide +kernel
theorem d_La_law_215 : decode b_La_law 215 = .ok (.iaload, 1) := by decide +kernel
theorem d_La_law_216 : decode b_La_law 216 = .ok (.invokevirtual 74, 3) := by decide +kernel
theorem d_La_law_219 : decode b_La_law 219 = .ok (.istore 6, 2) := by decide +kernel
theorem d_La_law_221 : decode b_La_law 221 = .ok (.goto 549, 3) := by decide +kernel
theorem d_La_law_224 : decode b_La_law 224 = .ok (.aload_n 1, 1) := by decide +kernel
theorem d_La_law_225 : decode b_La_law 225 = .ok (.invokevirtual 75, 3) := by decide +kernel
theorem d_La_law_228 : decode b_La_law 228 = .ok (.pop, 1) := by decide +kernel
theorem d_La_law_229 : decode b_La_law 229 = .ok (.aload_n 2, 1) := by decide +kernel
theorem d_La_law_230 : decode b_La_law 230 = .ok (.invokevirtual 79, 3) := by decide +kernel
theorem d_La_law_233 : decode b_La_law 233 = .ok (.pop, 1) := by decide +kernel
theorem d_La_law_234 : decode b_La_law 234 = .ok (.goto 536, 3) := by decide +kernel
theorem d_La_law_237 : decode b_La_law 237 = .ok (.aload_n 1, 1) := by decide +kernel
theorem d_La_law_238 : decode b_La_law 238 = .ok (.invokevirtual 80, 3) := by decide +kernel
theorem d_La_law_241 : decode b_La_law 241 = .ok (.pop, 1) := by decide +kernel
theorem d_La_law_242 : decode b_La_law 242 = .ok (.aload_n 2, 1) := by decide +kernel
theorem d_La_law_243 : decode b_La_law 243 = .ok (.invokevirtual 83, 3) := by decide +kernel
theorem d_La_law_246 : decode b_La_law 246 = .ok (.pop, 1) := by decide +kernel
theorem d_La_law_247 : decode b_La_law 247 = .ok (.goto 523, 3) := by decide +kernel
theorem d_La_law_250 : decode b_La_law 250 = .ok (.aload_n 1, 1) := by decide +kernel
theorem d_La_law_251 : decode b_La_law 251 = .ok (.aload_n 0, 1) := by decide +kernel
theorem d_La_law_252 : decode b_La_law 252 = .ok (.iload 4, 2) := by decide +kernel
theorem d_La_law_254 : decode b_La_law 254 = .ok (.iconst 1, 1) := by decide +kernel
theorem d_La_law_255 : decode b_La_law 255 = .ok (.iadd, 1) := by decide +kernel
theorem d_La_law_256 : decode b_La_law 256 = .ok (.iaload, 1) := by decide +kernel
theorem d_La_law_257 : decode b_La_law 257 = .ok (.aload_n 0, 1) := by decide +kernel
theorem d_La_law_258 : decode b_La_law 258 = .ok (.iload 4, 2) := by decide +kernel
theorem d_La_law_260 : decode b_La_law 260 = .ok (.iconst 2, 1) := by decide +kernel
theorem d_La_law_261 : decode b_La_law 261 = .ok (.iadd, 1) := by decide +kernel
theorem d_La_law_262 : decode b_La_law 262 = .ok (.iaload, 1) := by decide +kernel
theorem d_La_law_263 : decode b_La_law 263 = .ok (.invokevirtual 84, 3) := by decide +kernel
theorem d_La_law_266 : decode b_La_law 266 = .ok (.aload_n 2, 1) := by decide +kernel
theorem d_La_law_267 : decode b_La_law 267 = .ok (.aload_n 0, 1) := by decide +kernel
theorem d_La_law_268 : decode b_La_law 268 = .ok (.iload 4, 2) := by decide +kernel
theorem d_La_law_270 : decode b_La_law 270 = .ok (.iconst 1, 1) := by decide +kernel
theorem d_La_law_271 : decode b_La_law 271 = .ok (.iadd, 1) := by decide +kernel
theorem d_La_law_272 : decode b_La_law 272 = .ok (.iaload, 1) := by decide +kernel
theorem d_La_law_273 : decode b_La_law 273 = .ok (.aload_n 0, 1) := by decide +kernel
theorem d_La_law_274 : decode b_La_law 274 = .ok (.iload 4, 2) := by decide +kernel
theorem d_La_law_276 : decode b_La_law 276 = .ok (.iconst 2, 1) := by decide +kernel
theorem d_La_law_277 : decode b_La_law 277 = .ok (.iadd, 1) := by decide +kernel
theorem d_La_law_278 : decode b_La_law 278 = .ok (.iaload, 1) := by decide +kernel
theorem d_La_law_279 : decode b_La_law 279 = .ok (.invokevirtual 88, 3) := by decide +kernel
theorem d_La_law_282 : decode b_La_law 282 = .ok (.goto 488, 3) := by decide +kernel
theorem d_La_law_285 : decode b_La_law 285 = .ok (.aload_n 1, 1) := by decide +kernel
theorem d_La_law_286 : decode b_La_law 286 = .ok (.aload_n 0, 1) := by decide +kernel
theorem d_La_law_287 : decode b_La_law 287 = .ok (.iload 4, 2) := by decide +kernel
theorem d_La_law_289 : decode b_La_law 289 = .ok (.iconst 1, 1) := by decide +kernel
theorem d_La_law_290 : decode b_La_law 290 = .ok (.iadd, 1) := by decide +kernel
theorem d_La_law_291 : decode b_La_law 291 = .ok (.iaload, 1) := by decide +kernel
theorem d_La_law_292 : decode b_La_law 292 = .ok (.aload_n 0, 1) := by decide +kernel
theorem d_La_law_293 : decode b_La_law 293 = .ok (.iload 4, 2) := by decide +kernel
theorem d_La_law_295 : decode b_La_law 295 = .ok (.iconst 2, 1) := by decide +kernel
theorem d_La_law_296 : decode b_La_law 296 = .ok (.iadd, 1) := by decide +kernel
theorem d_La_law_297 : decode b_La_law 297 = .ok (.iaload, 1) := by decide +kernel
theorem d_La_law_298 : decode b_La_law 298 = .ok (.aload_n 3, 1) := by decide +kernel
theorem d_La_law_299 : decode b_La_law 299 = .ok (.invokestatic 89, 3) := by decide +kernel
theorem d_La_law_302 : decode b_La_law 302 = .ok (.istore 5, 2) := by decide +kernel
theorem d_La_law_304 : decode b_La_law 304 = .ok (.aload_n 2, 1) := by decide +kernel
theorem d_La_law_305 : decode b_La_law 305 = .ok (.aload_n 0, 1) := by decide +kernel
theorem d_La_law_306 : decode b_La_law 306 = .ok (.iload 4, 2) := by decide +kernel
theorem d_La_law_308 : decode b_La_law 308 = .ok (.iconst 1, 1) := by decide +kernel
theorem d_La_law_309 : decode b_La_law 309 = .ok (.iadd, 1) := by decide +kernel
theorem d_La_law_310 : decode b_La_law 310 = .ok (.iaload, 1) := by decide +kernel
theorem d_La_law_311 : decode b_La_law 311 = .ok (.aload_n 0, 1) := by decide +kernel
theorem d_La_law_312 : decode b_La_law 312 = .ok (.iload 4, 2) := by decide +kernel
theorem d_La_law_314 : decode b_La_law 314 = .ok (.iconst 2, 1) := by decide +kernel
theorem d_La_law_315 : decode b_La_law 315 = .ok (.iadd, 1) := by decide +kernel
theorem d_La_law_316 : decode b_La_law 316 = .ok (.iaload, 1) := by decide +kernel
theorem d_La_law_317 : decode b_La_law 317 = .ok (.invokevirtual 92, 3) := by decide +kernel
theorem d_La_law_320 : decode b_La_law 320 = .ok (.istore 6, 2) := by decide +kernel
theorem d_La_law_322 : decode b_La_law 322 = .ok (.goto 448, 3) := by decide +kernel
theorem d_La_law_325 : decode b_La_law 325 = .ok (.aload_n 1, 1) := by decide +kernel
theorem d_La_law_326 : decode b_La_law 326 = .ok (.aload_n 0, 1) := by decide +kernel
theorem d_La_law_327 : decode b_La_law 327 = .ok (.iload 4, 2) := by decide +kernel
theorem d_La_law_329 : decode b_La_law 329 = .ok (.iconst 1, 1) := by decide +kernel
theorem d_La_law_330 : decode b_La_law 330 = .ok (.iadd, 1) := by decide +kernel
theorem d_La_law_331 : decode b_La_law 331 = .ok (.iaload, 1) := by decide +kernel
theorem d_La_law_332 : decode b_La_law 332 = .ok (.aload_n 0, 1) := by decide +kernel
theorem d_La_law_333 : decode b_La_law 333 = .ok (.iload 4, 2) := by decide +kernel
theorem d_La_law_335 : decode b_La_law 335 = .ok (.iconst 2, 1) := by decide +kernel
theorem d_La_law_336 : decode b_La_law 336 = .ok (.iadd, 1) := by decide +kernel
theorem d_La_law_337 : decode b_La_law 337 = .ok (.iaload, 1) := by decide +kernel
theorem d_La_law_338 : decode b_La_law 338 = .ok (.aload_n 0, 1) := by decide +kernel
theorem d_La_law_339 : decode b_La_law 339 = .ok (.iload 4, 2) := by decide +kernel
theorem d_La_law_341 : decode b_La_law 341 = .ok (.iconst 3, 1) := by decide +kernel
theorem d_La_law_342 : decode b_La_law 342 = .ok (.iadd, 1) := by decide +kernel
theorem d_La_law_343 : decode b_La_law 343 = .ok (.iaload, 1) := by decide +kernel
theorem d_La_law_344 : decode b_La_law 344 = .ok (.aload_n 0, 1) := by decide +kernel
theorem d_La_law_345 : decode b_La_law 345 = .ok (.iload 4, 2) := by decide +kernel
theorem d_La_law_347 : decode b_La_law 347 = .ok (.iconst 4, 1) := by decide +kernel
theorem d_La_law_348 : decode b_La_law 348 = .ok (.iadd, 1) := by decide +kernel
theorem d_La_law_349 : decode b_La_law 349 = .ok (.iaload, 1) := by decide +kernel
theorem d_La_law_350 : decode b_La_law 350 = .ok (.aload_n 3, 1) := by decide +kernel
theorem d_La_law_351 : decode b_La_law 351 = .ok (.invokestatic 93, 3) := by decide +kernel
theorem d_La_law_354 : decode b_La_law 354 = .ok (.istore 5, 2) := by decide +kernel
theorem d_La_law_356 : decode b_La_law 356 = .ok (.aload_n 2, 1) := by decide +kernel
theorem d_La_law_357 : decode b_La_law 357 = .ok (.aload_n 0, 1) := by decide +kernel
theorem d_La_law_358 : decode b_La_law 358 = .ok (.iload 4, 2) := by decide +kernel
theorem d_La_law_360 : decode b_La_law 360 = .ok (.iconst 1, 1) := by decide +kernel
theorem d_La_law_361 : decode b_La_law 361 = .ok (.iadd, 1) := by decide +kernel
theorem d_La_law_362 : decode b_La_law 362 = .ok (.iaload, 1) := by decide +kernel
theorem d_La_law_363 : decode b_La_law 363 = .ok (.aload_n 0, 1) := by decide +kernel
theorem d_La_law_364 : decode b_La_law 364 = .ok (.iload 4, 2) := by decide +kernel
theorem d_La_law_366 : decode b_La_law 366 = .ok (.iconst 2, 1) := by decide +kernel
theorem d_La_law_367 : decode b_La_law 367 = .ok (.iadd, 1) := by decide +kernel
theorem d_La_law_368 : decode b_La_law 368 = .ok (.iaload, 1) := by decide +kernel
theorem d_La_law_369 : decode b_La_law 369 = .ok (.aload_n 0, 1) := by decide +kernel
theorem d_La_law_370 : decode b_La_law 370 = .ok (.iload 4, 2) := by decide +kernel
theorem d_La_law_372 : decode b_La_law 372 = .ok (.iconst 3, 1) := by decide +kernel
theorem d_La_law_373 : decode b_La_law 373 = .ok (.iadd, 1) := by decide +kernel
theorem d_La_law_374 : decode b_La_law 374 = .ok (.iaload, 1) := by decide +kernel
theorem d_La_law_375 : decode b_La_law 375 = .ok (.aload_n 0, 1) := by decide +kernel
theorem d_La_law_376 : decode b_La_law 376 = .ok (.iload 4, 2) := by decide +kernel
theorem d_La_law_378 : decode b_La_law 378 = .ok (.iconst 4, 1) := by decide +kernel
theorem d_La_law_379 : decode b_La_law 379 = .ok (.iadd, 1) := by decide +kernel
theorem d_La_law_380 : decode b_La_law 380 = .ok (.iaload, 1) := by decide +kernel
theorem d_La_law_381 : decode b_La_law 381 = .ok (.invokevirtual 96, 3) := by decide +kernel
theorem d_La_law_384 : decode b_La_law 384 = .ok (.istore 6, 2) := by decide +kernel
theorem d_La_law_386 : decode b_La_law 386 = .ok (.goto 384, 3) := by decide +kernel
theorem d_La_law_389 : decode b_La_law 389 = .ok (.aload_n 1, 1) := by decide +kernel
theorem d_La_law_390 : decode b_La_law 390 = .ok (.aload_n 0, 1) := by decide +kernel
theorem d_La_law_391 : decode b_La_law 391 = .ok (.iload 4, 2) := by decide +kernel
theorem d_La_law_393 : decode b_La_law 393 = .ok (.iconst 1, 1) := by decide +kernel
theorem d_La_law_394 : decode b_La_law 394 = .ok (.iadd, 1) := by decide +kernel
theorem d_La_law_395 : decode b_La_law 395 = .ok (.iaload, 1) := by decide +kernel
theorem d_La_law_396 : decode b_La_law 396 = .ok (.aload_n 3, 1) := by decide +kernel
theorem d_La_law_397 : decode b_La_law 397 = .ok (.invokestatic 97, 3) := by decide +kernel
theorem d_La_law_400 : decode b_La_law 400 = .ok (.istore 5, 2) := by decide +kernel
theorem d_La_law_402 : decode b_La_law 402 = .ok (.aload_n 2, 1) := by decide +kernel
theorem d_La_law_403 : decode b_La_law 403 = .ok (.aload_n 0, 1) := by decide +kernel
theorem d_La_law_404 : decode b_La_law 404 = .ok (.iload 4, 2) := by decide +kernel
theorem d_La_law_406 : decode b_La_law 406 = .ok (.iconst 1, 1) := by decide +kernel
theorem d_La_law_407 : decode b_La_law 407 = .ok (.iadd, 1) := by decide +kernel
theorem d_La_law_408 : decode b_La_law 408 = .ok (.iaload, 1) := by decide +kernel
theorem d_La_law_409 : decode b_La_law 409 = .ok (.invokevirtual 99, 3) := by decide +kernel
theorem d_La_law_412 : decode b_La_law 412 = .ok (.istore 6, 2) := by decide +kernel
theorem d_La_law_414 : decode b_La_law 414 = .ok (.goto 356, 3) := by decide +kernel
theorem d_La_law_417 : decode b_La_law 417 = .ok (.aload_n 1, 1) := by decide +kernel
theorem d_La_law_418 : decode b_La_law 418 = .ok (.aload_n 0, 1) := by decide +kernel
theorem d_La_law_419 : decode b_La_law 419 = .ok (.iload 4, 2) := by decide +kernel
theorem d_La_law_421 : decode b_La_law 421 = .ok (.iconst 1, 1) := by decide +kernel
theorem d_La_law_422 : decode b_La_law 422 = .ok (.iadd, 1) := by decide +kernel
theorem d_La_law_423 : decode b_La_law 423 = .ok (.iaload, 1) := by decide +kernel
theorem d_La_law_424 : decode b_La_law 424 = .ok (.aload_n 0, 1) := by decide +kernel
theorem d_La_law_425 : decode b_La_law 425 = .ok (.iload 4, 2) := by decide +kernel
theorem d_La_law_427 : decode b_La_law 427 = .ok (.iconst 2, 1) := by decide +kernel
theorem d_La_law_428 : decode b_La_law 428 = .ok (.iadd, 1) := by decide +kernel
theorem d_La_law_429 : decode b_La_law 429 = .ok (.iaload, 1) := by decide +kernel
theorem d_La_law_430 : decode b_La_law 430 = .ok (.aload_n 3, 1) := by decide +kernel
theorem d_La_law_431 : decode b_La_law 431 = .ok (.invokestatic 100, 3) := by decide +kernel
theorem d_La_law_434 : decode b_La_law 434 = .ok (.istore 5, 2) := by decide +kernel
theorem d_La_law_436 : decode b_La_law 436 = .ok (.aload_n 2, 1) := by decide +kernel
theorem d_La_law_437 : decode b_La_law 437 = .ok (.aload_n 0, 1) := by decide +kernel
theorem d_La_law_438 : decode b_La_law 438 = .ok (.iload 4, 2) := by decide +kernel
theorem d_La_law_440 : decode b_La_law 440 = .ok (.iconst 1, 1) := by decide +kernel
theorem d_La_law_441 : decode b_La_law 441 = .ok (.iadd, 1) := by decide +kernel
theorem d_La_law_442 : decode b_La_law 442 = .ok (.iaload, 1) := by decide +kernel
theorem d_La_law_443 : decode b_La_law 443 = .ok (.aload_n 0, 1) := by decide +kernel
theorem d_La_law_444 : decode b_La_law 444 = .ok (.iload 4, 2) := by decide +kernel
theorem d_La_law_446 : decode b_La_law 446 = .ok (.iconst 2, 1) := by decide +kernel
theorem d_La_law_447 : decode b_La_law 447 = .ok (.iadd, 1) := by decide +kernel
theorem d_La_law_448 : decode b_La_law 448 = .ok (.iaload, 1) := by decide +kernel
theorem d_La_law_449 : decode b_La_law 449 = .ok (.invokevirtual 102, 3) := by decide +kernel
theorem d_La_law_452 : decode b_La_law 452 = .ok (.istore 6, 2) := by decide +kernel
theorem d_La_law_454 : decode b_La_law 454 = .ok (.goto 316, 3) := by decide +kernel
theorem d_La_law_457 : decode b_La_law 457 = .ok (.aload_n 1, 1) := by decide +kernel
theorem d_La_law_458 : decode b_La_law 458 = .ok (.aload_n 0, 1) := by decide +kernel
theorem d_La_law_459 : decode b_La_law 459 = .ok (.iload 4, 2) := by decide +kernel
theorem d_La_law_461 : decode b_La_law 461 = .ok (.iconst 1, 1) := by decide +kernel
theorem d_La_law_462 : decode b_La_law 462 = .ok (.iadd, 1) := by decide +kernel
theorem d_La_law_463 : decode b_La_law 463 = .ok (.iaload, 1) := by decide +kernel
theorem d_La_law_464 : decode b_La_law 464 = .ok (.aload_n 3, 1) := by decide +kernel
theorem d_La_law_465 : decode b_La_law 465 = .ok (.invokestatic 103, 3) := by decide +kernel
theorem d_La_law_468 : decode b_La_law 468 = .ok (.istore 5, 2) := by decide +kernel
theorem d_La_law_470 : decode b_La_law 470 = .ok (.aload_n 2, 1) := by decide +kernel
theorem d_La_law_471 : decode b_La_law 471 = .ok (.aload_n 0, 1) := by decide +kernel
theorem d_La_law_472 : decode b_La_law 472 = .ok (.iload 4, 2) := by decide +kernel
theorem d_La_law_474 : decode b_La_law 474 = .ok (.iconst 1, 1) := by decide +kernel
theorem d_La_law_475 : decode b_La_law 475 = .ok (.iadd, 1) := by decide +kernel
theorem d_La_law_476 : decode b_La_law 476 = .ok (.iaload, 1) := by decide +kernel
theorem d_La_law_477 : decode b_La_law 477 = .ok (.invokevirtual 105, 3) := by decide +kernel
theorem d_La_law_480 : decode b_La_law 480 = .ok (.istore 6, 2) := by decide +kernel
theorem d_La_law_482 : decode b_La_law 482 = .ok (.goto 288, 3) := by decide +kernel
theorem d_La_law_485 : decode b_La_law 485 = .ok (.aload_n 1, 1) := by decide +kernel
theorem d_La_law_486 : decode b_La_law 486 = .ok (.aload_n 0, 1) := by decide +kernel
theorem d_La_law_487 : decode b_La_law 487 = .ok (.iload 4, 2) := by decide +kernel
theorem d_La_law_489 : decode b_La_law 489 = .ok (.iconst 1, 1) := by decide +kernel
theorem d_La_law_490 : decode b_La_law 490 = .ok (.iadd, 1) := by decide +kernel
theorem d_La_law_491 : decode b_La_law 491 = .ok (.iaload, 1) := by decide +kernel
theorem d_La_law_492 : decode b_La_law 492 = .ok (.aload_n 3, 1) := by decide +kernel
theorem d_La_law_493 : decode b_La_law 493 = .ok (.invokestatic 106, 3) := by decide +kernel
theorem d_La_law_496 : decode b_La_law 496 = .ok (.istore 5, 2) := by decide +kernel
theorem d_La_law_498 : decode b_La_law 498 = .ok (.aload_n 2, 1) := by decide +kernel
theorem d_La_law_499 : decode b_La_law 499 = .ok (.aload_n 0, 1) := by decide +kernel
theorem d_La_law_500 : decode b_La_law 500 = .ok (.iload 4, 2) := by decide +kernel
theorem d_La_law_502 : decode b_La_law 502 = .ok (.iconst 1, 1) := by decide +kernel
theorem d_La_law_503 : decode b_La_law 503 = .ok (.iadd, 1) := by decide +kernel
theorem d_La_law_504 : decode b_La_law 504 = .ok (.iaload, 1) := by decide +kernel
theorem d_La_law_505 : decode b_La_law 505 = .ok (.invokevirtual 108, 3) := by decide +kernel
theorem d_La_law_508 : decode b_La_law 508 = .ok (.istore 6, 2) := by decide +kernel
theorem d_La_law_510 : decode b_La_law 510 = .ok (.goto 260, 3) := by decide +kernel
theorem d_La_law_513 : decode b_La_law 513 = .ok (.aload_n 1, 1) := by decide +kernel
theorem d_La_law_514 : decode b_La_law 514 = .ok (.aload_n 0, 1) := by decide +kernel
theorem d_La_law_515 : decode b_La_law 515 = .ok (.iload 4, 2) := by decide +kernel
theorem d_La_law_517 : decode b_La_law 517 = .ok (.iconst 1, 1) := by decide +kernel
theorem d_La_law_518 : decode b_La_law 518 = .ok (.iadd, 1) := by decide +kernel
theorem d_La_law_519 : decode b_La_law 519 = .ok (.iaload, 1) := by decide +kernel
theorem d_La_law_520 : decode b_La_law 520 = .ok (.aload_n 0, 1) := by decide +kernel
theorem d_La_law_521 : decode b_La_law 521 = .ok (.iload 4, 2) := by decide +kernel
theorem d_La_law_523 : decode b_La_law 523 = .ok (.iconst 2, 1) := by decide +kernel
theorem d_La_law_524 : decode b_La_law 524 = .ok (.iadd, 1) := by decide +kernel
theorem d_La_law_525 : decode b_La_law 525 = .ok (.iaload, 1) := by decide +kernel
theorem d_La_law_526 : decode b_La_law 526 = .ok (.aload_n 0, 1) := by decide +kernel
theorem d_La_law_527 : decode b_La_law 527 = .ok (.iload 4, 2) := by decide +kernel
theorem d_La_law_529 : decode b_La_law 529 = .ok (.iconst 3, 1) := by decide +kernel
theorem d_La_law_530 : decode b_La_law 530 = .ok (.iadd, 1) := by decide +kernel
theorem d_La_law_531 : decode b_La_law 531 = .ok (.iaload, 1) := by decide +kernel
theorem d_La_law_532 : decode b_La_law 532 = .ok (.aload_n 3, 1) := by decide +kernel
theorem d_La_law_533 : decode b_La_law 533 = .ok (.invokestatic 109, 3) := by decide +kernel
theorem d_La_law_536 : decode b_La_law 536 = .ok (.istore 5, 2) := by decide +kernel
theorem d_La_law_538 : decode b_La_law 538 = .ok (.aload_n 2, 1) := by decide +kernel
theorem d_La_law_539 : decode b_La_law 539 = .ok (.aload_n 0, 1) := by decide +kernel
theorem d_La_law_540 : decode b_La_law 540 = .ok (.iload 4, 2) := by decide +kernel
theorem d_La_law_542 : decode b_La_law 542 = .ok (.iconst 1, 1) := by decide +kernel
theorem d_La_law_543 : decode b_La_law 543 = .ok (.iadd, 1) := by decide +kernel
theorem d_La_law_544 : decode b_La_law 544 = .ok (.iaload, 1) := by decide +kernel
theorem d_La_law_545 : decode b_La_law 545 = .ok (.aload_n 0, 1) := by decide +kernel
theorem d_La_law_546 : decode b_La_law 546 = .ok (.iload 4, 2) := by decide +kernel
theorem d_La_law_548 : decode b_La_law 548 = .ok (.iconst 2, 1) := by decide +kernel
theorem d_La_law_549 : decode b_La_law 549 = .ok (.iadd, 1) := by decide +kernel
theorem d_La_law_550 : decode b_La_law 550 = .ok (.iaload, 1) := by decide +kernel
theorem d_La_law_551 : decode b_La_law 551 = .ok (.aload_n 0, 1) := by decide +kernel
theorem d_La_law_552 : decode b_La_law 552 = .ok (.iload 4, 2) := by decide +kernel
theorem d_La_law_554 : decode b_La_law 554 = .ok (.iconst 3, 1) := by decide +kernel
theorem d_La_law_555 : decode b_La_law 555 = .ok (.iadd, 1) := by decide +kernel
theorem d_La_law_556 : decode b_La_law 556 = .ok (.iaload, 1) := by decide +kernel
theorem d_La_law_557 : decode b_La_law 557 = .ok (.invokevirtual 112, 3) := by decide +kernel
theorem d_La_law_560 : decode b_La_law 560 = .ok (.istore 6, 2) := by decide +kernel
theorem d_La_law_562 : decode b_La_law 562 = .ok (.goto 208, 3) := by decide +kernel
theorem d_La_law_565 : decode b_La_law 565 = .ok (.aload_n 1, 1) := by decide +kernel
theorem d_La_law_566 : decode b_La_law 566 = .ok (.aload_n 0, 1) := by decide +kernel
theorem d_La_law_567 : decode b_La_law 567 = .ok (.iload 4, 2) := by decide +kernel
theorem d_La_law_569 : decode b_La_law 569 = .ok (.iconst 1, 1) := by decide +kernel
theorem d_La_law_570 : decode b_La_law 570 = .ok (.iadd, 1) := by decide +kernel
theorem d_La_law_571 : decode b_La_law 571 = .ok (.iaload, 1) := by decide +kernel
theorem d_La_law_572 : decode b_La_law 572 = .ok (.aload_n 0, 1) := by decide +kernel
theorem d_La_law_573 : decode b_La_law 573 = .ok (.iload 4, 2) := by decide +kernel
theorem d_La_law_575 : decode b_La_law 575 = .ok (.iconst 2, 1) := by decide +kernel
theorem d_La_law_576 : decode b_La_law 576 = .ok (.iadd, 1) := by decide +kernel
theorem d_La_law_577 : decode b_La_law 577 = .ok (.iaload, 1) := by decide +kernel
theorem d_La_law_578 : decode b_La_law 578 = .ok (.aload_n 0, 1) := by decide +kernel
theorem d_La_law_579 : decode b_La_law 579 = .ok (.iload 4, 2) := by decide +kernel
theorem d_La_law_581 : decode b_La_law 581 = .ok (.iconst 3, 1) := by decide +kernel
theorem d_La_law_582 : decode b_La_law 582 = .ok (.iadd, 1) := by decide +kernel
theorem d_La_law_583 : decode b_La_law 583 = .ok (.iaload, 1) := by decide +kernel
theorem d_La_law_584 : decode b_La_law 584 = .ok (.aload_n 3, 1) := by decide +kernel
theorem d_La_law_585 : decode b_La_law 585 = .ok (.invokestatic 113, 3) := by decide +kernel
theorem d_La_law_588 : decode b_La_law 588 = .ok (.istore 5, 2) := by decide +kernel
theorem d_La_law_590 : decode b_La_law 590 = .ok (.aload_n 2, 1) := by decide +kernel
theorem d_La_law_591 : decode b_La_law 591 = .ok (.aload_n 0, 1) := by decide +kernel
theorem d_La_law_592 : decode b_La_law 592 = .ok (.iload 4, 2) := by decide +kernel
theorem d_La_law_594 : decode b_La_law 594 = .ok (.iconst 1, 1) := by decide +kernel
theorem d_La_law_595 : decode b_La_law 595 = .ok (.iadd, 1) := by decide +kernel
theorem d_La_law_596 : decode b_La_law 596 = .ok (.iaload, 1) := by decide +kernel
theorem d_La_law_597 : decode b_La_law 597 = .ok (.aload_n 0, 1) := by decide +kernel
theorem d_La_law_598 : decode b_La_law 598 = .ok (.iload 4, 2) := by decide +kernel
theorem d_La_law_600 : decode b_La_law 600 = .ok (.iconst 2, 1) := by decide +kernel
theorem d_La_law_601 : decode b_La_law 601 = .ok (.iadd, 1) := by decide +kernel
theorem d_La_law_602 : decode b_La_law 602 = .ok (.iaload, 1) := by decide +kernel
theorem d_La_law_603 : decode b_La_law 603 = .ok (.aload_n 0, 1) := by decide +kernel
theorem d_La_law_604 : decode b_La_law 604 = .ok (.iload 4, 2) := by decide +kernel
theorem d_La_law_606 : decode b_La_law 606 = .ok (.iconst 3, 1) := by decide +kernel
theorem d_La_law_607 : decode b_La_law 607 = .ok (.iadd, 1) := by decide +kernel
theorem d_La_law_608 : decode b_La_law 608 = .ok (.iaload, 1) := by decide +kernel
theorem d_La_law_609 : decode b_La_law 609 = .ok (.invokevirtual 115, 3) := by decide +kernel
theorem d_La_law_612 : decode b_La_law 612 = .ok (.istore 6, 2) := by decide +kernel
theorem d_La_law_614 : decode b_La_law 614 = .ok (.goto 156, 3) := by decide +kernel
theorem d_La_law_617 : decode b_La_law 617 = .ok (.aload_n 1, 1) := by decide +kernel
theorem d_La_law_618 : decode b_La_law 618 = .ok (.aload_n 0, 1) := by decide +kernel
theorem d_La_law_619 : decode b_La_law 619 = .ok (.iload 4, 2) := by decide +kernel
theorem d_La_law_621 : decode b_La_law 621 = .ok (.iconst 1, 1) := by decide +kernel
theorem d_La_law_622 : decode b_La_law 622 = .ok (.iadd, 1) := by decide +kernel
theorem d_La_law_623 : decode b_La_law 623 = .ok (.iaload, 1) := by decide +kernel
theorem d_La_law_624 : decode b_La_law 624 = .ok (.aload_n 0, 1) := by decide +kernel
theorem d_La_law_625 : decode b_La_law 625 = .ok (.iload 4, 2) := by decide +kernel
theorem d_La_law_627 : decode b_La_law 627 = .ok (.iconst 2, 1) := by decide +kernel
theorem d_La_law_628 : decode b_La_law 628 = .ok (.iadd, 1) := by decide +kernel
theorem d_La_law_629 : decode b_La_law 629 = .ok (.iaload, 1) := by decide +kernel
theorem d_La_law_630 : decode b_La_law 630 = .ok (.aload_n 0, 1) := by decide +kernel
theorem d_La_law_631 : decode b_La_law 631 = .ok (.iload 4, 2) := by decide +kernel
theorem d_La_law_633 : decode b_La_law 633 = .ok (.iconst 3, 1) := by decide +kernel
theorem d_La_law_634 : decode b_La_law 634 = .ok (.iadd, 1) := by decide +kernel
theorem d_La_law_635 : decode b_La_law 635 = .ok (.iaload, 1) := by decide +kernel
theorem d_La_law_636 : decode b_La_law 636 = .ok (.aload_n 0, 1) := by decide +kernel
theorem d_La_law_637 : decode b_La_law 637 = .ok (.iload 4, 2) := by decide +kernel
theorem d_La_law_639 : decode b_La_law 639 = .ok (.iconst 4, 1) := by decide +kernel
theorem d_La_law_640 : decode b_La_law 640 = .ok (.iadd, 1) := by decide +kernel
theorem d_La_law_641 : decode b_La_law 641 = .ok (.iaload, 1) := by decide +kernel
theorem d_La_law_642 : decode b_La_law 642 = .ok (.aload_n 3, 1) := by decide +kernel
theorem d_La_law_643 : decode b_La_law 643 = .ok (.invokestatic 116, 3) := by decide +kernel
theorem d_La_law_646 : decode b_La_law 646 = .ok (.istore 5, 2) := by decide +kernel
theorem d_La_law_648 : decode b_La_law 648 = .ok (.aload_n 2, 1) := by decide +kernel
theorem d_La_law_649 : decode b_La_law 649 = .ok (.aload_n 0, 1) := by decide +kernel
theorem d_La_law_650 : decode b_La_law 650 = .ok (.iload 4, 2) := by decide +kernel
theorem d_La_law_652 : decode b_La_law 652 = .ok (.iconst 1, 1) := by decide +kernel
theorem d_La_law_653 : decode b_La_law 653 = .ok (.iadd, 1) := by decide +kernel
theorem d_La_law_654 : decode b_La_law 654 = .ok (.iaload, 1) := by decide +kernel
theorem d_La_law_655 : decode b_La_law 655 = .ok (.aload_n 0, 1) := by decide +kernel
theorem d_La_law_656 : decode b_La_law 656 = .ok (.iload 4, 2) := by decide +kernel
theorem d_La_law_658 : decode b_La_law 658 = .ok (.iconst 2, 1) := by decide +kernel
theorem d_La_law_659 : decode b_La_law 659 = .ok (.iadd, 1) := by decide +kernel
theorem d_La_law_660 : decode b_La_law 660 = .ok (.iaload, 1) := by decide +kernel
theorem d_La_law_661 : decode b_La_law 661 = .ok (.aload_n 0, 1) := by decide +kernel
theorem d_La_law_662 : decode b_La_law 662 = .ok (.iload 4, 2) := by decide +kernel
theorem d_La_law_664 : decode b_La_law 664 = .ok (.iconst 3, 1) := by decide +kernel
theorem d_La_law_665 : decode b_La_law 665 = .ok (.iadd, 1) := by decide +kernel
theorem d_La_law_666 : decode b_La_law 666 = .ok (.iaload, 1) := by decide +kernel
theorem d_La_law_667 : decode b_La_law 667 = .ok (.aload_n 0, 1) := by decide +kernel
theorem d_La_law_668 : decode b_La_law 668 = .ok (.iload 4, 2) := by decide +kernel
theorem d_La_law_670 : decode b_La_law 670 = .ok (.iconst 4, 1) := by decide +kernel
theorem d_La_law_671 : decode b_La_law 671 = .ok (.iadd, 1) := by decide +kernel
theorem d_La_law_672 : decode b_La_law 672 = .ok (.iaload, 1) := by decide +kernel
theorem d_La_law_673 : decode b_La_law 673 = .ok (.invokevirtual 118, 3) := by decide +kernel
theorem d_La_law_676 : decode b_La_law 676 = .ok (.istore 6, 2) := by decide +kernel
theorem d_La_law_678 : decode b_La_law 678 = .ok (.goto 92, 3) := by decide +kernel
theorem d_La_law_681 : decode b_La_law 681 = .ok (.aload_n 1, 1) := by decide +kernel
theorem d_La_law_682 : decode b_La_law 682 = .ok (.aload_n 0, 1) := by decide +kernel
theorem d_La_law_683 : decode b_La_law 683 = .ok (.iload 4, 2) := by decide +kernel
theorem d_La_law_685 : decode b_La_law 685 = .ok (.iconst 1, 1) := by decide +kernel
theorem d_La_law_686 : decode b_La_law 686 = .ok (.iadd, 1) := by decide +kernel
theorem d_La_law_687 : decode b_La_law 687 = .ok (.iaload, 1) := by decide +kernel
theorem d_La_law_688 : decode b_La_law 688 = .ok (.aload_n 0, 1) := by decide +kernel
theorem d_La_law_689 : decode b_La_law 689 = .ok (.iload 4, 2) := by decide +kernel
theorem d_La_law_691 : decode b_La_law 691 = .ok (.iconst 2, 1) := by decide +kernel
theorem d_La_law_692 : decode b_La_law 692 = .ok (.iadd, 1) := by decide +kernel
theorem d_La_law_693 : decode b_La_law 693 = .ok (.iaload, 1) := by decide +kernel
theorem d_La_law_694 : decode b_La_law 694 = .ok (.aload_n 0, 1) := by decide +kernel
theorem d_La_law_695 : decode b_La_law 695 = .ok (.iload 4, 2) := by decide +kernel
theorem d_La_law_697 : decode b_La_law 697 = .ok (.iconst 3, 1) := by decide +kernel
theorem d_La_law_698 : decode b_La_law 698 = .ok (.iadd, 1) := by decide +kernel
theorem d_La_law_699 : decode b_La_law 699 = .ok (.iaload, 1) := by decide +kernel
theorem d_La_law_700 : decode b_La_law 700 = .ok (.aload_n 0, 1) := by decide +kernel
theorem d_La_law_701 : decode b_La_law 701 = .ok (.iload 4, 2) := by decide +kernel
theorem d_La_law_703 : decode b_La_law 703 = .ok (.iconst 4, 1) := by decide +kernel
theorem d_La_law_704 : decode b_La_law 704 = .ok (.iadd, 1) := by decide +kernel
theorem d_La_law_705 : decode b_La_law 705 = .ok (.iaload, 1) := by decide +kernel
theorem d_La_law_706 : decode b_La_law 706 = .ok (.aload_n 3, 1) := by decide +kernel
theorem d_La_law_707 : decode b_La_law 707 = .ok (.invokestatic 119, 3) := by decide +kernel
theorem d_La_law_710 : decode b_La_law 710 = .ok (.istore 5, 2) := by decide +kernel
theorem d_La_law_712 : decode b_La_law 712 = .ok (.aload_n 2, 1) := by decide +kernel
theorem d_La_law_713 : decode b_La_law 713 = .ok (.aload_n 0, 1) := by decide +kernel
theorem d_La_law_714 : decode b_La_law 714 = .ok (.iload 4, 2) := by decide +kernel
theorem d_La_law_716 : decode b_La_law 716 = .ok (.iconst 1, 1) := by decide +kernel
theorem d_La_law_717 : decode b_La_law 717 = .ok (.iadd, 1) := by decide +kernel
theorem d_La_law_718 : decode b_La_law 718 = .ok (.iaload, 1) := by decide +kernel
theorem d_La_law_719 : decode b_La_law 719 = .ok (.aload_n 0, 1) := by decide +kernel
theorem d_La_law_720 : decode b_La_law 720 = .ok (.iload 4, 2) := by decide +kernel
theorem d_La_law_722 : decode b_La_law 722 = .ok (.iconst 2, 1) := by decide +kernel
theorem d_La_law_723 : decode b_La_law 723 = .ok (.iadd, 1) := by decide +kernel
theorem d_La_law_724 : decode b_La_law 724 = .ok (.iaload, 1) := by decide +kernel
theorem d_La_law_725 : decode b_La_law 725 = .ok (.aload_n 0, 1) := by decide +kernel
theorem d_La_law_726 : decode b_La_law 726 = .ok (.iload 4, 2) := by decide +kernel
theorem d_La_law_728 : decode b_La_law 728 = .ok (.iconst 3, 1) := by decide +kernel
theorem d_La_law_729 : decode b_La_law 729 = .ok (.iadd, 1) := by decide +kernel
theorem d_La_law_730 : decode b_La_law 730 = .ok (.iaload, 1) := by decide +kernel
theorem d_La_law_731 : decode b_La_law 731 = .ok (.aload_n 0, 1) := by decide +kernel
theorem d_La_law_732 : decode b_La_law 732 = .ok (.iload 4, 2) := by decide +kernel
theorem d_La_law_734 : decode b_La_law 734 = .ok (.iconst 4, 1) := by decide +kernel
theorem d_La_law_735 : decode b_La_law 735 = .ok (.iadd, 1) := by decide +kernel
theorem d_La_law_736 : decode b_La_law 736 = .ok (.iaload, 1) := by decide +kernel
theorem d_La_law_737 : decode b_La_law 737 = .ok (.invokevirtual 121, 3) := by decide +kernel
theorem d_La_law_740 : decode b_La_law 740 = .ok (.istore 6, 2) := by decide +kernel
theorem d_La_law_742 : decode b_La_law 742 = .ok (.goto 28, 3) := by decide +kernel
theorem d_La_law_745 : decode b_La_law 745 = .ok (.aload_n 1, 1) := by decide +kernel
theorem d_La_law_746 : decode b_La_law 746 = .ok (.aload_n 0, 1) := by decide +kernel
theorem d_La_law_747 : decode b_La_law 747 = .ok (.iload 4, 2) := by decide +kernel
theorem d_La_law_749 : decode b_La_law 749 = .ok (.iconst 1, 1) := by decide +kernel
theorem d_La_law_750 : decode b_La_law 750 = .ok (.iadd, 1) := by decide +kernel
theorem d_La_law_751 : decode b_La_law 751 = .ok (.iaload, 1) := by decide +kernel
theorem d_La_law_752 : decode b_La_law 752 = .ok (.invokevirtual 122, 3) := by decide +kernel
theorem d_La_law_755 : decode b_La_law 755 = .ok (.aload_n 2, 1) := by decide +kernel
theorem d_La_law_756 : decode b_La_law 756 = .ok (.aload_n 0, 1) := by decide +kernel
theorem d_La_law_757 : decode b_La_law 757 = .ok (.iload 4, 2) := by decide +kernel
theorem d_La_law_759 : decode b_La_law 759 = .ok (.iconst 1, 1) := by decide +kernel
theorem d_La_law_760 : decode b_La_law 760 = .ok (.iadd, 1) := by decide +kernel
theorem d_La_law_761 : decode b_La_law 761 = .ok (.iaload, 1) := by decide +kernel
theorem d_La_law_762 : decode b_La_law 762 = .ok (.invokevirtual 125, 3) := by decide +kernel
theorem d_La_law_765 : decode b_La_law 765 = .ok (.if_icmp .eq 5, 3) := by decide +kernel
theorem d_La_law_768 : decode b_La_law 768 = .ok (.iconst 0, 1) := by decide +kernel
theorem d_La_law_769 : decode b_La_law 769 = .ok (.ireturn, 1) := by decide +kernel
theorem d_La_law_770 : decode b_La_law 770 = .ok (.iinc 4 6, 3) := by decide +kernel
theorem d_La_law_773 : decode b_La_law 773 = .ok (.goto (-750), 3) := by decide +kernel
theorem d_La_law_776 : decode b_La_law 776 = .ok (.iconst 1, 1) := by decide +kernel
theorem d_La_law_777 : decode b_La_law 777 = .ok (.ireturn, 1) := by decide +kernel
/-- how the law goes on behind its n-th call -/
def lw_K (l : Launch) (p : Program) (e : Env) (s : State) (m : MethodId) (below : List Frame) (meth : Method) (c : Code) (b : Nat) (D9 : va_G) (cB cI cJ cG : ClassId) (a : Nat → Nat) (n : Nat) : Prop :=
  ∀ (I : Nat → Int32) (F : Nat → Nat → Int32) (O : Nat → Int64) (A : Ab) (H : Heap) (locs : List Loc) (ls : Array Slot), CS I F A → RS I F A → PS A → va_P D9 cls9 (WW a cB cI cJ cG I F O) H → va_D (fun q : Nat => s.heap.size ≤ q) (WW a cB cI cJ cG I F O) → va_S (fun q : Nat => s.heap.size ≤ q) s.heap H locs → lv_has ls 7 [(4, .int (nI (6 * n))), (3, .ref (a 48)), (2, .ref (a 33)), (1, .ref (a 0)), (0, .ref b)] →
    W p l e room_1 s m #[Value.ref b] below meth c H locs (49 + n + 1) (670223 + 6 * n + 6) (lw_Z below #[Value.ref b] s) (F0 m 770 ls [])
theorem g_0 : (Cond.initialized "WireMessagesLaw") ∈ GT := gt_mem 0 (by decide +kernel) rfl
theorem g_244 : (Cond.methodLink "WireMessagesLaw" (75 : Nat) ({ cls := "WireMessages", name := "read", desc := "()I" } : MethodName)) ∈ GT := gt_mem 244 (by decide +kernel) rfl
theorem g_245 : (Cond.instanceMethod ({ cls := "WireMessages", name := "read", desc := "()I" } : MethodName)) ∈ GT := gt_mem 245 (by decide +kernel) rfl
theorem g_246 : (Cond.selects "WireMessages" ({ cls := "WireMessages", name := "read", desc := "()I" } : MethodName) ({ cls := "WireMessages", name := "read", desc := "()I" } : MethodName)) ∈ GT := gt_mem 246 (by decide +kernel) rfl
theorem g_247 : (Cond.code ({ cls := "WireMessages", name := "read", desc := "()I" } : MethodName) prog_1_method_4_code (2 : Nat) (Option.some FieldType.int)) ∈ GT := gt_mem 247 (by decide +kernel) rfl
theorem g_361 : (Cond.methodLink "WireMessagesLaw" (80 : Nat) ({ cls := "WireMessages", name := "faultAt", desc := "()I" } : MethodName)) ∈ GT := gt_mem 361 (by decide +kernel) rfl
theorem g_362 : (Cond.instanceMethod ({ cls := "WireMessages", name := "faultAt", desc := "()I" } : MethodName)) ∈ GT := gt_mem 362 (by decide +kernel) rfl
theorem g_363 : (Cond.selects "WireMessages" ({ cls := "WireMessages", name := "faultAt", desc := "()I" } : MethodName) ({ cls := "WireMessages", name := "faultAt", desc := "()I" } : MethodName)) ∈ GT := gt_mem 363 (by decide +kernel) rfl
theorem g_364 : (Cond.code ({ cls := "WireMessages", name := "faultAt", desc := "()I" } : MethodName) prog_1_method_5_code (1 : Nat) (Option.some FieldType.int)) ∈ GT := gt_mem 364 (by decide +kernel) rfl
theorem g_365 : (Cond.methodLink "WireMessagesLaw" (84 : Nat) ({ cls := "WireMessages", name := "begin", desc := "(II)V" } : MethodName)) ∈ GT := gt_mem 365 (by decide +kernel) rfl
theorem g_366 : (Cond.instanceMethod ({ cls := "WireMessages", name := "begin", desc := "(II)V" } : MethodName)) ∈ GT := gt_mem 366 (by decide +kernel) rfl
theorem g_367 : (Cond.selects "WireMessages" ({ cls := "WireMessages", name := "begin", desc := "(II)V" } : MethodName) ({ cls := "WireMessages", name := "begin", desc := "(II)V" } : MethodName)) ∈ GT := gt_mem 367 (by decide +kernel) rfl
theorem g_368 : (Cond.code ({ cls := "WireMessages", name := "begin", desc := "(II)V" } : MethodName) prog_1_method_6_code (3 : Nat) (Option.none : Option FieldType)) ∈ GT := gt_mem 368 (by decide +kernel) rfl
theorem g_371 : (Cond.methodLink "WireMessagesLaw" (122 : Nat) ({ cls := "WireMessages", name := "count", desc := "(I)I" } : MethodName)) ∈ GT := gt_mem 371 (by decide +kernel) rfl
theorem g_372 : (Cond.instanceMethod ({ cls := "WireMessages", name := "count", desc := "(I)I" } : MethodName)) ∈ GT := gt_mem 372 (by decide +kernel) rfl
theorem g_373 : (Cond.selects "WireMessages" ({ cls := "WireMessages", name := "count", desc := "(I)I" } : MethodName) ({ cls := "WireMessages", name := "count", desc := "(I)I" } : MethodName)) ∈ GT := gt_mem 373 (by decide +kernel) rfl
theorem g_374 : (Cond.code ({ cls := "WireMessages", name := "count", desc := "(I)I" } : MethodName) prog_1_method_17_code (2 : Nat) (Option.some FieldType.int)) ∈ GT := gt_mem 374 (by decide +kernel) rfl
theorem g_375 : (Cond.methodLink "WireMessagesLaw" (65 : Nat) ({ cls := "WireMessagesLaw", name := "feed", desc := "(LWireMessages;IIIII[J)I" } : MethodName)) ∈ GT := gt_mem 375 (by decide +kernel) rfl
theorem g_376 : (Cond.static ({ cls := "WireMessagesLaw", name := "feed", desc := "(LWireMessages;IIIII[J)I" } : MethodName)) ∈ GT := gt_mem 376 (by decide +kernel) rfl
theorem g_377 : (Cond.codeWith ({ cls := "WireMessagesLaw", name := "feed", desc := "(LWireMessages;IIIII[J)I" } : MethodName) method_3_code (8 : Nat) (Option.some FieldType.int) [((0 : Nat), (16 : Nat), (19 : Nat), (13 : Nat))]) ∈ GT := gt_mem 377 (by decide +kernel) rfl
theorem g_458 : (Cond.methodLink "WireMessagesLaw" (71 : Nat) ({ cls := "WireMessagesLaw", name := "end", desc := "(LWireMessages;I[J)I" } : MethodName)) ∈ GT := gt_mem 458 (by decide +kernel) rfl
theorem g_459 : (Cond.static ({ cls := "WireMessagesLaw", name := "end", desc := "(LWireMessages;I[J)I" } : MethodName)) ∈ GT := gt_mem 459 (by decide +kernel) rfl
theorem g_460 : (Cond.codeWith ({ cls := "WireMessagesLaw", name := "end", desc := "(LWireMessages;I[J)I" } : MethodName) method_4_code (4 : Nat) (Option.some FieldType.int) [((0 : Nat), (9 : Nat), (12 : Nat), (19 : Nat))]) ∈ GT := gt_mem 460 (by decide +kernel) rfl
theorem g_481 : (Cond.methodLink "WireMessagesLaw" (89 : Nat) ({ cls := "WireMessagesLaw", name := "question", desc := "(LWireMessages;II[J)I" } : MethodName)) ∈ GT := gt_mem 481 (by decide +kernel) rfl
theorem g_482 : (Cond.static ({ cls := "WireMessagesLaw", name := "question", desc := "(LWireMessages;II[J)I" } : MethodName)) ∈ GT := gt_mem 482 (by decide +kernel) rfl
theorem g_483 : (Cond.codeWith ({ cls := "WireMessagesLaw", name := "question", desc := "(LWireMessages;II[J)I" } : MethodName) method_5_code (5 : Nat) (Option.some FieldType.int) [((0 : Nat), (10 : Nat), (13 : Nat), (19 : Nat)), ((0 : Nat), (10 : Nat), (17 : Nat), (13 : Nat))]) ∈ GT := gt_mem 483 (by decide +kernel) rfl
theorem g_497 : (Cond.methodLink "WireMessagesLaw" (93 : Nat) ({ cls := "WireMessagesLaw", name := "record", desc := "(LWireMessages;IIII[J)I" } : MethodName)) ∈ GT := gt_mem 497 (by decide +kernel) rfl
theorem g_498 : (Cond.static ({ cls := "WireMessagesLaw", name := "record", desc := "(LWireMessages;IIII[J)I" } : MethodName)) ∈ GT := gt_mem 498 (by decide +kernel) rfl
theorem g_499 : (Cond.codeWith ({ cls := "WireMessagesLaw", name := "record", desc := "(LWireMessages;IIII[J)I" } : MethodName) method_6_code (7 : Nat) (Option.some FieldType.int) [((0 : Nat), (14 : Nat), (17 : Nat), (29 : Nat)), ((0 : Nat), (14 : Nat), (21 : Nat), (19 : Nat)), ((0 : Nat), (14 : Nat), (25 : Nat), (13 : Nat))]) ∈ GT := gt_mem 499 (by decide +kernel) rfl
theorem g_524 : (Cond.methodLink "WireMessagesLaw" (97 : Nat) ({ cls := "WireMessagesLaw", name := "write", desc := "(LWireMessages;I[J)I" } : MethodName)) ∈ GT := gt_mem 524 (by decide +kernel) rfl
theorem g_525 : (Cond.static ({ cls := "WireMessagesLaw", name := "write", desc := "(LWireMessages;I[J)I" } : MethodName)) ∈ GT := gt_mem 525 (by decide +kernel) rfl
theorem g_526 : (Cond.codeWith ({ cls := "WireMessagesLaw", name := "write", desc := "(LWireMessages;I[J)I" } : MethodName) method_7_code (4 : Nat) (Option.some FieldType.int) [((0 : Nat), (9 : Nat), (12 : Nat), (19 : Nat)), ((0 : Nat), (9 : Nat), (15 : Nat), (34 : Nat))]) ∈ GT := gt_mem 526 (by decide +kernel) rfl
theorem g_620 : (Cond.methodLink "WireMessagesLaw" (100 : Nat) ({ cls := "WireMessagesLaw", name := "back", desc := "(LWireMessages;II[J)I" } : MethodName)) ∈ GT := gt_mem 620 (by decide +kernel) rfl
theorem g_621 : (Cond.static ({ cls := "WireMessagesLaw", name := "back", desc := "(LWireMessages;II[J)I" } : MethodName)) ∈ GT := gt_mem 621 (by decide +kernel) rfl
theorem g_622 : (Cond.codeWith ({ cls := "WireMessagesLaw", name := "back", desc := "(LWireMessages;II[J)I" } : MethodName) method_8_code (5 : Nat) (Option.some FieldType.int) [((0 : Nat), (10 : Nat), (13 : Nat), (39 : Nat))]) ∈ GT := gt_mem 622 (by decide +kernel) rfl
theorem g_646 : (Cond.methodLink "WireMessagesLaw" (103 : Nat) ({ cls := "WireMessagesLaw", name := "written", desc := "(LWireMessages;I[J)I" } : MethodName)) ∈ GT := gt_mem 646 (by decide +kernel) rfl
theorem g_647 : (Cond.static ({ cls := "WireMessagesLaw", name := "written", desc := "(LWireMessages;I[J)I" } : MethodName)) ∈ GT := gt_mem 647 (by decide +kernel) rfl
theorem g_648 : (Cond.codeWith ({ cls := "WireMessagesLaw", name := "written", desc := "(LWireMessages;I[J)I" } : MethodName) method_9_code (4 : Nat) (Option.some FieldType.int) [((0 : Nat), (9 : Nat), (12 : Nat), (39 : Nat))]) ∈ GT := gt_mem 648 (by decide +kernel) rfl
theorem g_653 : (Cond.methodLink "WireMessagesLaw" (106 : Nat) ({ cls := "WireMessagesLaw", name := "header", desc := "(LWireMessages;I[J)I" } : MethodName)) ∈ GT := gt_mem 653 (by decide +kernel) rfl
theorem g_654 : (Cond.static ({ cls := "WireMessagesLaw", name := "header", desc := "(LWireMessages;I[J)I" } : MethodName)) ∈ GT := gt_mem 654 (by decide +kernel) rfl
theorem g_655 : (Cond.codeWith ({ cls := "WireMessagesLaw", name := "header", desc := "(LWireMessages;I[J)I" } : MethodName) method_10_code (4 : Nat) (Option.some FieldType.int) [((0 : Nat), (9 : Nat), (12 : Nat), (19 : Nat))]) ∈ GT := gt_mem 655 (by decide +kernel) rfl
theorem g_660 : (Cond.methodLink "WireMessagesLaw" (109 : Nat) ({ cls := "WireMessagesLaw", name := "told", desc := "(LWireMessages;III[J)I" } : MethodName)) ∈ GT := gt_mem 660 (by decide +kernel) rfl
theorem g_661 : (Cond.static ({ cls := "WireMessagesLaw", name := "told", desc := "(LWireMessages;III[J)I" } : MethodName)) ∈ GT := gt_mem 661 (by decide +kernel) rfl
theorem g_662 : (Cond.codeWith ({ cls := "WireMessagesLaw", name := "told", desc := "(LWireMessages;III[J)I" } : MethodName) method_11_code (6 : Nat) (Option.some FieldType.int) [((0 : Nat), (12 : Nat), (15 : Nat), (29 : Nat)), ((0 : Nat), (12 : Nat), (19 : Nat), (19 : Nat))]) ∈ GT := gt_mem 662 (by decide +kernel) rfl
theorem g_675 : (Cond.methodLink "WireMessagesLaw" (113 : Nat) ({ cls := "WireMessagesLaw", name := "byteOf", desc := "(LWireMessages;III[J)I" } : MethodName)) ∈ GT := gt_mem 675 (by decide +kernel) rfl
theorem g_676 : (Cond.static ({ cls := "WireMessagesLaw", name := "byteOf", desc := "(LWireMessages;III[J)I" } : MethodName)) ∈ GT := gt_mem 676 (by decide +kernel) rfl
theorem g_677 : (Cond.codeWith ({ cls := "WireMessagesLaw", name := "byteOf", desc := "(LWireMessages;III[J)I" } : MethodName) method_12_code (6 : Nat) (Option.some FieldType.int) [((0 : Nat), (12 : Nat), (15 : Nat), (29 : Nat)), ((0 : Nat), (12 : Nat), (19 : Nat), (39 : Nat))]) ∈ GT := gt_mem 677 (by decide +kernel) rfl
theorem g_682 : (Cond.methodLink "WireMessagesLaw" (116 : Nat) ({ cls := "WireMessagesLaw", name := "same", desc := "(LWireMessages;IIII[J)I" } : MethodName)) ∈ GT := gt_mem 682 (by decide +kernel) rfl
theorem g_683 : (Cond.static ({ cls := "WireMessagesLaw", name := "same", desc := "(LWireMessages;IIII[J)I" } : MethodName)) ∈ GT := gt_mem 683 (by decide +kernel) rfl
theorem g_684 : (Cond.codeWith ({ cls := "WireMessagesLaw", name := "same", desc := "(LWireMessages;IIII[J)I" } : MethodName) method_13_code (7 : Nat) (Option.some FieldType.int) [((0 : Nat), (21 : Nat), (24 : Nat), (29 : Nat))]) ∈ GT := gt_mem 684 (by decide +kernel) rfl
theorem g_705 : (Cond.methodLink "WireMessagesLaw" (119 : Nat) ({ cls := "WireMessagesLaw", name := "order", desc := "(LWireMessages;IIII[J)I" } : MethodName)) ∈ GT := gt_mem 705 (by decide +kernel) rfl
theorem g_706 : (Cond.static ({ cls := "WireMessagesLaw", name := "order", desc := "(LWireMessages;IIII[J)I" } : MethodName)) ∈ GT := gt_mem 706 (by decide +kernel) rfl
theorem g_707 : (Cond.codeWith ({ cls := "WireMessagesLaw", name := "order", desc := "(LWireMessages;IIII[J)I" } : MethodName) method_14_code (7 : Nat) (Option.some FieldType.int) [((0 : Nat), (14 : Nat), (17 : Nat), (29 : Nat))]) ∈ GT := gt_mem 707 (by decide +kernel) rfl
theorem g_813 : (Cond.methodLink "WireMessagesLaw" (79 : Nat) ({ cls := "WireMessagesModel", name := "read", desc := "()I" } : MethodName)) ∈ GT := gt_mem 813 (by decide +kernel) rfl
theorem g_814 : (Cond.instanceMethod ({ cls := "WireMessagesModel", name := "read", desc := "()I" } : MethodName)) ∈ GT := gt_mem 814 (by decide +kernel) rfl
theorem g_815 : (Cond.selects "WireMessagesModel" ({ cls := "WireMessagesModel", name := "read", desc := "()I" } : MethodName) ({ cls := "WireMessagesModel", name := "read", desc := "()I" } : MethodName)) ∈ GT := gt_mem 815 (by decide +kernel) rfl
theorem g_816 : (Cond.code ({ cls := "WireMessagesModel", name := "read", desc := "()I" } : MethodName) prog_10_method_16_code (4 : Nat) (Option.some FieldType.int)) ∈ GT := gt_mem 816 (by decide +kernel) rfl
theorem g_861 : (Cond.methodLink "WireMessagesLaw" (83 : Nat) ({ cls := "WireMessagesModel", name := "faultAt", desc := "()I" } : MethodName)) ∈ GT := gt_mem 861 (by decide +kernel) rfl
theorem g_862 : (Cond.instanceMethod ({ cls := "WireMessagesModel", name := "faultAt", desc := "()I" } : MethodName)) ∈ GT := gt_mem 862 (by decide +kernel) rfl
theorem g_863 : (Cond.selects "WireMessagesModel" ({ cls := "WireMessagesModel", name := "faultAt", desc := "()I" } : MethodName) ({ cls := "WireMessagesModel", name := "faultAt", desc := "()I" } : MethodName)) ∈ GT := gt_mem 863 (by decide +kernel) rfl
theorem g_864 : (Cond.code ({ cls := "WireMessagesModel", name := "faultAt", desc := "()I" } : MethodName) prog_10_method_17_code (1 : Nat) (Option.some FieldType.int)) ∈ GT := gt_mem 864 (by decide +kernel) rfl
theorem g_865 : (Cond.methodLink "WireMessagesLaw" (70 : Nat) ({ cls := "WireMessagesModel", name := "feed", desc := "(IIIII)I" } : MethodName)) ∈ GT := gt_mem 865 (by decide +kernel) rfl
theorem g_866 : (Cond.instanceMethod ({ cls := "WireMessagesModel", name := "feed", desc := "(IIIII)I" } : MethodName)) ∈ GT := gt_mem 866 (by decide +kernel) rfl
theorem g_867 : (Cond.selects "WireMessagesModel" ({ cls := "WireMessagesModel", name := "feed", desc := "(IIIII)I" } : MethodName) ({ cls := "WireMessagesModel", name := "feed", desc := "(IIIII)I" } : MethodName)) ∈ GT := gt_mem 867 (by decide +kernel) rfl
theorem g_868 : (Cond.code ({ cls := "WireMessagesModel", name := "feed", desc := "(IIIII)I" } : MethodName) prog_10_method_18_code (8 : Nat) (Option.some FieldType.int)) ∈ GT := gt_mem 868 (by decide +kernel) rfl
theorem g_874 : (Cond.methodLink "WireMessagesLaw" (74 : Nat) ({ cls := "WireMessagesModel", name := "end", desc := "(I)I" } : MethodName)) ∈ GT := gt_mem 874 (by decide +kernel) rfl
theorem g_875 : (Cond.instanceMethod ({ cls := "WireMessagesModel", name := "end", desc := "(I)I" } : MethodName)) ∈ GT := gt_mem 875 (by decide +kernel) rfl
theorem g_876 : (Cond.selects "WireMessagesModel" ({ cls := "WireMessagesModel", name := "end", desc := "(I)I" } : MethodName) ({ cls := "WireMessagesModel", name := "end", desc := "(I)I" } : MethodName)) ∈ GT := gt_mem 876 (by decide +kernel) rfl
theorem g_877 : (Cond.code ({ cls := "WireMessagesModel", name := "end", desc := "(I)I" } : MethodName) prog_10_method_19_code (2 : Nat) (Option.some FieldType.int)) ∈ GT := gt_mem 877 (by decide +kernel) rfl
theorem g_878 : (Cond.methodLink "WireMessagesLaw" (88 : Nat) ({ cls := "WireMessagesModel", name := "begin", desc := "(II)V" } : MethodName)) ∈ GT := gt_mem 878 (by decide +kernel) rfl
theorem g_879 : (Cond.instanceMethod ({ cls := "WireMessagesModel", name := "begin", desc := "(II)V" } : MethodName)) ∈ GT := gt_mem 879 (by decide +kernel) rfl
theorem g_880 : (Cond.selects "WireMessagesModel" ({ cls := "WireMessagesModel", name := "begin", desc := "(II)V" } : MethodName) ({ cls := "WireMessagesModel", name := "begin", desc := "(II)V" } : MethodName)) ∈ GT := gt_mem 880 (by decide +kernel) rfl
theorem g_881 : (Cond.code ({ cls := "WireMessagesModel", name := "begin", desc := "(II)V" } : MethodName) prog_10_method_20_code (3 : Nat) (Option.none : Option FieldType)) ∈ GT := gt_mem 881 (by decide +kernel) rfl
theorem g_883 : (Cond.methodLink "WireMessagesLaw" (92 : Nat) ({ cls := "WireMessagesModel", name := "question", desc := "(II)I" } : MethodName)) ∈ GT := gt_mem 883 (by decide +kernel) rfl
theorem g_884 : (Cond.instanceMethod ({ cls := "WireMessagesModel", name := "question", desc := "(II)I" } : MethodName)) ∈ GT := gt_mem 884 (by decide +kernel) rfl
theorem g_885 : (Cond.selects "WireMessagesModel" ({ cls := "WireMessagesModel", name := "question", desc := "(II)I" } : MethodName) ({ cls := "WireMessagesModel", name := "question", desc := "(II)I" } : MethodName)) ∈ GT := gt_mem 885 (by decide +kernel) rfl
theorem g_886 : (Cond.code ({ cls := "WireMessagesModel", name := "question", desc := "(II)I" } : MethodName) prog_10_method_24_code (3 : Nat) (Option.some FieldType.int)) ∈ GT := gt_mem 886 (by decide +kernel) rfl
theorem g_895 : (Cond.methodLink "WireMessagesLaw" (96 : Nat) ({ cls := "WireMessagesModel", name := "record", desc := "(IIII)I" } : MethodName)) ∈ GT := gt_mem 895 (by decide +kernel) rfl
theorem g_896 : (Cond.instanceMethod ({ cls := "WireMessagesModel", name := "record", desc := "(IIII)I" } : MethodName)) ∈ GT := gt_mem 896 (by decide +kernel) rfl
theorem g_897 : (Cond.selects "WireMessagesModel" ({ cls := "WireMessagesModel", name := "record", desc := "(IIII)I" } : MethodName) ({ cls := "WireMessagesModel", name := "record", desc := "(IIII)I" } : MethodName)) ∈ GT := gt_mem 897 (by decide +kernel) rfl
theorem g_898 : (Cond.code ({ cls := "WireMessagesModel", name := "record", desc := "(IIII)I" } : MethodName) prog_10_method_25_code (6 : Nat) (Option.some FieldType.int)) ∈ GT := gt_mem 898 (by decide +kernel) rfl
theorem g_903 : (Cond.methodLink "WireMessagesLaw" (99 : Nat) ({ cls := "WireMessagesModel", name := "write", desc := "(I)I" } : MethodName)) ∈ GT := gt_mem 903 (by decide +kernel) rfl
theorem g_904 : (Cond.instanceMethod ({ cls := "WireMessagesModel", name := "write", desc := "(I)I" } : MethodName)) ∈ GT := gt_mem 904 (by decide +kernel) rfl
theorem g_905 : (Cond.selects "WireMessagesModel" ({ cls := "WireMessagesModel", name := "write", desc := "(I)I" } : MethodName) ({ cls := "WireMessagesModel", name := "write", desc := "(I)I" } : MethodName)) ∈ GT := gt_mem 905 (by decide +kernel) rfl
theorem g_906 : (Cond.code ({ cls := "WireMessagesModel", name := "write", desc := "(I)I" } : MethodName) prog_10_method_34_code (10 : Nat) (Option.some FieldType.int)) ∈ GT := gt_mem 906 (by decide +kernel) rfl
theorem g_940 : (Cond.methodLink "WireMessagesLaw" (102 : Nat) ({ cls := "WireMessagesModel", name := "back", desc := "(II)I" } : MethodName)) ∈ GT := gt_mem 940 (by decide +kernel) rfl
theorem g_941 : (Cond.instanceMethod ({ cls := "WireMessagesModel", name := "back", desc := "(II)I" } : MethodName)) ∈ GT := gt_mem 941 (by decide +kernel) rfl
theorem g_942 : (Cond.selects "WireMessagesModel" ({ cls := "WireMessagesModel", name := "back", desc := "(II)I" } : MethodName) ({ cls := "WireMessagesModel", name := "back", desc := "(II)I" } : MethodName)) ∈ GT := gt_mem 942 (by decide +kernel) rfl
theorem g_943 : (Cond.code ({ cls := "WireMessagesModel", name := "back", desc := "(II)I" } : MethodName) prog_10_method_35_code (4 : Nat) (Option.some FieldType.int)) ∈ GT := gt_mem 943 (by decide +kernel) rfl
theorem g_944 : (Cond.methodLink "WireMessagesLaw" (105 : Nat) ({ cls := "WireMessagesModel", name := "written", desc := "(I)I" } : MethodName)) ∈ GT := gt_mem 944 (by decide +kernel) rfl
theorem g_945 : (Cond.instanceMethod ({ cls := "WireMessagesModel", name := "written", desc := "(I)I" } : MethodName)) ∈ GT := gt_mem 945 (by decide +kernel) rfl
theorem g_946 : (Cond.selects "WireMessagesModel" ({ cls := "WireMessagesModel", name := "written", desc := "(I)I" } : MethodName) ({ cls := "WireMessagesModel", name := "written", desc := "(I)I" } : MethodName)) ∈ GT := gt_mem 946 (by decide +kernel) rfl
theorem g_947 : (Cond.code ({ cls := "WireMessagesModel", name := "written", desc := "(I)I" } : MethodName) prog_10_method_36_code (2 : Nat) (Option.some FieldType.int)) ∈ GT := gt_mem 947 (by decide +kernel) rfl
theorem g_948 : (Cond.methodLink "WireMessagesLaw" (108 : Nat) ({ cls := "WireMessagesModel", name := "header", desc := "(I)I" } : MethodName)) ∈ GT := gt_mem 948 (by decide +kernel) rfl
theorem g_949 : (Cond.instanceMethod ({ cls := "WireMessagesModel", name := "header", desc := "(I)I" } : MethodName)) ∈ GT := gt_mem 949 (by decide +kernel) rfl
theorem g_950 : (Cond.selects "WireMessagesModel" ({ cls := "WireMessagesModel", name := "header", desc := "(I)I" } : MethodName) ({ cls := "WireMessagesModel", name := "header", desc := "(I)I" } : MethodName)) ∈ GT := gt_mem 950 (by decide +kernel) rfl
theorem g_951 : (Cond.code ({ cls := "WireMessagesModel", name := "header", desc := "(I)I" } : MethodName) prog_10_method_37_code (2 : Nat) (Option.some FieldType.int)) ∈ GT := gt_mem 951 (by decide +kernel) rfl
theorem g_952 : (Cond.methodLink "WireMessagesLaw" (112 : Nat) ({ cls := "WireMessagesModel", name := "told", desc := "(III)I" } : MethodName)) ∈ GT := gt_mem 952 (by decide +kernel) rfl
theorem g_953 : (Cond.instanceMethod ({ cls := "WireMessagesModel", name := "told", desc := "(III)I" } : MethodName)) ∈ GT := gt_mem 953 (by decide +kernel) rfl
theorem g_954 : (Cond.selects "WireMessagesModel" ({ cls := "WireMessagesModel", name := "told", desc := "(III)I" } : MethodName) ({ cls := "WireMessagesModel", name := "told", desc := "(III)I" } : MethodName)) ∈ GT := gt_mem 954 (by decide +kernel) rfl
theorem g_955 : (Cond.code ({ cls := "WireMessagesModel", name := "told", desc := "(III)I" } : MethodName) prog_10_method_38_code (5 : Nat) (Option.some FieldType.int)) ∈ GT := gt_mem 955 (by decide +kernel) rfl
theorem g_960 : (Cond.methodLink "WireMessagesLaw" (115 : Nat) ({ cls := "WireMessagesModel", name := "byteOf", desc := "(III)I" } : MethodName)) ∈ GT := gt_mem 960 (by decide +kernel) rfl
theorem g_961 : (Cond.instanceMethod ({ cls := "WireMessagesModel", name := "byteOf", desc := "(III)I" } : MethodName)) ∈ GT := gt_mem 961 (by decide +kernel) rfl
theorem g_962 : (Cond.selects "WireMessagesModel" ({ cls := "WireMessagesModel", name := "byteOf", desc := "(III)I" } : MethodName) ({ cls := "WireMessagesModel", name := "byteOf", desc := "(III)I" } : MethodName)) ∈ GT := gt_mem 962 (by decide +kernel) rfl
theorem g_963 : (Cond.code ({ cls := "WireMessagesModel", name := "byteOf", desc := "(III)I" } : MethodName) prog_10_method_39_code (5 : Nat) (Option.some FieldType.int)) ∈ GT := gt_mem 963 (by decide +kernel) rfl
theorem g_964 : (Cond.methodLink "WireMessagesLaw" (118 : Nat) ({ cls := "WireMessagesModel", name := "same", desc := "(IIII)Z" } : MethodName)) ∈ GT := gt_mem 964 (by decide +kernel) rfl
theorem g_965 : (Cond.instanceMethod ({ cls := "WireMessagesModel", name := "same", desc := "(IIII)Z" } : MethodName)) ∈ GT := gt_mem 965 (by decide +kernel) rfl
theorem g_966 : (Cond.selects "WireMessagesModel" ({ cls := "WireMessagesModel", name := "same", desc := "(IIII)Z" } : MethodName) ({ cls := "WireMessagesModel", name := "same", desc := "(IIII)Z" } : MethodName)) ∈ GT := gt_mem 966 (by decide +kernel) rfl
theorem g_967 : (Cond.code ({ cls := "WireMessagesModel", name := "same", desc := "(IIII)Z" } : MethodName) prog_10_method_41_code (8 : Nat) (Option.some FieldType.boolean)) ∈ GT := gt_mem 967 (by decide +kernel) rfl
theorem g_971 : (Cond.methodLink "WireMessagesLaw" (121 : Nat) ({ cls := "WireMessagesModel", name := "order", desc := "(IIII)I" } : MethodName)) ∈ GT := gt_mem 971 (by decide +kernel) rfl
theorem g_972 : (Cond.instanceMethod ({ cls := "WireMessagesModel", name := "order", desc := "(IIII)I" } : MethodName)) ∈ GT := gt_mem 972 (by decide +kernel) rfl
theorem g_973 : (Cond.selects "WireMessagesModel" ({ cls := "WireMessagesModel", name := "order", desc := "(IIII)I" } : MethodName) ({ cls := "WireMessagesModel", name := "order", desc := "(IIII)I" } : MethodName)) ∈ GT := gt_mem 973 (by decide +kernel) rfl
theorem g_974 : (Cond.code ({ cls := "WireMessagesModel", name := "order", desc := "(IIII)I" } : MethodName) prog_10_method_45_code (11 : Nat) (Option.some FieldType.int)) ∈ GT := gt_mem 974 (by decide +kernel) rfl
theorem g_987 : (Cond.methodLink "WireMessagesLaw" (125 : Nat) ({ cls := "WireMessagesModel", name := "count", desc := "(I)I" } : MethodName)) ∈ GT := gt_mem 987 (by decide +kernel) rfl
theorem g_988 : (Cond.instanceMethod ({ cls := "WireMessagesModel", name := "count", desc := "(I)I" } : MethodName)) ∈ GT := gt_mem 988 (by decide +kernel) rfl
theorem g_989 : (Cond.selects "WireMessagesModel" ({ cls := "WireMessagesModel", name := "count", desc := "(I)I" } : MethodName) ({ cls := "WireMessagesModel", name := "count", desc := "(I)I" } : MethodName)) ∈ GT := gt_mem 989 (by decide +kernel) rfl
theorem g_990 : (Cond.code ({ cls := "WireMessagesModel", name := "count", desc := "(I)I" } : MethodName) prog_10_method_46_code (2 : Nat) (Option.some FieldType.int)) ∈ GT := gt_mem 990 (by decide +kernel) rfl
set_option maxHeartbeats 4000000 in
set_option maxRecDepth 100000 in
theorem law_case_0 (l : Launch) (hfl : l.flags = flags0) {p : Program} {e : Env} {s : State} {m : MethodId} {below : List Frame} {meth : Method} {c : Code} {b L : Nat} {xs : Nat → Int32} (C1 : lw_At p s m meth c b L xs) (hL : L ≤ 3072) (D9 : va_G) (cB cI cJ cG : ClassId) (hK : va_K D9 cls9 (ty9 cB cI cJ cG) s) (hZ : tx_Z (fun q : Nat => s.heap.size ≤ q) s s.heap) (h9 : no8 s) (a : Nat → Nat) (n : Nat) (hn : 6 * n + 6 ≤ L) (hnext : lw_K l p e s m below meth c b D9 cB cI cJ cG a n) (I : Nat → Int32) (F : Nat → Nat → Int32) (O : Nat → Int64) (A : Ab) (hC : CS I F A) (hR : RS I F A) (hPS : PS A) {H : Heap} {locs : List Loc} (hP : va_P D9 cls9 (WW a cB cI cJ cG I F O) H) (hD : va_D (fun q : Nat => s.heap.size ≤ q) (WW a cB cI cJ cG I F O)) (hS : va_S (fun q : Nat => s.heap.size ≤ q) s.heap H locs) {ls : Array Slot} (hl : lv_has ls 7 [(4, .int (nI (6 * n))), (3, .ref (a 48)), (2, .ref (a 33)), (1, .ref (a 0)), (0, .ref b)]) : W p l e room_1 s m #[Value.ref b] below meth c H locs (49 + n) (670223 + 6 * n) (lw_Z below #[Value.ref b] s) (F0 m 120 ls []) := by
  obtain ⟨hx, hb, hr, hml, hown, hts0, hX, hbl, hlocks, hgv⟩ := id C1
  have hts : ∀ w ∈ GT, w.before #[Value.ref b] s = true := fun w hw => hts0 w ((List.mem_filter.mp hw).1)
  have C0 : mw_C p s m #[Value.ref b] meth c code 7 ret R_La D9 cls9 (ty9 cB cI cJ cG) := ⟨hx, hb, hml, hr, hlocks, hown, hts, hK⟩
  have hA : ∀ q : Nat, s.heap.size ≤ q → (fun q : Nat => s.heap.size ≤ q) q := fun _ h => h
  have hbA : ¬ (fun q : Nat => s.heap.size ≤ q) b := Nat.not_le.mpr hbl
  refine lv_aload_n hx hb d_La_law_120 rfl (lv_at hl 3 rfl) ?_
  refine lv_aload_n hx hb d_La_law_121 rfl (lv_at hl 4 rfl) ?_
  refine lv_iload hx hb d_La_law_122 (lv_at hl 0 rfl) ?_
  refine lv_iconst (v := 1) hx hb d_La_law_124 (by decide) ?_
  refine lv_iadd hx hb d_La_law_125 ?_
  refine lv_topq (y := nI (6 * n + 1)) (nI_add _ 1) ?_
  refine va_sld hx hb hX hbl hbA hS (vp_in_nI (show 6 * n + 1 < L by omega) (by omega)) d_La_law_126 ?_
  refine lv_aload_n hx hb d_La_law_127 rfl (lv_at hl 4 rfl) ?_
  refine lv_iload hx hb d_La_law_128 (lv_at hl 0 rfl) ?_
  refine lv_iconst (v := 2) hx hb d_La_law_130 (by decide) ?_
  refine lv_iadd hx hb d_La_law_131 ?_
  refine lv_topq (y := nI (6 * n + 2)) (nI_add _ 2) ?_
  refine va_sld hx hb hX hbl hbA hS (vp_in_nI (show 6 * n + 2 < L by omega) (by omega)) d_La_law_132 ?_
  refine lv_aload_n hx hb d_La_law_133 rfl (lv_at hl 4 rfl) ?_
  refine lv_iload hx hb d_La_law_134 (lv_at hl 0 rfl) ?_
  refine lv_iconst (v := 3) hx hb d_La_law_136 (by decide) ?_
  refine lv_iadd hx hb d_La_law_137 ?_
  refine lv_topq (y := nI (6 * n + 3)) (nI_add _ 3) ?_
  refine va_sld hx hb hX hbl hbA hS (vp_in_nI (show 6 * n + 3 < L by omega) (by omega)) d_La_law_138 ?_
  refine lv_aload_n hx hb d_La_law_139 rfl (lv_at hl 4 rfl) ?_
  refine lv_iload hx hb d_La_law_140 (lv_at hl 0 rfl) ?_
  refine lv_iconst (v := 4) hx hb d_La_law_142 (by decide) ?_
  refine lv_iadd hx hb d_La_law_143 ?_
  refine lv_topq (y := nI (6 * n + 4)) (nI_add _ 4) ?_
  refine va_sld hx hb hX hbl hbA hS (vp_in_nI (show 6 * n + 4 < L by omega) (by omega)) d_La_law_144 ?_
  refine lv_aload_n hx hb d_La_law_145 rfl (lv_at hl 4 rfl) ?_
  refine lv_iload hx hb d_La_law_146 (lv_at hl 0 rfl) ?_
  refine lv_iconst (v := 5) hx hb d_La_law_148 (by decide) ?_
  refine lv_iadd hx hb d_La_law_149 ?_
  refine lv_topq (y := nI (6 * n + 5)) (nI_add _ 5) ?_
  refine va_sld hx hb hX hbl hbA hS (vp_in_nI (show 6 * n + 5 < L by omega) (by omega)) d_La_law_150 ?_
  refine lv_aload_n hx hb d_La_law_151 rfl (lv_at hl 1 rfl) ?_
  refine mk_cS C0 (s_feed l D9 cB cI cJ cG a O I F hfl A hC hPS _ _ _ _ _) g_377 g_0 g_375 g_376 ⟨by decide +kernel, by decide +kernel, show Option.map (fun d => d.parameters.length) (parseMethodDescriptor y_La_feed.desc) = some 7 by decide +kernel⟩ ⟨by decide, by decide⟩ rfl rfl (rz_Z hZ hS hD) h9 hP hD hS hA hl.1 (Nat.le_of_ble_eq_true rfl) rfl d_La_law_152 ⟨show 49 + n + 1 ≤ 601024 by omega, show 670223 + 6 * n + 6 ≤ 7293034 by omega⟩ (fun v9 w9 H locs hq hP hD hS => ?_)
  obtain ⟨k5, I1, F1, O1, rfl, rfl, hk1, an1, A1, hT1, hO1, hC1, hP1⟩ := hq
  have hR1 := RS_k hR hk1
  refine lv_istore (lv' := [(5, _), (4, _), (3, _), (2, _), (1, _), (0, _)]) hx hb d_La_law_155 hl (by decide) rfl (fun ls hl => ?_)
  refine lv_aload_n hx hb d_La_law_157 rfl (lv_at hl 3 rfl) ?_
  refine lv_aload_n hx hb d_La_law_158 rfl (lv_at hl 5 rfl) ?_
  refine lv_iload hx hb d_La_law_159 (lv_at hl 1 rfl) ?_
  refine lv_iconst (v := 1) hx hb d_La_law_161 (by decide) ?_
  refine lv_iadd hx hb d_La_law_162 ?_
  refine lv_topq (y := nI (6 * n + 1)) (nI_add _ 1) ?_
  refine va_sld hx hb hX hbl hbA hS (vp_in_nI (show 6 * n + 1 < L by omega) (by omega)) d_La_law_163 ?_
  refine lv_aload_n hx hb d_La_law_164 rfl (lv_at hl 5 rfl) ?_
  refine lv_iload hx hb d_La_law_165 (lv_at hl 1 rfl) ?_
  refine lv_iconst (v := 2) hx hb d_La_law_167 (by decide) ?_
  refine lv_iadd hx hb d_La_law_168 ?_
  refine lv_topq (y := nI (6 * n + 2)) (nI_add _ 2) ?_
  refine va_sld hx hb hX hbl hbA hS (vp_in_nI (show 6 * n + 2 < L by omega) (by omega)) d_La_law_169 ?_
  refine lv_aload_n hx hb d_La_law_170 rfl (lv_at hl 5 rfl) ?_
  refine lv_iload hx hb d_La_law_171 (lv_at hl 1 rfl) ?_
  refine lv_iconst (v := 3) hx hb d_La_law_173 (by decide) ?_
  refine lv_iadd hx hb d_La_law_174 ?_
  refine lv_topq (y := nI (6 * n + 3)) (nI_add _ 3) ?_
  refine va_sld hx hb hX hbl hbA hS (vp_in_nI (show 6 * n + 3 < L by omega) (by omega)) d_La_law_175 ?_
  refine lv_aload_n hx hb d_La_law_176 rfl (lv_at hl 5 rfl) ?_
  refine lv_iload hx hb d_La_law_177 (lv_at hl 1 rfl) ?_
  refine lv_iconst (v := 4) hx hb d_La_law_179 (by decide) ?_
  refine lv_iadd hx hb d_La_law_180 ?_
  refine lv_topq (y := nI (6 * n + 4)) (nI_add _ 4) ?_
  refine va_sld hx hb hX hbl hbA hS (vp_in_nI (show 6 * n + 4 < L by omega) (by omega)) d_La_law_181 ?_
  refine lv_aload_n hx hb d_La_law_182 rfl (lv_at hl 5 rfl) ?_
  refine lv_iload hx hb d_La_law_183 (lv_at hl 1 rfl) ?_
  refine lv_iconst (v := 5) hx hb d_La_law_185 (by decide) ?_
  refine lv_iadd hx hb d_La_law_186 ?_
  refine lv_topq (y := nI (6 * n + 5)) (nI_add _ 5) ?_
  refine va_sld hx hb hX hbl hbA hS (vp_in_nI (show 6 * n + 5 < L by omega) (by omega)) d_La_law_187 ?_
  refine mw_cV (ci := 7) (k := 33) C0 (r_feed l D9 cB cI cJ cG a O1 I1 F1 A hR1 hPS _ _ _ _ _) g_868 g_8 g_865 g_866 g_867 ⟨by decide +kernel, by decide +kernel, show Option.map (fun d => d.parameters.length) (parseMethodDescriptor y_Mo_feed.desc) = some 5 by decide +kernel⟩ ⟨by decide, by decide⟩ rfl rfl hP hD hS hA rfl ww_33 hl.1 (Nat.le_of_ble_eq_true rfl) rfl d_La_law_188 ⟨show 49 + n + 1 + 0 ≤ 601024 by omega, show 670223 + 6 * n + 6 + 0 ≤ 7293034 by omega⟩ (fun v9 w9 H locs hq hP hD hS => ?_)
  obtain ⟨I2, F2, rfl, hk2, b6, an2, A2, rfl, hT2, hb2, hR2⟩ := hq
  obtain ⟨hkx, hz0, hAA⟩ := u_feed hPS _ _ _ _ _ _ hT1 hT2
  subst hAA
  have hz : k5 = 0 → O1 0 = b6.toInt64 := fun h => by rw [hO1 h, hz0 h, hb2 (hkx.symm.trans h)]
  have hPx := hP1
  have hCx := CS_k hC1 hPx.2.1 hk2
  have hRx := hR2
  refine lv_istore (lv' := [(6, _), (5, _), (4, _), (3, _), (2, _), (1, _), (0, _)]) hx hb d_La_law_191 hl (by decide) rfl (fun ls hl => ?_)
  refine lv_goto (tgt := 770) hx hb d_La_law_193 (by decide) ?_
  refine W.widen (k := 49 + n + 1) (n := 670223 + 6 * n + 6) (by omega) (by omega) ?_
  exact hnext _ _ _ _ _ _ _ hCx hRx hPx hP hD hS (lv_pk hl [2, 3, 4, 5, 6] rfl)
set_option maxHeartbeats 4000000 in
set_option maxRecDepth 100000 in
theorem law_case_1 (l : Launch) (hfl : l.flags = flags0) {p : Program} {e : Env} {s : State} {m : MethodId} {below : List Frame} {meth : Method} {c : Code} {b L : Nat} {xs : Nat → Int32} (C1 : lw_At p s m meth c b L xs) (hL : L ≤ 3072) (D9 : va_G) (cB cI cJ cG : ClassId) (hK : va_K D9 cls9 (ty9 cB cI cJ cG) s) (hZ : tx_Z (fun q : Nat => s.heap.size ≤ q) s s.heap) (h9 : no8 s) (a : Nat → Nat) (n : Nat) (hn : 6 * n + 6 ≤ L) (hnext : lw_K l p e s m below meth c b D9 cB cI cJ cG a n) (I : Nat → Int32) (F : Nat → Nat → Int32) (O : Nat → Int64) (A : Ab) (hC : CS I F A) (hR : RS I F A) (hPS : PS A) {H : Heap} {locs : List Loc} (hP : va_P D9 cls9 (WW a cB cI cJ cG I F O) H) (hD : va_D (fun q : Nat => s.heap.size ≤ q) (WW a cB cI cJ cG I F O)) (hS : va_S (fun q : Nat => s.heap.size ≤ q) s.heap H locs) {ls : Array Slot} (hl : lv_has ls 7 [(4, .int (nI (6 * n))), (3, .ref (a 48)), (2, .ref (a 33)), (1, .ref (a 0)), (0, .ref b)]) : W p l e room_1 s m #[Value.ref b] below meth c H locs (49 + n) (670223 + 6 * n) (lw_Z below #[Value.ref b] s) (F0 m 196 ls []) := by
  obtain ⟨hx, hb, hr, hml, hown, hts0, hX, hbl, hlocks, hgv⟩ := id C1
  have hts : ∀ w ∈ GT, w.before #[Value.ref b] s = true := fun w hw => hts0 w ((List.mem_filter.mp hw).1)
  have C0 : mw_C p s m #[Value.ref b] meth c code 7 ret R_La D9 cls9 (ty9 cB cI cJ cG) := ⟨hx, hb, hml, hr, hlocks, hown, hts, hK⟩
  have hA : ∀ q : Nat, s.heap.size ≤ q → (fun q : Nat => s.heap.size ≤ q) q := fun _ h => h
  have hbA : ¬ (fun q : Nat => s.heap.size ≤ q) b := Nat.not_le.mpr hbl
  refine lv_aload_n hx hb d_La_law_196 rfl (lv_at hl 3 rfl) ?_
  refine lv_aload_n hx hb d_La_law_197 rfl (lv_at hl 4 rfl) ?_
  refine lv_iload hx hb d_La_law_198 (lv_at hl 0 rfl) ?_
  refine lv_iconst (v := 1) hx hb d_La_law_200 (by decide) ?_
  refine lv_iadd hx hb d_La_law_201 ?_
  refine lv_topq (y := nI (6 * n + 1)) (nI_add _ 1) ?_
  refine va_sld hx hb hX hbl hbA hS (vp_in_nI (show 6 * n + 1 < L by omega) (by omega)) d_La_law_202 ?_
  refine lv_aload_n hx hb d_La_law_203 rfl (lv_at hl 1 rfl) ?_
  refine mk_cS C0 (s_end l D9 cB cI cJ cG a O I F hfl A hC hPS _) g_460 g_0 g_458 g_459 ⟨by decide +kernel, by decide +kernel, show Option.map (fun d => d.parameters.length) (parseMethodDescriptor y_La_end.desc) = some 3 by decide +kernel⟩ ⟨by decide, by decide⟩ rfl rfl (rz_Z hZ hS hD) h9 hP hD hS hA hl.1 (Nat.le_of_ble_eq_true rfl) rfl d_La_law_204 ⟨show 49 + n + 1 ≤ 601024 by omega, show 670223 + 6 * n + 6 ≤ 7293034 by omega⟩ (fun v9 w9 H locs hq hP hD hS => ?_)
  obtain ⟨k5, I1, F1, O1, rfl, rfl, hk1, an1, A1, hT1, hO1, hC1, hP1⟩ := hq
  have hR1 := RS_k hR hk1
  refine lv_istore (lv' := [(5, _), (4, _), (3, _), (2, _), (1, _), (0, _)]) hx hb d_La_law_207 hl (by decide) rfl (fun ls hl => ?_)
  refine lv_aload_n hx hb d_La_law_209 rfl (lv_at hl 3 rfl) ?_
  refine lv_aload_n hx hb d_La_law_210 rfl (lv_at hl 5 rfl) ?_
  refine lv_iload hx hb d_La_law_211 (lv_at hl 1 rfl) ?_
  refine lv_iconst (v := 1) hx hb d_La_law_213 (by decide) ?_
  refine lv_iadd hx hb d_La_law_214 ?_
  refine lv_topq (y := nI (6 * n + 1)) (nI_add _ 1) ?_
  refine va_sld hx hb hX hbl hbA hS (vp_in_nI (show 6 * n + 1 < L by omega) (by omega)) d_La_law_215 ?_
  refine mw_cV (ci := 7) (k := 33) C0 (r_end l D9 cB cI cJ cG a O1 I1 F1 A hR1 hPS _) g_877 g_8 g_874 g_875 g_876 ⟨by decide +kernel, by decide +kernel, show Option.map (fun d => d.parameters.length) (parseMethodDescriptor y_Mo_end.desc) = some 1 by decide +kernel⟩ ⟨by decide, by decide⟩ rfl rfl hP hD hS hA rfl ww_33 hl.1 (Nat.le_of_ble_eq_true rfl) rfl d_La_law_216 ⟨show 49 + n + 1 + 0 ≤ 601024 by omega, show 670223 + 6 * n + 6 + 0 ≤ 7293034 by omega⟩ (fun v9 w9 H locs hq hP hD hS => ?_)
  obtain ⟨I2, F2, rfl, hk2, b6, an2, A2, rfl, hT2, hb2, hR2⟩ := hq
  obtain ⟨hkx, hz0, hAA⟩ := u_end hPS _ _ _ _ _ _ hT1 hT2
  subst hAA
  have hz : k5 = 0 → O1 0 = b6.toInt64 := fun h => by rw [hO1 h, hz0 h, hb2 (hkx.symm.trans h)]
  have hPx := hP1
  have hCx := CS_k hC1 hPx.2.1 hk2
  have hRx := hR2
  refine lv_istore (lv' := [(6, _), (5, _), (4, _), (3, _), (2, _), (1, _), (0, _)]) hx hb d_La_law_219 hl (by decide) rfl (fun ls hl => ?_)
  refine lv_goto (tgt := 770) hx hb d_La_law_221 (by decide) ?_
  refine W.widen (k := 49 + n + 1) (n := 670223 + 6 * n + 6) (by omega) (by omega) ?_
  exact hnext _ _ _ _ _ _ _ hCx hRx hPx hP hD hS (lv_pk hl [2, 3, 4, 5, 6] rfl)
set_option maxHeartbeats 4000000 in
set_option maxRecDepth 100000 in
theorem law_case_2 (l : Launch) (hfl : l.flags = flags0) {p : Program} {e : Env} {s : State} {m : MethodId} {below : List Frame} {meth : Method} {c : Code} {b L : Nat} {xs : Nat → Int32} (C1 : lw_At p s m meth c b L xs) (hL : L ≤ 3072) (D9 : va_G) (cB cI cJ cG : ClassId) (hK : va_K D9 cls9 (ty9 cB cI cJ cG) s) (hZ : tx_Z (fun q : Nat => s.heap.size ≤ q) s s.heap) (h9 : no8 s) (a : Nat → Nat) (n : Nat) (hn : 6 * n + 6 ≤ L) (hnext : lw_K l p e s m below meth c b D9 cB cI cJ cG a n) (I : Nat → Int32) (F : Nat → Nat → Int32) (O : Nat → Int64) (A : Ab) (hC : CS I F A) (hR : RS I F A) (hPS : PS A) {H : Heap} {locs : List Loc} (hP : va_P D9 cls9 (WW a cB cI cJ cG I F O) H) (hD : va_D (fun q : Nat => s.heap.size ≤ q) (WW a cB cI cJ cG I F O)) (hS : va_S (fun q : Nat => s.heap.size ≤ q) s.heap H locs) {ls : Array Slot} (hl : lv_has ls 7 [(4, .int (nI (6 * n))), (3, .ref (a 48)), (2, .ref (a 33)), (1, .ref (a 0)), (0, .ref b)]) : W p l e room_1 s m #[Value.ref b] below meth c H locs (49 + n) (670223 + 6 * n) (lw_Z below #[Value.ref b] s) (F0 m 224 ls []) := by
  obtain ⟨hx, hb, hr, hml, hown, hts0, hX, hbl, hlocks, hgv⟩ := id C1
  have hts : ∀ w ∈ GT, w.before #[Value.ref b] s = true := fun w hw => hts0 w ((List.mem_filter.mp hw).1)
  have C0 : mw_C p s m #[Value.ref b] meth c code 7 ret R_La D9 cls9 (ty9 cB cI cJ cG) := ⟨hx, hb, hml, hr, hlocks, hown, hts, hK⟩
  have hA : ∀ q : Nat, s.heap.size ≤ q → (fun q : Nat => s.heap.size ≤ q) q := fun _ h => h
  have hbA : ¬ (fun q : Nat => s.heap.size ≤ q) b := Nat.not_le.mpr hbl
  refine lv_aload_n hx hb d_La_law_224 rfl (lv_at hl 3 rfl) ?_
  refine mw_cV (ci := 6) (k := 0) C0 (s_read l D9 cB cI cJ cG a O I F A hC hPS) g_247 g_1 g_244 g_245 g_246 ⟨by decide +kernel, by decide +kernel, show Option.map (fun d => d.parameters.length) (parseMethodDescriptor y_Wm_read.desc) = some 0 by decide +kernel⟩ ⟨by decide, by decide⟩ rfl rfl hP hD hS hA rfl ww_0 hl.1 (Nat.le_of_ble_eq_true rfl) rfl d_La_law_225 ⟨show 49 + n + 0 ≤ 601024 by omega, show 670223 + 6 * n + 0 ≤ 7293034 by omega⟩ (fun v9 w9 H locs hq hP hD hS => ?_)
  obtain ⟨I1, F1, rfl, hk1, ⟨b5, rfl⟩, A1, hT1, hC1, hP1⟩ := hq
  have hR1 := RS_k hR hk1
  refine lv_pop hx hb d_La_law_228 rfl ?_
  refine lv_aload_n hx hb d_La_law_229 rfl (lv_at hl 2 rfl) ?_
  refine mw_cV (ci := 7) (k := 33) C0 (r_read l D9 cB cI cJ cG a O I1 F1 A hR1 hPS) g_816 g_8 g_813 g_814 g_815 ⟨by decide +kernel, by decide +kernel, show Option.map (fun d => d.parameters.length) (parseMethodDescriptor y_Mo_read.desc) = some 0 by decide +kernel⟩ ⟨by decide, by decide⟩ rfl rfl hP hD hS hA rfl ww_33 hl.1 (Nat.le_of_ble_eq_true rfl) rfl d_La_law_230 ⟨show 49 + n + 0 ≤ 601024 by omega, show 670223 + 6 * n + 0 ≤ 7293034 by omega⟩ (fun v9 w9 H locs hq hP hD hS => ?_)
  obtain ⟨I2, F2, rfl, hk2, ⟨b6, rfl⟩, A2, hT2, hR2⟩ := hq
  obtain rfl := u_read hT1 hT2
  have hPx := hP1
  have hCx := CS_k hC1 hPx.2.1 hk2
  have hRx := hR2
  refine lv_pop hx hb d_La_law_233 rfl ?_
  refine lv_goto (tgt := 770) hx hb d_La_law_234 (by decide) ?_
  refine W.widen (k := 49 + n + 1) (n := 670223 + 6 * n + 6) (by omega) (by omega) ?_
  exact hnext _ _ _ _ _ _ _ hCx hRx hPx hP hD hS (lv_pk hl [0, 1, 2, 3, 4] rfl)
set_option maxHeartbeats 4000000 in
set_option maxRecDepth 100000 in
theorem law_case_3 (l : Launch) (hfl : l.flags = flags0) {p : Program} {e : Env} {s : State} {m : MethodId} {below : List Frame} {meth : Method} {c : Code} {b L : Nat} {xs : Nat → Int32} (C1 : lw_At p s m meth c b L xs) (hL : L ≤ 3072) (D9 : va_G) (cB cI cJ cG : ClassId) (hK : va_K D9 cls9 (ty9 cB cI cJ cG) s) (hZ : tx_Z (fun q : Nat => s.heap.size ≤ q) s s.heap) (h9 : no8 s) (a : Nat → Nat) (n : Nat) (hn : 6 * n + 6 ≤ L) (hnext : lw_K l p e s m below meth c b D9 cB cI cJ cG a n) (I : Nat → Int32) (F : Nat → Nat → Int32) (O : Nat → Int64) (A : Ab) (hC : CS I F A) (hR : RS I F A) (hPS : PS A) {H : Heap} {locs : List Loc} (hP : va_P D9 cls9 (WW a cB cI cJ cG I F O) H) (hD : va_D (fun q : Nat => s.heap.size ≤ q) (WW a cB cI cJ cG I F O)) (hS : va_S (fun q : Nat => s.heap.size ≤ q) s.heap H locs) {ls : Array Slot} (hl : lv_has ls 7 [(4, .int (nI (6 * n))), (3, .ref (a 48)), (2, .ref (a 33)), (1, .ref (a 0)), (0, .ref b)]) : W p l e room_1 s m #[Value.ref b] below meth c H locs (49 + n) (670223 + 6 * n) (lw_Z below #[Value.ref b] s) (F0 m 237 ls []) := by
  obtain ⟨hx, hb, hr, hml, hown, hts0, hX, hbl, hlocks, hgv⟩ := id C1
  have hts : ∀ w ∈ GT, w.before #[Value.ref b] s = true := fun w hw => hts0 w ((List.mem_filter.mp hw).1)
  have C0 : mw_C p s m #[Value.ref b] meth c code 7 ret R_La D9 cls9 (ty9 cB cI cJ cG) := ⟨hx, hb, hml, hr, hlocks, hown, hts, hK⟩
  have hA : ∀ q : Nat, s.heap.size ≤ q → (fun q : Nat => s.heap.size ≤ q) q := fun _ h => h
  have hbA : ¬ (fun q : Nat => s.heap.size ≤ q) b := Nat.not_le.mpr hbl
  refine lv_aload_n hx hb d_La_law_237 rfl (lv_at hl 3 rfl) ?_
  refine mw_cV (ci := 6) (k := 0) C0 (s_faultAt l D9 cB cI cJ cG a O I F A hC hPS) g_364 g_1 g_361 g_362 g_363 ⟨by decide +kernel, by decide +kernel, show Option.map (fun d => d.parameters.length) (parseMethodDescriptor y_Wm_faultAt.desc) = some 0 by decide +kernel⟩ ⟨by decide, by decide⟩ rfl rfl hP hD hS hA rfl ww_0 hl.1 (Nat.le_of_ble_eq_true rfl) rfl d_La_law_238 ⟨show 49 + n + 0 ≤ 601024 by omega, show 670223 + 6 * n + 0 ≤ 7293034 by omega⟩ (fun v9 w9 H locs hq hP hD hS => ?_)
  obtain ⟨I1, F1, rfl, hk1, ⟨b5, rfl⟩, hC1⟩ := hq
  have hR1 := RS_k hR hk1
  refine lv_pop hx hb d_La_law_241 rfl ?_
  refine lv_aload_n hx hb d_La_law_242 rfl (lv_at hl 2 rfl) ?_
  refine mw_cV (ci := 7) (k := 33) C0 (r_faultAt l D9 cB cI cJ cG a O I1 F1 A hR1 hPS) g_864 g_8 g_861 g_862 g_863 ⟨by decide +kernel, by decide +kernel, show Option.map (fun d => d.parameters.length) (parseMethodDescriptor y_Mo_faultAt.desc) = some 0 by decide +kernel⟩ ⟨by decide, by decide⟩ rfl rfl hP hD hS hA rfl ww_33 hl.1 (Nat.le_of_ble_eq_true rfl) rfl d_La_law_243 ⟨show 49 + n + 0 ≤ 601024 by omega, show 670223 + 6 * n + 0 ≤ 7293034 by omega⟩ (fun v9 w9 H locs hq hP hD hS => ?_)
  obtain ⟨I2, F2, rfl, hk2, ⟨b6, rfl⟩, hR2⟩ := hq
  have hPx := hPS
  have hCx := CS_k hC1 hPx.2.1 hk2
  have hRx := hR2
  refine lv_pop hx hb d_La_law_246 rfl ?_
  refine lv_goto (tgt := 770) hx hb d_La_law_247 (by decide) ?_
  refine W.widen (k := 49 + n + 1) (n := 670223 + 6 * n + 6) (by omega) (by omega) ?_
  exact hnext _ _ _ _ _ _ _ hCx hRx hPx hP hD hS (lv_pk hl [0, 1, 2, 3, 4] rfl)
set_option maxHeartbeats 4000000 in
set_option maxRecDepth 100000 in
theorem law_case_4 (l : Launch) (hfl : l.flags = flags0) {p : Program} {e : Env} {s : State} {m : MethodId} {below : List Frame} {meth : Method} {c : Code} {b L : Nat} {xs : Nat → Int32} (C1 : lw_At p s m meth c b L xs) (hL : L ≤ 3072) (D9 : va_G) (cB cI cJ cG : ClassId) (hK : va_K D9 cls9 (ty9 cB cI cJ cG) s) (hZ : tx_Z (fun q : Nat => s.heap.size ≤ q) s s.heap) (h9 : no8 s) (a : Nat → Nat) (n : Nat) (hn : 6 * n + 6 ≤ L) (hnext : lw_K l p e s m below meth c b D9 cB cI cJ cG a n) (I : Nat → Int32) (F : Nat → Nat → Int32) (O : Nat → Int64) (A : Ab) (hC : CS I F A) (hR : RS I F A) (hPS : PS A) {H : Heap} {locs : List Loc} (hP : va_P D9 cls9 (WW a cB cI cJ cG I F O) H) (hD : va_D (fun q : Nat => s.heap.size ≤ q) (WW a cB cI cJ cG I F O)) (hS : va_S (fun q : Nat => s.heap.size ≤ q) s.heap H locs) {ls : Array Slot} (hl : lv_has ls 7 [(4, .int (nI (6 * n))), (3, .ref (a 48)), (2, .ref (a 33)), (1, .ref (a 0)), (0, .ref b)]) : W p l e room_1 s m #[Value.ref b] below meth c H locs (49 + n) (670223 + 6 * n) (lw_Z below #[Value.ref b] s) (F0 m 250 ls []) := by
  obtain ⟨hx, hb, hr, hml, hown, hts0, hX, hbl, hlocks, hgv⟩ := id C1
  have hts : ∀ w ∈ GT, w.before #[Value.ref b] s = true := fun w hw => hts0 w ((List.mem_filter.mp hw).1)
  have C0 : mw_C p s m #[Value.ref b] meth c code 7 ret R_La D9 cls9 (ty9 cB cI cJ cG) := ⟨hx, hb, hml, hr, hlocks, hown, hts, hK⟩
  have hA : ∀ q : Nat, s.heap.size ≤ q → (fun q : Nat => s.heap.size ≤ q) q := fun _ h => h
  have hbA : ¬ (fun q : Nat => s.heap.size ≤ q) b := Nat.not_le.mpr hbl
  refine lv_aload_n hx hb d_La_law_250 rfl (lv_at hl 3 rfl) ?_
  refine lv_aload_n hx hb d_La_law_251 rfl (lv_at hl 4 rfl) ?_
  refine lv_iload hx hb d_La_law_252 (lv_at hl 0 rfl) ?_
  refine lv_iconst (v := 1) hx hb d_La_law_254 (by decide) ?_
  refine lv_iadd hx hb d_La_law_255 ?_
  refine lv_topq (y := nI (6 * n + 1)) (nI_add _ 1) ?_
  refine va_sld hx hb hX hbl hbA hS (vp_in_nI (show 6 * n + 1 < L by omega) (by omega)) d_La_law_256 ?_
  refine lv_aload_n hx hb d_La_law_257 rfl (lv_at hl 4 rfl) ?_
  refine lv_iload hx hb d_La_law_258 (lv_at hl 0 rfl) ?_
  refine lv_iconst (v := 2) hx hb d_La_law_260 (by decide) ?_
  refine lv_iadd hx hb d_La_law_261 ?_
  refine lv_topq (y := nI (6 * n + 2)) (nI_add _ 2) ?_
  refine va_sld hx hb hX hbl hbA hS (vp_in_nI (show 6 * n + 2 < L by omega) (by omega)) d_La_law_262 ?_
  refine mw_cV (ci := 6) (k := 0) C0 (s_begin l D9 cB cI cJ cG a O I F A hC hPS _ _) g_368 g_1 g_365 g_366 g_367 ⟨by decide +kernel, by decide +kernel, show Option.map (fun d => d.parameters.length) (parseMethodDescriptor y_Wm_begin.desc) = some 2 by decide +kernel⟩ ⟨by decide, by decide⟩ rfl rfl hP hD hS hA rfl ww_0 hl.1 (Nat.le_of_ble_eq_true rfl) rfl d_La_law_263 ⟨show 49 + n + 0 ≤ 601024 by omega, show 670223 + 6 * n + 0 ≤ 7293034 by omega⟩ (fun v9 w9 H locs hq hP hD hS => ?_)
  obtain ⟨I1, F1, rfl, hk1, rfl, A1, hT1, hC1, hP1⟩ := hq
  have hR1 := RS_k hR hk1
  refine lv_aload_n hx hb d_La_law_266 rfl (lv_at hl 2 rfl) ?_
  refine lv_aload_n hx hb d_La_law_267 rfl (lv_at hl 4 rfl) ?_
  refine lv_iload hx hb d_La_law_268 (lv_at hl 0 rfl) ?_
  refine lv_iconst (v := 1) hx hb d_La_law_270 (by decide) ?_
  refine lv_iadd hx hb d_La_law_271 ?_
  refine lv_topq (y := nI (6 * n + 1)) (nI_add _ 1) ?_
  refine va_sld hx hb hX hbl hbA hS (vp_in_nI (show 6 * n + 1 < L by omega) (by omega)) d_La_law_272 ?_
  refine lv_aload_n hx hb d_La_law_273 rfl (lv_at hl 4 rfl) ?_
  refine lv_iload hx hb d_La_law_274 (lv_at hl 0 rfl) ?_
  refine lv_iconst (v := 2) hx hb d_La_law_276 (by decide) ?_
  refine lv_iadd hx hb d_La_law_277 ?_
  refine lv_topq (y := nI (6 * n + 2)) (nI_add _ 2) ?_
  refine va_sld hx hb hX hbl hbA hS (vp_in_nI (show 6 * n + 2 < L by omega) (by omega)) d_La_law_278 ?_
  refine mw_cV (ci := 7) (k := 33) C0 (r_begin l D9 cB cI cJ cG a O I1 F1 A hR1 hPS _ _) g_881 g_8 g_878 g_879 g_880 ⟨by decide +kernel, by decide +kernel, show Option.map (fun d => d.parameters.length) (parseMethodDescriptor y_Mo_begin.desc) = some 2 by decide +kernel⟩ ⟨by decide, by decide⟩ rfl rfl hP hD hS hA rfl ww_33 hl.1 (Nat.le_of_ble_eq_true rfl) rfl d_La_law_279 ⟨show 49 + n + 0 ≤ 601024 by omega, show 670223 + 6 * n + 0 ≤ 7293034 by omega⟩ (fun v9 w9 H locs hq hP hD hS => ?_)
  obtain ⟨I2, F2, rfl, hk2, rfl, A2, hT2, hR2⟩ := hq
  obtain rfl := u_begin hT1 hT2
  have hPx := hP1
  have hCx := CS_k hC1 hPx.2.1 hk2
  have hRx := hR2
  refine lv_goto (tgt := 770) hx hb d_La_law_282 (by decide) ?_
  refine W.widen (k := 49 + n + 1) (n := 670223 + 6 * n + 6) (by omega) (by omega) ?_
  exact hnext _ _ _ _ _ _ _ hCx hRx hPx hP hD hS (lv_pk hl [0, 1, 2, 3, 4] rfl)
set_option maxHeartbeats 4000000 in
set_option maxRecDepth 100000 in
theorem law_case_5 (l : Launch) (hfl : l.flags = flags0) {p : Program} {e : Env} {s : State} {m : MethodId} {below : List Frame} {meth : Method} {c : Code} {b L : Nat} {xs : Nat → Int32} (C1 : lw_At p s m meth c b L xs) (hL : L ≤ 3072) (D9 : va_G) (cB cI cJ cG : ClassId) (hK : va_K D9 cls9 (ty9 cB cI cJ cG) s) (hZ : tx_Z (fun q : Nat => s.heap.size ≤ q) s s.heap) (h9 : no8 s) (a : Nat → Nat) (n : Nat) (hn : 6 * n + 6 ≤ L) (hnext : lw_K l p e s m below meth c b D9 cB cI cJ cG a n) (I : Nat → Int32) (F : Nat → Nat → Int32) (O : Nat → Int64) (A : Ab) (hC : CS I F A) (hR : RS I F A) (hPS : PS A) {H : Heap} {locs : List Loc} (hP : va_P D9 cls9 (WW a cB cI cJ cG I F O) H) (hD : va_D (fun q : Nat => s.heap.size ≤ q) (WW a cB cI cJ cG I F O)) (hS : va_S (fun q : Nat => s.heap.size ≤ q) s.heap H locs) {ls : Array Slot} (hl : lv_has ls 7 [(4, .int (nI (6 * n))), (3, .ref (a 48)), (2, .ref (a 33)), (1, .ref (a 0)), (0, .ref b)]) : W p l e room_1 s m #[Value.ref b] below meth c H locs (49 + n) (670223 + 6 * n) (lw_Z below #[Value.ref b] s) (F0 m 285 ls []) := by
  obtain ⟨hx, hb, hr, hml, hown, hts0, hX, hbl, hlocks, hgv⟩ := id C1
  have hts : ∀ w ∈ GT, w.before #[Value.ref b] s = true := fun w hw => hts0 w ((List.mem_filter.mp hw).1)
  have C0 : mw_C p s m #[Value.ref b] meth c code 7 ret R_La D9 cls9 (ty9 cB cI cJ cG) := ⟨hx, hb, hml, hr, hlocks, hown, hts, hK⟩
  have hA : ∀ q : Nat, s.heap.size ≤ q → (fun q : Nat => s.heap.size ≤ q) q := fun _ h => h
  have hbA : ¬ (fun q : Nat => s.heap.size ≤ q) b := Nat.not_le.mpr hbl
  refine lv_aload_n hx hb d_La_law_285 rfl (lv_at hl 3 rfl) ?_
  refine lv_aload_n hx hb d_La_law_286 rfl (lv_at hl 4 rfl) ?_
  refine lv_iload hx hb d_La_law_287 (lv_at hl 0 rfl) ?_
  refine lv_iconst (v := 1) hx hb d_La_law_289 (by decide) ?_
  refine lv_iadd hx hb d_La_law_290 ?_
  refine lv_topq (y := nI (6 * n + 1)) (nI_add _ 1) ?_
  refine va_sld hx hb hX hbl hbA hS (vp_in_nI (show 6 * n + 1 < L by omega) (by omega)) d_La_law_291 ?_
  refine lv_aload_n hx hb d_La_law_292 rfl (lv_at hl 4 rfl) ?_
  refine lv_iload hx hb d_La_law_293 (lv_at hl 0 rfl) ?_
  refine lv_iconst (v := 2) hx hb d_La_law_295 (by decide) ?_
  refine lv_iadd hx hb d_La_law_296 ?_
  refine lv_topq (y := nI (6 * n + 2)) (nI_add _ 2) ?_
  refine va_sld hx hb hX hbl hbA hS (vp_in_nI (show 6 * n + 2 < L by omega) (by omega)) d_La_law_297 ?_
  refine lv_aload_n hx hb d_La_law_298 rfl (lv_at hl 1 rfl) ?_
  refine mk_cS C0 (s_question l D9 cB cI cJ cG a O I F hfl A hC hPS _ _) g_483 g_0 g_481 g_482 ⟨by decide +kernel, by decide +kernel, show Option.map (fun d => d.parameters.length) (parseMethodDescriptor y_La_question.desc) = some 4 by decide +kernel⟩ ⟨by decide, by decide⟩ rfl rfl (rz_Z hZ hS hD) h9 hP hD hS hA hl.1 (Nat.le_of_ble_eq_true rfl) rfl d_La_law_299 ⟨show 49 + n + 1 ≤ 601024 by omega, show 670223 + 6 * n + 6 ≤ 7293034 by omega⟩ (fun v9 w9 H locs hq hP hD hS => ?_)
  obtain ⟨k5, I1, F1, O1, rfl, rfl, hk1, an1, A1, hT1, hO1, hC1, hP1⟩ := hq
  have hR1 := RS_k hR hk1
  refine lv_istore (lv' := [(5, _), (4, _), (3, _), (2, _), (1, _), (0, _)]) hx hb d_La_law_302 hl (by decide) rfl (fun ls hl => ?_)
  refine lv_aload_n hx hb d_La_law_304 rfl (lv_at hl 3 rfl) ?_
  refine lv_aload_n hx hb d_La_law_305 rfl (lv_at hl 5 rfl) ?_
  refine lv_iload hx hb d_La_law_306 (lv_at hl 1 rfl) ?_
  refine lv_iconst (v := 1) hx hb d_La_law_308 (by decide) ?_
  refine lv_iadd hx hb d_La_law_309 ?_
  refine lv_topq (y := nI (6 * n + 1)) (nI_add _ 1) ?_
  refine va_sld hx hb hX hbl hbA hS (vp_in_nI (show 6 * n + 1 < L by omega) (by omega)) d_La_law_310 ?_
  refine lv_aload_n hx hb d_La_law_311 rfl (lv_at hl 5 rfl) ?_
  refine lv_iload hx hb d_La_law_312 (lv_at hl 1 rfl) ?_
  refine lv_iconst (v := 2) hx hb d_La_law_314 (by decide) ?_
  refine lv_iadd hx hb d_La_law_315 ?_
  refine lv_topq (y := nI (6 * n + 2)) (nI_add _ 2) ?_
  refine va_sld hx hb hX hbl hbA hS (vp_in_nI (show 6 * n + 2 < L by omega) (by omega)) d_La_law_316 ?_
  refine mw_cV (ci := 7) (k := 33) C0 (r_question l D9 cB cI cJ cG a O1 I1 F1 A hR1 hPS _ _) g_886 g_8 g_883 g_884 g_885 ⟨by decide +kernel, by decide +kernel, show Option.map (fun d => d.parameters.length) (parseMethodDescriptor y_Mo_question.desc) = some 2 by decide +kernel⟩ ⟨by decide, by decide⟩ rfl rfl hP hD hS hA rfl ww_33 hl.1 (Nat.le_of_ble_eq_true rfl) rfl d_La_law_317 ⟨show 49 + n + 1 + 0 ≤ 601024 by omega, show 670223 + 6 * n + 6 + 0 ≤ 7293034 by omega⟩ (fun v9 w9 H locs hq hP hD hS => ?_)
  obtain ⟨I2, F2, rfl, hk2, b6, an2, A2, rfl, hT2, hb2, hR2⟩ := hq
  obtain ⟨hkx, hz0, hAA⟩ := u_question hPS _ _ _ _ _ _ hT1 hT2
  subst hAA
  have hz : k5 = 0 → O1 0 = b6.toInt64 := fun h => by rw [hO1 h, hz0 h, hb2 (hkx.symm.trans h)]
  have hPx := hP1
  have hCx := CS_k hC1 hPx.2.1 hk2
  have hRx := hR2
  refine lv_istore (lv' := [(6, _), (5, _), (4, _), (3, _), (2, _), (1, _), (0, _)]) hx hb d_La_law_320 hl (by decide) rfl (fun ls hl => ?_)
  refine lv_goto (tgt := 770) hx hb d_La_law_322 (by decide) ?_
  refine W.widen (k := 49 + n + 1) (n := 670223 + 6 * n + 6) (by omega) (by omega) ?_
  exact hnext _ _ _ _ _ _ _ hCx hRx hPx hP hD hS (lv_pk hl [2, 3, 4, 5, 6] rfl)
set_option maxHeartbeats 4000000 in
set_option maxRecDepth 100000 in
theorem law_case_6 (l : Launch) (hfl : l.flags = flags0) {p : Program} {e : Env} {s : State} {m : MethodId} {below : List Frame} {meth : Method} {c : Code} {b L : Nat} {xs : Nat → Int32} (C1 : lw_At p s m meth c b L xs) (hL : L ≤ 3072) (D9 : va_G) (cB cI cJ cG : ClassId) (hK : va_K D9 cls9 (ty9 cB cI cJ cG) s) (hZ : tx_Z (fun q : Nat => s.heap.size ≤ q) s s.heap) (h9 : no8 s) (a : Nat → Nat) (n : Nat) (hn : 6 * n + 6 ≤ L) (hnext : lw_K l p e s m below meth c b D9 cB cI cJ cG a n) (I : Nat → Int32) (F : Nat → Nat → Int32) (O : Nat → Int64) (A : Ab) (hC : CS I F A) (hR : RS I F A) (hPS : PS A) {H : Heap} {locs : List Loc} (hP : va_P D9 cls9 (WW a cB cI cJ cG I F O) H) (hD : va_D (fun q : Nat => s.heap.size ≤ q) (WW a cB cI cJ cG I F O)) (hS : va_S (fun q : Nat => s.heap.size ≤ q) s.heap H locs) {ls : Array Slot} (hl : lv_has ls 7 [(4, .int (nI (6 * n))), (3, .ref (a 48)), (2, .ref (a 33)), (1, .ref (a 0)), (0, .ref b)]) : W p l e room_1 s m #[Value.ref b] below meth c H locs (49 + n) (670223 + 6 * n) (lw_Z below #[Value.ref b] s) (F0 m 325 ls []) := by
  obtain ⟨hx, hb, hr, hml, hown, hts0, hX, hbl, hlocks, hgv⟩ := id C1
  have hts : ∀ w ∈ GT, w.before #[Value.ref b] s = true := fun w hw => hts0 w ((List.mem_filter.mp hw).1)
  have C0 : mw_C p s m #[Value.ref b] meth c code 7 ret R_La D9 cls9 (ty9 cB cI cJ cG) := ⟨hx, hb, hml, hr, hlocks, hown, hts, hK⟩
  have hA : ∀ q : Nat, s.heap.size ≤ q → (fun q : Nat => s.heap.size ≤ q) q := fun _ h => h
  have hbA : ¬ (fun q : Nat => s.heap.size ≤ q) b := Nat.not_le.mpr hbl
  refine lv_aload_n hx hb d_La_law_325 rfl (lv_at hl 3 rfl) ?_
  refine lv_aload_n hx hb d_La_law_326 rfl (lv_at hl 4 rfl) ?_
  refine lv_iload hx hb d_La_law_327 (lv_at hl 0 rfl) ?_
  refine lv_iconst (v := 1) hx hb d_La_law_329 (by decide) ?_
  refine lv_iadd hx hb d_La_law_330 ?_
  refine lv_topq (y := nI (6 * n + 1)) (nI_add _ 1) ?_
  refine va_sld hx hb hX hbl hbA hS (vp_in_nI (show 6 * n + 1 < L by omega) (by omega)) d_La_law_331 ?_
  refine lv_aload_n hx hb d_La_law_332 rfl (lv_at hl 4 rfl) ?_
  refine lv_iload hx hb d_La_law_333 (lv_at hl 0 rfl) ?_
  refine lv_iconst (v := 2) hx hb d_La_law_335 (by decide) ?_
  refine lv_iadd hx hb d_La_law_336 ?_
  refine lv_topq (y := nI (6 * n + 2)) (nI_add _ 2) ?_
  refine va_sld hx hb hX hbl hbA hS (vp_in_nI (show 6 * n + 2 < L by omega) (by omega)) d_La_law_337 ?_
  refine lv_aload_n hx hb d_La_law_338 rfl (lv_at hl 4 rfl) ?_
  refine lv_iload hx hb d_La_law_339 (lv_at hl 0 rfl) ?_
  refine lv_iconst (v := 3) hx hb d_La_law_341 (by decide) ?_
  refine lv_iadd hx hb d_La_law_342 ?_
  refine lv_topq (y := nI (6 * n + 3)) (nI_add _ 3) ?_
  refine va_sld hx hb hX hbl hbA hS (vp_in_nI (show 6 * n + 3 < L by omega) (by omega)) d_La_law_343 ?_
  refine lv_aload_n hx hb d_La_law_344 rfl (lv_at hl 4 rfl) ?_
  refine lv_iload hx hb d_La_law_345 (lv_at hl 0 rfl) ?_
  refine lv_iconst (v := 4) hx hb d_La_law_347 (by decide) ?_
  refine lv_iadd hx hb d_La_law_348 ?_
  refine lv_topq (y := nI (6 * n + 4)) (nI_add _ 4) ?_
  refine va_sld hx hb hX hbl hbA hS (vp_in_nI (show 6 * n + 4 < L by omega) (by omega)) d_La_law_349 ?_
  refine lv_aload_n hx hb d_La_law_350 rfl (lv_at hl 1 rfl) ?_
  refine mk_cS C0 (s_record l D9 cB cI cJ cG a O I F hfl A hC hPS _ _ _ _) g_499 g_0 g_497 g_498 ⟨by decide +kernel, by decide +kernel, show Option.map (fun d => d.parameters.length) (parseMethodDescriptor y_La_record.desc) = some 6 by decide +kernel⟩ ⟨by decide, by decide⟩ rfl rfl (rz_Z hZ hS hD) h9 hP hD hS hA hl.1 (Nat.le_of_ble_eq_true rfl) rfl d_La_law_351 ⟨show 49 + n + 1 ≤ 601024 by omega, show 670223 + 6 * n + 6 ≤ 7293034 by omega⟩ (fun v9 w9 H locs hq hP hD hS => ?_)
  obtain ⟨k5, I1, F1, O1, rfl, rfl, hk1, an1, A1, hT1, hO1, hC1, hP1⟩ := hq
  have hR1 := RS_k hR hk1
  refine lv_istore (lv' := [(5, _), (4, _), (3, _), (2, _), (1, _), (0, _)]) hx hb d_La_law_354 hl (by decide) rfl (fun ls hl => ?_)
  refine lv_aload_n hx hb d_La_law_356 rfl (lv_at hl 3 rfl) ?_
  refine lv_aload_n hx hb d_La_law_357 rfl (lv_at hl 5 rfl) ?_
  refine lv_iload hx hb d_La_law_358 (lv_at hl 1 rfl) ?_
  refine lv_iconst (v := 1) hx hb d_La_law_360 (by decide) ?_
  refine lv_iadd hx hb d_La_law_361 ?_
  refine lv_topq (y := nI (6 * n + 1)) (nI_add _ 1) ?_
  refine va_sld hx hb hX hbl hbA hS (vp_in_nI (show 6 * n + 1 < L by omega) (by omega)) d_La_law_362 ?_
  refine lv_aload_n hx hb d_La_law_363 rfl (lv_at hl 5 rfl) ?_
  refine lv_iload hx hb d_La_law_364 (lv_at hl 1 rfl) ?_
  refine lv_iconst (v := 2) hx hb d_La_law_366 (by decide) ?_
  refine lv_iadd hx hb d_La_law_367 ?_
  refine lv_topq (y := nI (6 * n + 2)) (nI_add _ 2) ?_
  refine va_sld hx hb hX hbl hbA hS (vp_in_nI (show 6 * n + 2 < L by omega) (by omega)) d_La_law_368 ?_
  refine lv_aload_n hx hb d_La_law_369 rfl (lv_at hl 5 rfl) ?_
  refine lv_iload hx hb d_La_law_370 (lv_at hl 1 rfl) ?_
  refine lv_iconst (v := 3) hx hb d_La_law_372 (by decide) ?_
  refine lv_iadd hx hb d_La_law_373 ?_
  refine lv_topq (y := nI (6 * n + 3)) (nI_add _ 3) ?_
  refine va_sld hx hb hX hbl hbA hS (vp_in_nI (show 6 * n + 3 < L by omega) (by omega)) d_La_law_374 ?_
  refine lv_aload_n hx hb d_La_law_375 rfl (lv_at hl 5 rfl) ?_
  refine lv_iload hx hb d_La_law_376 (lv_at hl 1 rfl) ?_
  refine lv_iconst (v := 4) hx hb d_La_law_378 (by decide) ?_
  refine lv_iadd hx hb d_La_law_379 ?_
  refine lv_topq (y := nI (6 * n + 4)) (nI_add _ 4) ?_
  refine va_sld hx hb hX hbl hbA hS (vp_in_nI (show 6 * n + 4 < L by omega) (by omega)) d_La_law_380 ?_
  refine mw_cV (ci := 7) (k := 33) C0 (r_record l D9 cB cI cJ cG a O1 I1 F1 A hR1 hPS _ _ _ _) g_898 g_8 g_895 g_896 g_897 ⟨by decide +kernel, by decide +kernel, show Option.map (fun d => d.parameters.length) (parseMethodDescriptor y_Mo_record.desc) = some 4 by decide +kernel⟩ ⟨by decide, by decide⟩ rfl rfl hP hD hS hA rfl ww_33 hl.1 (Nat.le_of_ble_eq_true rfl) rfl d_La_law_381 ⟨show 49 + n + 1 + 0 ≤ 601024 by omega, show 670223 + 6 * n + 6 + 0 ≤ 7293034 by omega⟩ (fun v9 w9 H locs hq hP hD hS => ?_)
  obtain ⟨I2, F2, rfl, hk2, b6, an2, A2, rfl, hT2, hb2, hR2⟩ := hq
  obtain ⟨hkx, hz0, hAA⟩ := u_record hPS _ _ _ _ _ _ hT1 hT2
  subst hAA
  have hz : k5 = 0 → O1 0 = b6.toInt64 := fun h => by rw [hO1 h, hz0 h, hb2 (hkx.symm.trans h)]
  have hPx := hP1
  have hCx := CS_k hC1 hPx.2.1 hk2
  have hRx := hR2
  refine lv_istore (lv' := [(6, _), (5, _), (4, _), (3, _), (2, _), (1, _), (0, _)]) hx hb d_La_law_384 hl (by decide) rfl (fun ls hl => ?_)
  refine lv_goto (tgt := 770) hx hb d_La_law_386 (by decide) ?_
  refine W.widen (k := 49 + n + 1) (n := 670223 + 6 * n + 6) (by omega) (by omega) ?_
  exact hnext _ _ _ _ _ _ _ hCx hRx hPx hP hD hS (lv_pk hl [2, 3, 4, 5, 6] rfl)
set_option maxHeartbeats 4000000 in
set_option maxRecDepth 100000 in
theorem law_case_7 (l : Launch) (hfl : l.flags = flags0) {p : Program} {e : Env} {s : State} {m : MethodId} {below : List Frame} {meth : Method} {c : Code} {b L : Nat} {xs : Nat → Int32} (C1 : lw_At p s m meth c b L xs) (hL : L ≤ 3072) (D9 : va_G) (cB cI cJ cG : ClassId) (hK : va_K D9 cls9 (ty9 cB cI cJ cG) s) (hZ : tx_Z (fun q : Nat => s.heap.size ≤ q) s s.heap) (h9 : no8 s) (a : Nat → Nat) (n : Nat) (hn : 6 * n + 6 ≤ L) (hnext : lw_K l p e s m below meth c b D9 cB cI cJ cG a n) (I : Nat → Int32) (F : Nat → Nat → Int32) (O : Nat → Int64) (A : Ab) (hC : CS I F A) (hR : RS I F A) (hPS : PS A) {H : Heap} {locs : List Loc} (hP : va_P D9 cls9 (WW a cB cI cJ cG I F O) H) (hD : va_D (fun q : Nat => s.heap.size ≤ q) (WW a cB cI cJ cG I F O)) (hS : va_S (fun q : Nat => s.heap.size ≤ q) s.heap H locs) {ls : Array Slot} (hl : lv_has ls 7 [(4, .int (nI (6 * n))), (3, .ref (a 48)), (2, .ref (a 33)), (1, .ref (a 0)), (0, .ref b)]) : W p l e room_1 s m #[Value.ref b] below meth c H locs (49 + n) (670223 + 6 * n) (lw_Z below #[Value.ref b] s) (F0 m 389 ls []) := by
  obtain ⟨hx, hb, hr, hml, hown, hts0, hX, hbl, hlocks, hgv⟩ := id C1
  have hts : ∀ w ∈ GT, w.before #[Value.ref b] s = true := fun w hw => hts0 w ((List.mem_filter.mp hw).1)
  have C0 : mw_C p s m #[Value.ref b] meth c code 7 ret R_La D9 cls9 (ty9 cB cI cJ cG) := ⟨hx, hb, hml, hr, hlocks, hown, hts, hK⟩
  have hA : ∀ q : Nat, s.heap.size ≤ q → (fun q : Nat => s.heap.size ≤ q) q := fun _ h => h
  have hbA : ¬ (fun q : Nat => s.heap.size ≤ q) b := Nat.not_le.mpr hbl
  refine lv_aload_n hx hb d_La_law_389 rfl (lv_at hl 3 rfl) ?_
  refine lv_aload_n hx hb d_La_law_390 rfl (lv_at hl 4 rfl) ?_
  refine lv_iload hx hb d_La_law_391 (lv_at hl 0 rfl) ?_
  refine lv_iconst (v := 1) hx hb d_La_law_393 (by decide) ?_
  refine lv_iadd hx hb d_La_law_394 ?_
  refine lv_topq (y := nI (6 * n + 1)) (nI_add _ 1) ?_
  refine va_sld hx hb hX hbl hbA hS (vp_in_nI (show 6 * n + 1 < L by omega) (by omega)) d_La_law_395 ?_
  refine lv_aload_n hx hb d_La_law_396 rfl (lv_at hl 1 rfl) ?_
  refine mk_cS C0 (s_write l D9 cB cI cJ cG a O I F hfl A hC hPS _) g_526 g_0 g_524 g_525 ⟨by decide +kernel, by decide +kernel, show Option.map (fun d => d.parameters.length) (parseMethodDescriptor y_La_write.desc) = some 3 by decide +kernel⟩ ⟨by decide, by decide⟩ rfl rfl (rz_Z hZ hS hD) h9 hP hD hS hA hl.1 (Nat.le_of_ble_eq_true rfl) rfl d_La_law_397 ⟨show 49 + n + 1 ≤ 601024 by omega, show 670223 + 6 * n + 6 ≤ 7293034 by omega⟩ (fun v9 w9 H locs hq hP hD hS => ?_)
  obtain ⟨k5, I1, F1, O1, rfl, rfl, hk1, an1, A1, hT1, hO1, hC1, hP1⟩ := hq
  have hR1 := RS_k hR hk1
  refine lv_istore (lv' := [(5, _), (4, _), (3, _), (2, _), (1, _), (0, _)]) hx hb d_La_law_400 hl (by decide) rfl (fun ls hl => ?_)
  refine lv_aload_n hx hb d_La_law_402 rfl (lv_at hl 3 rfl) ?_
  refine lv_aload_n hx hb d_La_law_403 rfl (lv_at hl 5 rfl) ?_
  refine lv_iload hx hb d_La_law_404 (lv_at hl 1 rfl) ?_
  refine lv_iconst (v := 1) hx hb d_La_law_406 (by decide) ?_
  refine lv_iadd hx hb d_La_law_407 ?_
  refine lv_topq (y := nI (6 * n + 1)) (nI_add _ 1) ?_
  refine va_sld hx hb hX hbl hbA hS (vp_in_nI (show 6 * n + 1 < L by omega) (by omega)) d_La_law_408 ?_
  refine mw_cV (ci := 7) (k := 33) C0 (r_write l D9 cB cI cJ cG a O1 I1 F1 A hR1 hPS _) g_906 g_8 g_903 g_904 g_905 ⟨by decide +kernel, by decide +kernel, show Option.map (fun d => d.parameters.length) (parseMethodDescriptor y_Mo_write.desc) = some 1 by decide +kernel⟩ ⟨by decide, by decide⟩ rfl rfl hP hD hS hA rfl ww_33 hl.1 (Nat.le_of_ble_eq_true rfl) rfl d_La_law_409 ⟨show 49 + n + 1 + 0 ≤ 601024 by omega, show 670223 + 6 * n + 6 + 0 ≤ 7293034 by omega⟩ (fun v9 w9 H locs hq hP hD hS => ?_)
  obtain ⟨I2, F2, rfl, hk2, b6, an2, A2, rfl, hT2, hb2, hR2⟩ := hq
  obtain ⟨hkx, hz0, hAA⟩ := u_write hPS _ _ _ _ _ _ hT1 hT2
  subst hAA
  have hz : k5 = 0 → O1 0 = b6.toInt64 := fun h => by rw [hO1 h, hz0 h, hb2 (hkx.symm.trans h)]
  have hPx := hP1
  have hCx := CS_k hC1 hPx.2.1 hk2
  have hRx := hR2
  refine lv_istore (lv' := [(6, _), (5, _), (4, _), (3, _), (2, _), (1, _), (0, _)]) hx hb d_La_law_412 hl (by decide) rfl (fun ls hl => ?_)
  refine lv_goto (tgt := 770) hx hb d_La_law_414 (by decide) ?_
  refine W.widen (k := 49 + n + 1) (n := 670223 + 6 * n + 6) (by omega) (by omega) ?_
  exact hnext _ _ _ _ _ _ _ hCx hRx hPx hP hD hS (lv_pk hl [2, 3, 4, 5, 6] rfl)
set_option maxHeartbeats 4000000 in
set_option maxRecDepth 100000 in
theorem law_case_8 (l : Launch) (hfl : l.flags = flags0) {p : Program} {e : Env} {s : State} {m : MethodId} {below : List Frame} {meth : Method} {c : Code} {b L : Nat} {xs : Nat → Int32} (C1 : lw_At p s m meth c b L xs) (hL : L ≤ 3072) (D9 : va_G) (cB cI cJ cG : ClassId) (hK : va_K D9 cls9 (ty9 cB cI cJ cG) s) (hZ : tx_Z (fun q : Nat => s.heap.size ≤ q) s s.heap) (h9 : no8 s) (a : Nat → Nat) (n : Nat) (hn : 6 * n + 6 ≤ L) (hnext : lw_K l p e s m below meth c b D9 cB cI cJ cG a n) (I : Nat → Int32) (F : Nat → Nat → Int32) (O : Nat → Int64) (A : Ab) (hC : CS I F A) (hR : RS I F A) (hPS : PS A) {H : Heap} {locs : List Loc} (hP : va_P D9 cls9 (WW a cB cI cJ cG I F O) H) (hD : va_D (fun q : Nat => s.heap.size ≤ q) (WW a cB cI cJ cG I F O)) (hS : va_S (fun q : Nat => s.heap.size ≤ q) s.heap H locs) {ls : Array Slot} (hl : lv_has ls 7 [(4, .int (nI (6 * n))), (3, .ref (a 48)), (2, .ref (a 33)), (1, .ref (a 0)), (0, .ref b)]) : W p l e room_1 s m #[Value.ref b] below meth c H locs (49 + n) (670223 + 6 * n) (lw_Z below #[Value.ref b] s) (F0 m 417 ls []) := by
  obtain ⟨hx, hb, hr, hml, hown, hts0, hX, hbl, hlocks, hgv⟩ := id C1
  have hts : ∀ w ∈ GT, w.before #[Value.ref b] s = true := fun w hw => hts0 w ((List.mem_filter.mp hw).1)
  have C0 : mw_C p s m #[Value.ref b] meth c code 7 ret R_La D9 cls9 (ty9 cB cI cJ cG) := ⟨hx, hb, hml, hr, hlocks, hown, hts, hK⟩
  have hA : ∀ q : Nat, s.heap.size ≤ q → (fun q : Nat => s.heap.size ≤ q) q := fun _ h => h
  have hbA : ¬ (fun q : Nat => s.heap.size ≤ q) b := Nat.not_le.mpr hbl
  refine lv_aload_n hx hb d_La_law_417 rfl (lv_at hl 3 rfl) ?_
  refine lv_aload_n hx hb d_La_law_418 rfl (lv_at hl 4 rfl) ?_
  refine lv_iload hx hb d_La_law_419 (lv_at hl 0 rfl) ?_
  refine lv_iconst (v := 1) hx hb d_La_law_421 (by decide) ?_
  refine lv_iadd hx hb d_La_law_422 ?_
  refine lv_topq (y := nI (6 * n + 1)) (nI_add _ 1) ?_
  refine va_sld hx hb hX hbl hbA hS (vp_in_nI (show 6 * n + 1 < L by omega) (by omega)) d_La_law_423 ?_
  refine lv_aload_n hx hb d_La_law_424 rfl (lv_at hl 4 rfl) ?_
  refine lv_iload hx hb d_La_law_425 (lv_at hl 0 rfl) ?_
  refine lv_iconst (v := 2) hx hb d_La_law_427 (by decide) ?_
  refine lv_iadd hx hb d_La_law_428 ?_
  refine lv_topq (y := nI (6 * n + 2)) (nI_add _ 2) ?_
  refine va_sld hx hb hX hbl hbA hS (vp_in_nI (show 6 * n + 2 < L by omega) (by omega)) d_La_law_429 ?_
  refine lv_aload_n hx hb d_La_law_430 rfl (lv_at hl 1 rfl) ?_
  refine mk_cS C0 (s_back l D9 cB cI cJ cG a O I F hfl A hC hPS _ _) g_622 g_0 g_620 g_621 ⟨by decide +kernel, by decide +kernel, show Option.map (fun d => d.parameters.length) (parseMethodDescriptor y_La_back.desc) = some 4 by decide +kernel⟩ ⟨by decide, by decide⟩ rfl rfl (rz_Z hZ hS hD) h9 hP hD hS hA hl.1 (Nat.le_of_ble_eq_true rfl) rfl d_La_law_431 ⟨show 49 + n + 1 ≤ 601024 by omega, show 670223 + 6 * n + 6 ≤ 7293034 by omega⟩ (fun v9 w9 H locs hq hP hD hS => ?_)
  obtain ⟨k5, I1, F1, O1, rfl, rfl, hk1, an1, A1, hT1, hO1, hC1, hP1⟩ := hq
  have hR1 := RS_k hR hk1
  refine lv_istore (lv' := [(5, _), (4, _), (3, _), (2, _), (1, _), (0, _)]) hx hb d_La_law_434 hl (by decide) rfl (fun ls hl => ?_)
  refine lv_aload_n hx hb d_La_law_436 rfl (lv_at hl 3 rfl) ?_
  refine lv_aload_n hx hb d_La_law_437 rfl (lv_at hl 5 rfl) ?_
  refine lv_iload hx hb d_La_law_438 (lv_at hl 1 rfl) ?_
  refine lv_iconst (v := 1) hx hb d_La_law_440 (by decide) ?_
  refine lv_iadd hx hb d_La_law_441 ?_
  refine lv_topq (y := nI (6 * n + 1)) (nI_add _ 1) ?_
  refine va_sld hx hb hX hbl hbA hS (vp_in_nI (show 6 * n + 1 < L by omega) (by omega)) d_La_law_442 ?_
  refine lv_aload_n hx hb d_La_law_443 rfl (lv_at hl 5 rfl) ?_
  refine lv_iload hx hb d_La_law_444 (lv_at hl 1 rfl) ?_
  refine lv_iconst (v := 2) hx hb d_La_law_446 (by decide) ?_
  refine lv_iadd hx hb d_La_law_447 ?_
  refine lv_topq (y := nI (6 * n + 2)) (nI_add _ 2) ?_
  refine va_sld hx hb hX hbl hbA hS (vp_in_nI (show 6 * n + 2 < L by omega) (by omega)) d_La_law_448 ?_
  refine mw_cV (ci := 7) (k := 33) C0 (r_back l D9 cB cI cJ cG a O1 I1 F1 A hR1 hPS _ _) g_943 g_8 g_940 g_941 g_942 ⟨by decide +kernel, by decide +kernel, show Option.map (fun d => d.parameters.length) (parseMethodDescriptor y_Mo_back.desc) = some 2 by decide +kernel⟩ ⟨by decide, by decide⟩ rfl rfl hP hD hS hA rfl ww_33 hl.1 (Nat.le_of_ble_eq_true rfl) rfl d_La_law_449 ⟨show 49 + n + 1 + 0 ≤ 601024 by omega, show 670223 + 6 * n + 6 + 0 ≤ 7293034 by omega⟩ (fun v9 w9 H locs hq hP hD hS => ?_)
  obtain ⟨I2, F2, rfl, hk2, b6, an2, A2, rfl, hT2, hb2, hR2⟩ := hq
  obtain ⟨hkx, hz0, hAA⟩ := u_back hPS _ _ _ _ _ _ hT1 hT2
  subst hAA
  have hz : k5 = 0 → O1 0 = b6.toInt64 := fun h => by rw [hO1 h, hz0 h, hb2 (hkx.symm.trans h)]
  have hPx := hP1
  have hCx := CS_k hC1 hPx.2.1 hk2
  have hRx := hR2
  refine lv_istore (lv' := [(6, _), (5, _), (4, _), (3, _), (2, _), (1, _), (0, _)]) hx hb d_La_law_452 hl (by decide) rfl (fun ls hl => ?_)
  refine lv_goto (tgt := 770) hx hb d_La_law_454 (by decide) ?_
  refine W.widen (k := 49 + n + 1) (n := 670223 + 6 * n + 6) (by omega) (by omega) ?_
  exact hnext _ _ _ _ _ _ _ hCx hRx hPx hP hD hS (lv_pk hl [2, 3, 4, 5, 6] rfl)
set_option maxHeartbeats 4000000 in
set_option maxRecDepth 100000 in
theorem law_case_9 (l : Launch) (hfl : l.flags = flags0) {p : Program} {e : Env} {s : State} {m : MethodId} {below : List Frame} {meth : Method} {c : Code} {b L : Nat} {xs : Nat → Int32} (C1 : lw_At p s m meth c b L xs) (hL : L ≤ 3072) (D9 : va_G) (cB cI cJ cG : ClassId) (hK : va_K D9 cls9 (ty9 cB cI cJ cG) s) (hZ : tx_Z (fun q : Nat => s.heap.size ≤ q) s s.heap) (h9 : no8 s) (a : Nat → Nat) (n : Nat) (hn : 6 * n + 6 ≤ L) (hnext : lw_K l p e s m below meth c b D9 cB cI cJ cG a n) (I : Nat → Int32) (F : Nat → Nat → Int32) (O : Nat → Int64) (A : Ab) (hC : CS I F A) (hR : RS I F A) (hPS : PS A) {H : Heap} {locs : List Loc} (hP : va_P D9 cls9 (WW a cB cI cJ cG I F O) H) (hD : va_D (fun q : Nat => s.heap.size ≤ q) (WW a cB cI cJ cG I F O)) (hS : va_S (fun q : Nat => s.heap.size ≤ q) s.heap H locs) {ls : Array Slot} (hl : lv_has ls 7 [(4, .int (nI (6 * n))), (3, .ref (a 48)), (2, .ref (a 33)), (1, .ref (a 0)), (0, .ref b)]) : W p l e room_1 s m #[Value.ref b] below meth c H locs (49 + n) (670223 + 6 * n) (lw_Z below #[Value.ref b] s) (F0 m 457 ls []) := by
  obtain ⟨hx, hb, hr, hml, hown, hts0, hX, hbl, hlocks, hgv⟩ := id C1
  have hts : ∀ w ∈ GT, w.before #[Value.ref b] s = true := fun w hw => hts0 w ((List.mem_filter.mp hw).1)
  have C0 : mw_C p s m #[Value.ref b] meth c code 7 ret R_La D9 cls9 (ty9 cB cI cJ cG) := ⟨hx, hb, hml, hr, hlocks, hown, hts, hK⟩
  have hA : ∀ q : Nat, s.heap.size ≤ q → (fun q : Nat => s.heap.size ≤ q) q := fun _ h => h
  have hbA : ¬ (fun q : Nat => s.heap.size ≤ q) b := Nat.not_le.mpr hbl
  refine lv_aload_n hx hb d_La_law_457 rfl (lv_at hl 3 rfl) ?_
  refine lv_aload_n hx hb d_La_law_458 rfl (lv_at hl 4 rfl) ?_
  refine lv_iload hx hb d_La_law_459 (lv_at hl 0 rfl) ?_
  refine lv_iconst (v := 1) hx hb d_La_law_461 (by decide) ?_
  refine lv_iadd hx hb d_La_law_462 ?_
  refine lv_topq (y := nI (6 * n + 1)) (nI_add _ 1) ?_
  refine va_sld hx hb hX hbl hbA hS (vp_in_nI (show 6 * n + 1 < L by omega) (by omega)) d_La_law_463 ?_
  refine lv_aload_n hx hb d_La_law_464 rfl (lv_at hl 1 rfl) ?_
  refine mk_cS C0 (s_written l D9 cB cI cJ cG a O I F hfl A hC hPS _) g_648 g_0 g_646 g_647 ⟨by decide +kernel, by decide +kernel, show Option.map (fun d => d.parameters.length) (parseMethodDescriptor y_La_written.desc) = some 3 by decide +kernel⟩ ⟨by decide, by decide⟩ rfl rfl (rz_Z hZ hS hD) h9 hP hD hS hA hl.1 (Nat.le_of_ble_eq_true rfl) rfl d_La_law_465 ⟨show 49 + n + 1 ≤ 601024 by omega, show 670223 + 6 * n + 6 ≤ 7293034 by omega⟩ (fun v9 w9 H locs hq hP hD hS => ?_)
  obtain ⟨k5, I1, F1, O1, rfl, rfl, hk1, an1, A1, hT1, hO1, hC1, hP1⟩ := hq
  have hR1 := RS_k hR hk1
  refine lv_istore (lv' := [(5, _), (4, _), (3, _), (2, _), (1, _), (0, _)]) hx hb d_La_law_468 hl (by decide) rfl (fun ls hl => ?_)
  refine lv_aload_n hx hb d_La_law_470 rfl (lv_at hl 3 rfl) ?_
  refine lv_aload_n hx hb d_La_law_471 rfl (lv_at hl 5 rfl) ?_
  refine lv_iload hx hb d_La_law_472 (lv_at hl 1 rfl) ?_
  refine lv_iconst (v := 1) hx hb d_La_law_474 (by decide) ?_
  refine lv_iadd hx hb d_La_law_475 ?_
  refine lv_topq (y := nI (6 * n + 1)) (nI_add _ 1) ?_
  refine va_sld hx hb hX hbl hbA hS (vp_in_nI (show 6 * n + 1 < L by omega) (by omega)) d_La_law_476 ?_
  refine mw_cV (ci := 7) (k := 33) C0 (r_written l D9 cB cI cJ cG a O1 I1 F1 A hR1 hPS _) g_947 g_8 g_944 g_945 g_946 ⟨by decide +kernel, by decide +kernel, show Option.map (fun d => d.parameters.length) (parseMethodDescriptor y_Mo_written.desc) = some 1 by decide +kernel⟩ ⟨by decide, by decide⟩ rfl rfl hP hD hS hA rfl ww_33 hl.1 (Nat.le_of_ble_eq_true rfl) rfl d_La_law_477 ⟨show 49 + n + 1 + 0 ≤ 601024 by omega, show 670223 + 6 * n + 6 + 0 ≤ 7293034 by omega⟩ (fun v9 w9 H locs hq hP hD hS => ?_)
  obtain ⟨I2, F2, rfl, hk2, b6, an2, A2, rfl, hT2, hb2, hR2⟩ := hq
  obtain ⟨hkx, hz0, hAA⟩ := u_written hPS _ _ _ _ _ _ hT1 hT2
  subst hAA
  have hz : k5 = 0 → O1 0 = b6.toInt64 := fun h => by rw [hO1 h, hz0 h, hb2 (hkx.symm.trans h)]
  have hPx := hP1
  have hCx := CS_k hC1 hPx.2.1 hk2
  have hRx := hR2
  refine lv_istore (lv' := [(6, _), (5, _), (4, _), (3, _), (2, _), (1, _), (0, _)]) hx hb d_La_law_480 hl (by decide) rfl (fun ls hl => ?_)
  refine lv_goto (tgt := 770) hx hb d_La_law_482 (by decide) ?_
  refine W.widen (k := 49 + n + 1) (n := 670223 + 6 * n + 6) (by omega) (by omega) ?_
  exact hnext _ _ _ _ _ _ _ hCx hRx hPx hP hD hS (lv_pk hl [2, 3, 4, 5, 6] rfl)
set_option maxHeartbeats 4000000 in
set_option maxRecDepth 100000 in
theorem law_case_10 (l : Launch) (hfl : l.flags = flags0) {p : Program} {e : Env} {s : State} {m : MethodId} {below : List Frame} {meth : Method} {c : Code} {b L : Nat} {xs : Nat → Int32} (C1 : lw_At p s m meth c b L xs) (hL : L ≤ 3072) (D9 : va_G) (cB cI cJ cG : ClassId) (hK : va_K D9 cls9 (ty9 cB cI cJ cG) s) (hZ : tx_Z (fun q : Nat => s.heap.size ≤ q) s s.heap) (h9 : no8 s) (a : Nat → Nat) (n : Nat) (hn : 6 * n + 6 ≤ L) (hnext : lw_K l p e s m below meth c b D9 cB cI cJ cG a n) (I : Nat → Int32) (F : Nat → Nat → Int32) (O : Nat → Int64) (A : Ab) (hC : CS I F A) (hR : RS I F A) (hPS : PS A) {H : Heap} {locs : List Loc} (hP : va_P D9 cls9 (WW a cB cI cJ cG I F O) H) (hD : va_D (fun q : Nat => s.heap.size ≤ q) (WW a cB cI cJ cG I F O)) (hS : va_S (fun q : Nat => s.heap.size ≤ q) s.heap H locs) {ls : Array Slot} (hl : lv_has ls 7 [(4, .int (nI (6 * n))), (3, .ref (a 48)), (2, .ref (a 33)), (1, .ref (a 0)), (0, .ref b)]) : W p l e room_1 s m #[Value.ref b] below meth c H locs (49 + n) (670223 + 6 * n) (lw_Z below #[Value.ref b] s) (F0 m 485 ls []) := by
  obtain ⟨hx, hb, hr, hml, hown, hts0, hX, hbl, hlocks, hgv⟩ := id C1
  have hts : ∀ w ∈ GT, w.before #[Value.ref b] s = true := fun w hw => hts0 w ((List.mem_filter.mp hw).1)
  have C0 : mw_C p s m #[Value.ref b] meth c code 7 ret R_La D9 cls9 (ty9 cB cI cJ cG) := ⟨hx, hb, hml, hr, hlocks, hown, hts, hK⟩
  have hA : ∀ q : Nat, s.heap.size ≤ q → (fun q : Nat => s.heap.size ≤ q) q := fun _ h => h
  have hbA : ¬ (fun q : Nat => s.heap.size ≤ q) b := Nat.not_le.mpr hbl
  refine lv_aload_n hx hb d_La_law_485 rfl (lv_at hl 3 rfl) ?_
  refine lv_aload_n hx hb d_La_law_486 rfl (lv_at hl 4 rfl) ?_
  refine lv_iload hx hb d_La_law_487 (lv_at hl 0 rfl) ?_
  refine lv_iconst (v := 1) hx hb d_La_law_489 (by decide) ?_
  refine lv_iadd hx hb d_La_law_490 ?_
  refine lv_topq (y := nI (6 * n + 1)) (nI_add _ 1) ?_
  refine va_sld hx hb hX hbl hbA hS (vp_in_nI (show 6 * n + 1 < L by omega) (by omega)) d_La_law_491 ?_
  refine lv_aload_n hx hb d_La_law_492 rfl (lv_at hl 1 rfl) ?_
  refine mk_cS C0 (s_header l D9 cB cI cJ cG a O I F hfl A hC hPS _) g_655 g_0 g_653 g_654 ⟨by decide +kernel, by decide +kernel, show Option.map (fun d => d.parameters.length) (parseMethodDescriptor y_La_header.desc) = some 3 by decide +kernel⟩ ⟨by decide, by decide⟩ rfl rfl (rz_Z hZ hS hD) h9 hP hD hS hA hl.1 (Nat.le_of_ble_eq_true rfl) rfl d_La_law_493 ⟨show 49 + n + 1 ≤ 601024 by omega, show 670223 + 6 * n + 6 ≤ 7293034 by omega⟩ (fun v9 w9 H locs hq hP hD hS => ?_)
  obtain ⟨k5, I1, F1, O1, rfl, rfl, hk1, an1, A1, hT1, hO1, hC1, hP1⟩ := hq
  have hR1 := RS_k hR hk1
  refine lv_istore (lv' := [(5, _), (4, _), (3, _), (2, _), (1, _), (0, _)]) hx hb d_La_law_496 hl (by decide) rfl (fun ls hl => ?_)
  refine lv_aload_n hx hb d_La_law_498 rfl (lv_at hl 3 rfl) ?_
  refine lv_aload_n hx hb d_La_law_499 rfl (lv_at hl 5 rfl) ?_
  refine lv_iload hx hb d_La_law_500 (lv_at hl 1 rfl) ?_
  refine lv_iconst (v := 1) hx hb d_La_law_502 (by decide) ?_
  refine lv_iadd hx hb d_La_law_503 ?_
  refine lv_topq (y := nI (6 * n + 1)) (nI_add _ 1) ?_
  refine va_sld hx hb hX hbl hbA hS (vp_in_nI (show 6 * n + 1 < L by omega) (by omega)) d_La_law_504 ?_
  refine mw_cV (ci := 7) (k := 33) C0 (r_header l D9 cB cI cJ cG a O1 I1 F1 A hR1 hPS _) g_951 g_8 g_948 g_949 g_950 ⟨by decide +kernel, by decide +kernel, show Option.map (fun d => d.parameters.length) (parseMethodDescriptor y_Mo_header.desc) = some 1 by decide +kernel⟩ ⟨by decide, by decide⟩ rfl rfl hP hD hS hA rfl ww_33 hl.1 (Nat.le_of_ble_eq_true rfl) rfl d_La_law_505 ⟨show 49 + n + 1 + 0 ≤ 601024 by omega, show 670223 + 6 * n + 6 + 0 ≤ 7293034 by omega⟩ (fun v9 w9 H locs hq hP hD hS => ?_)
  obtain ⟨I2, F2, rfl, hk2, b6, an2, A2, rfl, hT2, hb2, hR2⟩ := hq
  obtain ⟨hkx, hz0, hAA⟩ := u_header hPS _ _ _ _ _ _ hT1 hT2
  subst hAA
  have hz : k5 = 0 → O1 0 = b6.toInt64 := fun h => by rw [hO1 h, hz0 h, hb2 (hkx.symm.trans h)]
  have hPx := hP1
  have hCx := CS_k hC1 hPx.2.1 hk2
  have hRx := hR2
  refine lv_istore (lv' := [(6, _), (5, _), (4, _), (3, _), (2, _), (1, _), (0, _)]) hx hb d_La_law_508 hl (by decide) rfl (fun ls hl => ?_)
  refine lv_goto (tgt := 770) hx hb d_La_law_510 (by decide) ?_
  refine W.widen (k := 49 + n + 1) (n := 670223 + 6 * n + 6) (by omega) (by omega) ?_
  exact hnext _ _ _ _ _ _ _ hCx hRx hPx hP hD hS (lv_pk hl [2, 3, 4, 5, 6] rfl)
set_option maxHeartbeats 4000000 in
set_option maxRecDepth 100000 in
theorem law_case_11 (l : Launch) (hfl : l.flags = flags0) {p : Program} {e : Env} {s : State} {m : MethodId} {below : List Frame} {meth : Method} {c : Code} {b L : Nat} {xs : Nat → Int32} (C1 : lw_At p s m meth c b L xs) (hL : L ≤ 3072) (D9 : va_G) (cB cI cJ cG : ClassId) (hK : va_K D9 cls9 (ty9 cB cI cJ cG) s) (hZ : tx_Z (fun q : Nat => s.heap.size ≤ q) s s.heap) (h9 : no8 s) (a : Nat → Nat) (n : Nat) (hn : 6 * n + 6 ≤ L) (hnext : lw_K l p e s m below meth c b D9 cB cI cJ cG a n) (I : Nat → Int32) (F : Nat → Nat → Int32) (O : Nat → Int64) (A : Ab) (hC : CS I F A) (hR : RS I F A) (hPS : PS A) {H : Heap} {locs : List Loc} (hP : va_P D9 cls9 (WW a cB cI cJ cG I F O) H) (hD : va_D (fun q : Nat => s.heap.size ≤ q) (WW a cB cI cJ cG I F O)) (hS : va_S (fun q : Nat => s.heap.size ≤ q) s.heap H locs) {ls : Array Slot} (hl : lv_has ls 7 [(4, .int (nI (6 * n))), (3, .ref (a 48)), (2, .ref (a 33)), (1, .ref (a 0)), (0, .ref b)]) : W p l e room_1 s m #[Value.ref b] below meth c H locs (49 + n) (670223 + 6 * n) (lw_Z below #[Value.ref b] s) (F0 m 513 ls []) := by
  obtain ⟨hx, hb, hr, hml, hown, hts0, hX, hbl, hlocks, hgv⟩ := id C1
  have hts : ∀ w ∈ GT, w.before #[Value.ref b] s = true := fun w hw => hts0 w ((List.mem_filter.mp hw).1)
  have C0 : mw_C p s m #[Value.ref b] meth c code 7 ret R_La D9 cls9 (ty9 cB cI cJ cG) := ⟨hx, hb, hml, hr, hlocks, hown, hts, hK⟩
  have hA : ∀ q : Nat, s.heap.size ≤ q → (fun q : Nat => s.heap.size ≤ q) q := fun _ h => h
  have hbA : ¬ (fun q : Nat => s.heap.size ≤ q) b := Nat.not_le.mpr hbl
  refine lv_aload_n hx hb d_La_law_513 rfl (lv_at hl 3 rfl) ?_
  refine lv_aload_n hx hb d_La_law_514 rfl (lv_at hl 4 rfl) ?_
  refine lv_iload hx hb d_La_law_515 (lv_at hl 0 rfl) ?_
  refine lv_iconst (v := 1) hx hb d_La_law_517 (by decide) ?_
  refine lv_iadd hx hb d_La_law_518 ?_
  refine lv_topq (y := nI (6 * n + 1)) (nI_add _ 1) ?_
  refine va_sld hx hb hX hbl hbA hS (vp_in_nI (show 6 * n + 1 < L by omega) (by omega)) d_La_law_519 ?_
  refine lv_aload_n hx hb d_La_law_520 rfl (lv_at hl 4 rfl) ?_
  refine lv_iload hx hb d_La_law_521 (lv_at hl 0 rfl) ?_
  refine lv_iconst (v := 2) hx hb d_La_law_523 (by decide) ?_
  refine lv_iadd hx hb d_La_law_524 ?_
  refine lv_topq (y := nI (6 * n + 2)) (nI_add _ 2) ?_
  refine va_sld hx hb hX hbl hbA hS (vp_in_nI (show 6 * n + 2 < L by omega) (by omega)) d_La_law_525 ?_
  refine lv_aload_n hx hb d_La_law_526 rfl (lv_at hl 4 rfl) ?_
  refine lv_iload hx hb d_La_law_527 (lv_at hl 0 rfl) ?_
  refine lv_iconst (v := 3) hx hb d_La_law_529 (by decide) ?_
  refine lv_iadd hx hb d_La_law_530 ?_
  refine lv_topq (y := nI (6 * n + 3)) (nI_add _ 3) ?_
  refine va_sld hx hb hX hbl hbA hS (vp_in_nI (show 6 * n + 3 < L by omega) (by omega)) d_La_law_531 ?_
  refine lv_aload_n hx hb d_La_law_532 rfl (lv_at hl 1 rfl) ?_
  refine mk_cS C0 (s_told l D9 cB cI cJ cG a O I F hfl A hC hPS _ _ _) g_662 g_0 g_660 g_661 ⟨by decide +kernel, by decide +kernel, show Option.map (fun d => d.parameters.length) (parseMethodDescriptor y_La_told.desc) = some 5 by decide +kernel⟩ ⟨by decide, by decide⟩ rfl rfl (rz_Z hZ hS hD) h9 hP hD hS hA hl.1 (Nat.le_of_ble_eq_true rfl) rfl d_La_law_533 ⟨show 49 + n + 1 ≤ 601024 by omega, show 670223 + 6 * n + 6 ≤ 7293034 by omega⟩ (fun v9 w9 H locs hq hP hD hS => ?_)
  obtain ⟨k5, I1, F1, O1, rfl, rfl, hk1, an1, A1, hT1, hO1, hC1, hP1⟩ := hq
  have hR1 := RS_k hR hk1
  refine lv_istore (lv' := [(5, _), (4, _), (3, _), (2, _), (1, _), (0, _)]) hx hb d_La_law_536 hl (by decide) rfl (fun ls hl => ?_)
  refine lv_aload_n hx hb d_La_law_538 rfl (lv_at hl 3 rfl) ?_
  refine lv_aload_n hx hb d_La_law_539 rfl (lv_at hl 5 rfl) ?_
  refine lv_iload hx hb d_La_law_540 (lv_at hl 1 rfl) ?_
  refine lv_iconst (v := 1) hx hb d_La_law_542 (by decide) ?_
  refine lv_iadd hx hb d_La_law_543 ?_
  refine lv_topq (y := nI (6 * n + 1)) (nI_add _ 1) ?_
  refine va_sld hx hb hX hbl hbA hS (vp_in_nI (show 6 * n + 1 < L by omega) (by omega)) d_La_law_544 ?_
  refine lv_aload_n hx hb d_La_law_545 rfl (lv_at hl 5 rfl) ?_
  refine lv_iload hx hb d_La_law_546 (lv_at hl 1 rfl) ?_
  refine lv_iconst (v := 2) hx hb d_La_law_548 (by decide) ?_
  refine lv_iadd hx hb d_La_law_549 ?_
  refine lv_topq (y := nI (6 * n + 2)) (nI_add _ 2) ?_
  refine va_sld hx hb hX hbl hbA hS (vp_in_nI (show 6 * n + 2 < L by omega) (by omega)) d_La_law_550 ?_
  refine lv_aload_n hx hb d_La_law_551 rfl (lv_at hl 5 rfl) ?_
  refine lv_iload hx hb d_La_law_552 (lv_at hl 1 rfl) ?_
  refine lv_iconst (v := 3) hx hb d_La_law_554 (by decide) ?_
  refine lv_iadd hx hb d_La_law_555 ?_
  refine lv_topq (y := nI (6 * n + 3)) (nI_add _ 3) ?_
  refine va_sld hx hb hX hbl hbA hS (vp_in_nI (show 6 * n + 3 < L by omega) (by omega)) d_La_law_556 ?_
  refine mw_cV (ci := 7) (k := 33) C0 (r_told l D9 cB cI cJ cG a O1 I1 F1 A hR1 hPS _ _ _) g_955 g_8 g_952 g_953 g_954 ⟨by decide +kernel, by decide +kernel, show Option.map (fun d => d.parameters.length) (parseMethodDescriptor y_Mo_told.desc) = some 3 by decide +kernel⟩ ⟨by decide, by decide⟩ rfl rfl hP hD hS hA rfl ww_33 hl.1 (Nat.le_of_ble_eq_true rfl) rfl d_La_law_557 ⟨show 49 + n + 1 + 0 ≤ 601024 by omega, show 670223 + 6 * n + 6 + 0 ≤ 7293034 by omega⟩ (fun v9 w9 H locs hq hP hD hS => ?_)
  obtain ⟨I2, F2, rfl, hk2, b6, an2, A2, rfl, hT2, hb2, hR2⟩ := hq
  obtain ⟨hkx, hz0, hAA⟩ := u_told hPS _ _ _ _ _ _ hT1 hT2
  subst hAA
  have hz : k5 = 0 → O1 0 = b6.toInt64 := fun h => by rw [hO1 h, hz0 h, hb2 (hkx.symm.trans h)]
  have hPx := hP1
  have hCx := CS_k hC1 hPx.2.1 hk2
  have hRx := hR2
  refine lv_istore (lv' := [(6, _), (5, _), (4, _), (3, _), (2, _), (1, _), (0, _)]) hx hb d_La_law_560 hl (by decide) rfl (fun ls hl => ?_)
  refine lv_goto (tgt := 770) hx hb d_La_law_562 (by decide) ?_
  refine W.widen (k := 49 + n + 1) (n := 670223 + 6 * n + 6) (by omega) (by omega) ?_
  exact hnext _ _ _ _ _ _ _ hCx hRx hPx hP hD hS (lv_pk hl [2, 3, 4, 5, 6] rfl)
set_option maxHeartbeats 4000000 in
set_option maxRecDepth 100000 in
theorem law_case_12 (l : Launch) (hfl : l.flags = flags0) {p : Program} {e : Env} {s : State} {m : MethodId} {below : List Frame} {meth : Method} {c : Code} {b L : Nat} {xs : Nat → Int32} (C1 : lw_At p s m meth c b L xs) (hL : L ≤ 3072) (D9 : va_G) (cB cI cJ cG : ClassId) (hK : va_K D9 cls9 (ty9 cB cI cJ cG) s) (hZ : tx_Z (fun q : Nat => s.heap.size ≤ q) s s.heap) (h9 : no8 s) (a : Nat → Nat) (n : Nat) (hn : 6 * n + 6 ≤ L) (hnext : lw_K l p e s m below meth c b D9 cB cI cJ cG a n) (I : Nat → Int32) (F : Nat → Nat → Int32) (O : Nat → Int64) (A : Ab) (hC : CS I F A) (hR : RS I F A) (hPS : PS A) {H : Heap} {locs : List Loc} (hP : va_P D9 cls9 (WW a cB cI cJ cG I F O) H) (hD : va_D (fun q : Nat => s.heap.size ≤ q) (WW a cB cI cJ cG I F O)) (hS : va_S (fun q : Nat => s.heap.size ≤ q) s.heap H locs) {ls : Array Slot} (hl : lv_has ls 7 [(4, .int (nI (6 * n))), (3, .ref (a 48)), (2, .ref (a 33)), (1, .ref (a 0)), (0, .ref b)]) : W p l e room_1 s m #[Value.ref b] below meth c H locs (49 + n) (670223 + 6 * n) (lw_Z below #[Value.ref b] s) (F0 m 565 ls []) := by
  obtain ⟨hx, hb, hr, hml, hown, hts0, hX, hbl, hlocks, hgv⟩ := id C1
  have hts : ∀ w ∈ GT, w.before #[Value.ref b] s = true := fun w hw => hts0 w ((List.mem_filter.mp hw).1)
  have C0 : mw_C p s m #[Value.ref b] meth c code 7 ret R_La D9 cls9 (ty9 cB cI cJ cG) := ⟨hx, hb, hml, hr, hlocks, hown, hts, hK⟩
  have hA : ∀ q : Nat, s.heap.size ≤ q → (fun q : Nat => s.heap.size ≤ q) q := fun _ h => h
  have hbA : ¬ (fun q : Nat => s.heap.size ≤ q) b := Nat.not_le.mpr hbl
  refine lv_aload_n hx hb d_La_law_565 rfl (lv_at hl 3 rfl) ?_
  refine lv_aload_n hx hb d_La_law_566 rfl (lv_at hl 4 rfl) ?_
  refine lv_iload hx hb d_La_law_567 (lv_at hl 0 rfl) ?_
  refine lv_iconst (v := 1) hx hb d_La_law_569 (by decide) ?_
  refine lv_iadd hx hb d_La_law_570 ?_
  refine lv_topq (y := nI (6 * n + 1)) (nI_add _ 1) ?_
  refine va_sld hx hb hX hbl hbA hS (vp_in_nI (show 6 * n + 1 < L by omega) (by omega)) d_La_law_571 ?_
  refine lv_aload_n hx hb d_La_law_572 rfl (lv_at hl 4 rfl) ?_
  refine lv_iload hx hb d_La_law_573 (lv_at hl 0 rfl) ?_
  refine lv_iconst (v := 2) hx hb d_La_law_575 (by decide) ?_
  refine lv_iadd hx hb d_La_law_576 ?_
  refine lv_topq (y := nI (6 * n + 2)) (nI_add _ 2) ?_
  refine va_sld hx hb hX hbl hbA hS (vp_in_nI (show 6 * n + 2 < L by omega) (by omega)) d_La_law_577 ?_
  refine lv_aload_n hx hb d_La_law_578 rfl (lv_at hl 4 rfl) ?_
  refine lv_iload hx hb d_La_law_579 (lv_at hl 0 rfl) ?_
  refine lv_iconst (v := 3) hx hb d_La_law_581 (by decide) ?_
  refine lv_iadd hx hb d_La_law_582 ?_
  refine lv_topq (y := nI (6 * n + 3)) (nI_add _ 3) ?_
  refine va_sld hx hb hX hbl hbA hS (vp_in_nI (show 6 * n + 3 < L by omega) (by omega)) d_La_law_583 ?_
  refine lv_aload_n hx hb d_La_law_584 rfl (lv_at hl 1 rfl) ?_
  refine mk_cS C0 (s_byteOf l D9 cB cI cJ cG a O I F hfl A hC hPS _ _ _) g_677 g_0 g_675 g_676 ⟨by decide +kernel, by decide +kernel, show Option.map (fun d => d.parameters.length) (parseMethodDescriptor y_La_byteOf.desc) = some 5 by decide +kernel⟩ ⟨by decide, by decide⟩ rfl rfl (rz_Z hZ hS hD) h9 hP hD hS hA hl.1 (Nat.le_of_ble_eq_true rfl) rfl d_La_law_585 ⟨show 49 + n + 1 ≤ 601024 by omega, show 670223 + 6 * n + 6 ≤ 7293034 by omega⟩ (fun v9 w9 H locs hq hP hD hS => ?_)
  obtain ⟨k5, I1, F1, O1, rfl, rfl, hk1, an1, A1, hT1, hO1, hC1, hP1⟩ := hq
  have hR1 := RS_k hR hk1
  refine lv_istore (lv' := [(5, _), (4, _), (3, _), (2, _), (1, _), (0, _)]) hx hb d_La_law_588 hl (by decide) rfl (fun ls hl => ?_)
  refine lv_aload_n hx hb d_La_law_590 rfl (lv_at hl 3 rfl) ?_
  refine lv_aload_n hx hb d_La_law_591 rfl (lv_at hl 5 rfl) ?_
  refine lv_iload hx hb d_La_law_592 (lv_at hl 1 rfl) ?_
  refine lv_iconst (v := 1) hx hb d_La_law_594 (by decide) ?_
  refine lv_iadd hx hb d_La_law_595 ?_
  refine lv_topq (y := nI (6 * n + 1)) (nI_add _ 1) ?_
  refine va_sld hx hb hX hbl hbA hS (vp_in_nI (show 6 * n + 1 < L by omega) (by omega)) d_La_law_596 ?_
  refine lv_aload_n hx hb d_La_law_597 rfl (lv_at hl 5 rfl) ?_
  refine lv_iload hx hb d_La_law_598 (lv_at hl 1 rfl) ?_
  refine lv_iconst (v := 2) hx hb d_La_law_600 (by decide) ?_
  refine lv_iadd hx hb d_La_law_601 ?_
  refine lv_topq (y := nI (6 * n + 2)) (nI_add _ 2) ?_
  refine va_sld hx hb hX hbl hbA hS (vp_in_nI (show 6 * n + 2 < L by omega) (by omega)) d_La_law_602 ?_
  refine lv_aload_n hx hb d_La_law_603 rfl (lv_at hl 5 rfl) ?_
  refine lv_iload hx hb d_La_law_604 (lv_at hl 1 rfl) ?_
  refine lv_iconst (v := 3) hx hb d_La_law_606 (by decide) ?_
  refine lv_iadd hx hb d_La_law_607 ?_
  refine lv_topq (y := nI (6 * n + 3)) (nI_add _ 3) ?_
  refine va_sld hx hb hX hbl hbA hS (vp_in_nI (show 6 * n + 3 < L by omega) (by omega)) d_La_law_608 ?_
  refine mw_cV (ci := 7) (k := 33) C0 (r_byteOf l D9 cB cI cJ cG a O1 I1 F1 A hR1 hPS _ _ _) g_963 g_8 g_960 g_961 g_962 ⟨by decide +kernel, by decide +kernel, show Option.map (fun d => d.parameters.length) (parseMethodDescriptor y_Mo_byteOf.desc) = some 3 by decide +kernel⟩ ⟨by decide, by decide⟩ rfl rfl hP hD hS hA rfl ww_33 hl.1 (Nat.le_of_ble_eq_true rfl) rfl d_La_law_609 ⟨show 49 + n + 1 + 0 ≤ 601024 by omega, show 670223 + 6 * n + 6 + 0 ≤ 7293034 by omega⟩ (fun v9 w9 H locs hq hP hD hS => ?_)
  obtain ⟨I2, F2, rfl, hk2, b6, an2, A2, rfl, hT2, hb2, hR2⟩ := hq
  obtain ⟨hkx, hz0, hAA⟩ := u_byteOf hPS _ _ _ _ _ _ hT1 hT2
  subst hAA
  have hz : k5 = 0 → O1 0 = b6.toInt64 := fun h => by rw [hO1 h, hz0 h, hb2 (hkx.symm.trans h)]
  have hPx := hP1
  have hCx := CS_k hC1 hPx.2.1 hk2
  have hRx := hR2
  refine lv_istore (lv' := [(6, _), (5, _), (4, _), (3, _), (2, _), (1, _), (0, _)]) hx hb d_La_law_612 hl (by decide) rfl (fun ls hl => ?_)
  refine lv_goto (tgt := 770) hx hb d_La_law_614 (by decide) ?_
  refine W.widen (k := 49 + n + 1) (n := 670223 + 6 * n + 6) (by omega) (by omega) ?_
  exact hnext _ _ _ _ _ _ _ hCx hRx hPx hP hD hS (lv_pk hl [2, 3, 4, 5, 6] rfl)
set_option maxHeartbeats 4000000 in
set_option maxRecDepth 100000 in
theorem law_case_13 (l : Launch) (hfl : l.flags = flags0) {p : Program} {e : Env} {s : State} {m : MethodId} {below : List Frame} {meth : Method} {c : Code} {b L : Nat} {xs : Nat → Int32} (C1 : lw_At p s m meth c b L xs) (hL : L ≤ 3072) (D9 : va_G) (cB cI cJ cG : ClassId) (hK : va_K D9 cls9 (ty9 cB cI cJ cG) s) (hZ : tx_Z (fun q : Nat => s.heap.size ≤ q) s s.heap) (h9 : no8 s) (a : Nat → Nat) (n : Nat) (hn : 6 * n + 6 ≤ L) (hnext : lw_K l p e s m below meth c b D9 cB cI cJ cG a n) (I : Nat → Int32) (F : Nat → Nat → Int32) (O : Nat → Int64) (A : Ab) (hC : CS I F A) (hR : RS I F A) (hPS : PS A) {H : Heap} {locs : List Loc} (hP : va_P D9 cls9 (WW a cB cI cJ cG I F O) H) (hD : va_D (fun q : Nat => s.heap.size ≤ q) (WW a cB cI cJ cG I F O)) (hS : va_S (fun q : Nat => s.heap.size ≤ q) s.heap H locs) {ls : Array Slot} (hl : lv_has ls 7 [(4, .int (nI (6 * n))), (3, .ref (a 48)), (2, .ref (a 33)), (1, .ref (a 0)), (0, .ref b)]) : W p l e room_1 s m #[Value.ref b] below meth c H locs (49 + n) (670223 + 6 * n) (lw_Z below #[Value.ref b] s) (F0 m 617 ls []) := by
  obtain ⟨hx, hb, hr, hml, hown, hts0, hX, hbl, hlocks, hgv⟩ := id C1
  have hts : ∀ w ∈ GT, w.before #[Value.ref b] s = true := fun w hw => hts0 w ((List.mem_filter.mp hw).1)
  have C0 : mw_C p s m #[Value.ref b] meth c code 7 ret R_La D9 cls9 (ty9 cB cI cJ cG) := ⟨hx, hb, hml, hr, hlocks, hown, hts, hK⟩
  have hA : ∀ q : Nat, s.heap.size ≤ q → (fun q : Nat => s.heap.size ≤ q) q := fun _ h => h
  have hbA : ¬ (fun q : Nat => s.heap.size ≤ q) b := Nat.not_le.mpr hbl
  refine lv_aload_n hx hb d_La_law_617 rfl (lv_at hl 3 rfl) ?_
  refine lv_aload_n hx hb d_La_law_618 rfl (lv_at hl 4 rfl) ?_
  refine lv_iload hx hb d_La_law_619 (lv_at hl 0 rfl) ?_
  refine lv_iconst (v := 1) hx hb d_La_law_621 (by decide) ?_
  refine lv_iadd hx hb d_La_law_622 ?_
  refine lv_topq (y := nI (6 * n + 1)) (nI_add _ 1) ?_
  refine va_sld hx hb hX hbl hbA hS (vp_in_nI (show 6 * n + 1 < L by omega) (by omega)) d_La_law_623 ?_
  refine lv_aload_n hx hb d_La_law_624 rfl (lv_at hl 4 rfl) ?_
  refine lv_iload hx hb d_La_law_625 (lv_at hl 0 rfl) ?_
  refine lv_iconst (v := 2) hx hb d_La_law_627 (by decide) ?_
  refine lv_iadd hx hb d_La_law_628 ?_
  refine lv_topq (y := nI (6 * n + 2)) (nI_add _ 2) ?_
  refine va_sld hx hb hX hbl hbA hS (vp_in_nI (show 6 * n + 2 < L by omega) (by omega)) d_La_law_629 ?_
  refine lv_aload_n hx hb d_La_law_630 rfl (lv_at hl 4 rfl) ?_
  refine lv_iload hx hb d_La_law_631 (lv_at hl 0 rfl) ?_
  refine lv_iconst (v := 3) hx hb d_La_law_633 (by decide) ?_
  refine lv_iadd hx hb d_La_law_634 ?_
  refine lv_topq (y := nI (6 * n + 3)) (nI_add _ 3) ?_
  refine va_sld hx hb hX hbl hbA hS (vp_in_nI (show 6 * n + 3 < L by omega) (by omega)) d_La_law_635 ?_
  refine lv_aload_n hx hb d_La_law_636 rfl (lv_at hl 4 rfl) ?_
  refine lv_iload hx hb d_La_law_637 (lv_at hl 0 rfl) ?_
  refine lv_iconst (v := 4) hx hb d_La_law_639 (by decide) ?_
  refine lv_iadd hx hb d_La_law_640 ?_
  refine lv_topq (y := nI (6 * n + 4)) (nI_add _ 4) ?_
  refine va_sld hx hb hX hbl hbA hS (vp_in_nI (show 6 * n + 4 < L by omega) (by omega)) d_La_law_641 ?_
  refine lv_aload_n hx hb d_La_law_642 rfl (lv_at hl 1 rfl) ?_
  refine mk_cS C0 (s_same l D9 cB cI cJ cG a O I F hfl A hC hPS _ _ _ _) g_684 g_0 g_682 g_683 ⟨by decide +kernel, by decide +kernel, show Option.map (fun d => d.parameters.length) (parseMethodDescriptor y_La_same.desc) = some 6 by decide +kernel⟩ ⟨by decide, by decide⟩ rfl rfl (rz_Z hZ hS hD) h9 hP hD hS hA hl.1 (Nat.le_of_ble_eq_true rfl) rfl d_La_law_643 ⟨show 49 + n + 1 ≤ 601024 by omega, show 670223 + 6 * n + 6 ≤ 7293034 by omega⟩ (fun v9 w9 H locs hq hP hD hS => ?_)
  obtain ⟨k5, I1, F1, O1, rfl, rfl, hk1, hT1, hC1, hP1⟩ := hq
  have hR1 := RS_k hR hk1
  refine lv_istore (lv' := [(5, _), (4, _), (3, _), (2, _), (1, _), (0, _)]) hx hb d_La_law_646 hl (by decide) rfl (fun ls hl => ?_)
  refine lv_aload_n hx hb d_La_law_648 rfl (lv_at hl 3 rfl) ?_
  refine lv_aload_n hx hb d_La_law_649 rfl (lv_at hl 5 rfl) ?_
  refine lv_iload hx hb d_La_law_650 (lv_at hl 1 rfl) ?_
  refine lv_iconst (v := 1) hx hb d_La_law_652 (by decide) ?_
  refine lv_iadd hx hb d_La_law_653 ?_
  refine lv_topq (y := nI (6 * n + 1)) (nI_add _ 1) ?_
  refine va_sld hx hb hX hbl hbA hS (vp_in_nI (show 6 * n + 1 < L by omega) (by omega)) d_La_law_654 ?_
  refine lv_aload_n hx hb d_La_law_655 rfl (lv_at hl 5 rfl) ?_
  refine lv_iload hx hb d_La_law_656 (lv_at hl 1 rfl) ?_
  refine lv_iconst (v := 2) hx hb d_La_law_658 (by decide) ?_
  refine lv_iadd hx hb d_La_law_659 ?_
  refine lv_topq (y := nI (6 * n + 2)) (nI_add _ 2) ?_
  refine va_sld hx hb hX hbl hbA hS (vp_in_nI (show 6 * n + 2 < L by omega) (by omega)) d_La_law_660 ?_
  refine lv_aload_n hx hb d_La_law_661 rfl (lv_at hl 5 rfl) ?_
  refine lv_iload hx hb d_La_law_662 (lv_at hl 1 rfl) ?_
  refine lv_iconst (v := 3) hx hb d_La_law_664 (by decide) ?_
  refine lv_iadd hx hb d_La_law_665 ?_
  refine lv_topq (y := nI (6 * n + 3)) (nI_add _ 3) ?_
  refine va_sld hx hb hX hbl hbA hS (vp_in_nI (show 6 * n + 3 < L by omega) (by omega)) d_La_law_666 ?_
  refine lv_aload_n hx hb d_La_law_667 rfl (lv_at hl 5 rfl) ?_
  refine lv_iload hx hb d_La_law_668 (lv_at hl 1 rfl) ?_
  refine lv_iconst (v := 4) hx hb d_La_law_670 (by decide) ?_
  refine lv_iadd hx hb d_La_law_671 ?_
  refine lv_topq (y := nI (6 * n + 4)) (nI_add _ 4) ?_
  refine va_sld hx hb hX hbl hbA hS (vp_in_nI (show 6 * n + 4 < L by omega) (by omega)) d_La_law_672 ?_
  refine mw_cV (ci := 7) (k := 33) C0 (r_same l D9 cB cI cJ cG a O1 I1 F1 A hR1 hPS _ _ _ _) g_967 g_8 g_964 g_965 g_966 ⟨by decide +kernel, by decide +kernel, show Option.map (fun d => d.parameters.length) (parseMethodDescriptor y_Mo_same.desc) = some 4 by decide +kernel⟩ ⟨by decide, by decide⟩ rfl rfl hP hD hS hA rfl ww_33 hl.1 (Nat.le_of_ble_eq_true rfl) rfl d_La_law_673 ⟨show 49 + n + 1 + 0 ≤ 601024 by omega, show 670223 + 6 * n + 6 + 0 ≤ 7293034 by omega⟩ (fun v9 w9 H locs hq hP hD hS => ?_)
  obtain ⟨I2, F2, rfl, hk2, ⟨b6, rfl⟩, hT2, hR2⟩ := hq
  have hPx := hPS
  have hCx := CS_k hC1 hPx.2.1 hk2
  have hRx := hR2
  refine lv_istore (lv' := [(6, _), (5, _), (4, _), (3, _), (2, _), (1, _), (0, _)]) hx hb d_La_law_676 hl (by decide) rfl (fun ls hl => ?_)
  refine lv_goto (tgt := 770) hx hb d_La_law_678 (by decide) ?_
  refine W.widen (k := 49 + n + 1) (n := 670223 + 6 * n + 6) (by omega) (by omega) ?_
  exact hnext _ _ _ _ _ _ _ hCx hRx hPx hP hD hS (lv_pk hl [2, 3, 4, 5, 6] rfl)
set_option maxHeartbeats 4000000 in
set_option maxRecDepth 100000 in
theorem law_case_14 (l : Launch) (hfl : l.flags = flags0) {p : Program} {e : Env} {s : State} {m : MethodId} {below : List Frame} {meth : Method} {c : Code} {b L : Nat} {xs : Nat → Int32} (C1 : lw_At p s m meth c b L xs) (hL : L ≤ 3072) (D9 : va_G) (cB cI cJ cG : ClassId) (hK : va_K D9 cls9 (ty9 cB cI cJ cG) s) (hZ : tx_Z (fun q : Nat => s.heap.size ≤ q) s s.heap) (h9 : no8 s) (a : Nat → Nat) (n : Nat) (hn : 6 * n + 6 ≤ L) (hnext : lw_K l p e s m below meth c b D9 cB cI cJ cG a n) (I : Nat → Int32) (F : Nat → Nat → Int32) (O : Nat → Int64) (A : Ab) (hC : CS I F A) (hR : RS I F A) (hPS : PS A) {H : Heap} {locs : List Loc} (hP : va_P D9 cls9 (WW a cB cI cJ cG I F O) H) (hD : va_D (fun q : Nat => s.heap.size ≤ q) (WW a cB cI cJ cG I F O)) (hS : va_S (fun q : Nat => s.heap.size ≤ q) s.heap H locs) {ls : Array Slot} (hl : lv_has ls 7 [(4, .int (nI (6 * n))), (3, .ref (a 48)), (2, .ref (a 33)), (1, .ref (a 0)), (0, .ref b)]) : W p l e room_1 s m #[Value.ref b] below meth c H locs (49 + n) (670223 + 6 * n) (lw_Z below #[Value.ref b] s) (F0 m 681 ls []) := by
  obtain ⟨hx, hb, hr, hml, hown, hts0, hX, hbl, hlocks, hgv⟩ := id C1
  have hts : ∀ w ∈ GT, w.before #[Value.ref b] s = true := fun w hw => hts0 w ((List.mem_filter.mp hw).1)
  have C0 : mw_C p s m #[Value.ref b] meth c code 7 ret R_La D9 cls9 (ty9 cB cI cJ cG) := ⟨hx, hb, hml, hr, hlocks, hown, hts, hK⟩
  have hA : ∀ q : Nat, s.heap.size ≤ q → (fun q : Nat => s.heap.size ≤ q) q := fun _ h => h
  have hbA : ¬ (fun q : Nat => s.heap.size ≤ q) b := Nat.not_le.mpr hbl
  refine lv_aload_n hx hb d_La_law_681 rfl (lv_at hl 3 rfl) ?_
  refine lv_aload_n hx hb d_La_law_682 rfl (lv_at hl 4 rfl) ?_
  refine lv_iload hx hb d_La_law_683 (lv_at hl 0 rfl) ?_
  refine lv_iconst (v := 1) hx hb d_La_law_685 (by decide) ?_
  refine lv_iadd hx hb d_La_law_686 ?_
  refine lv_topq (y := nI (6 * n + 1)) (nI_add _ 1) ?_
  refine va_sld hx hb hX hbl hbA hS (vp_in_nI (show 6 * n + 1 < L by omega) (by omega)) d_La_law_687 ?_
  refine lv_aload_n hx hb d_La_law_688 rfl (lv_at hl 4 rfl) ?_
  refine lv_iload hx hb d_La_law_689 (lv_at hl 0 rfl) ?_
  refine lv_iconst (v := 2) hx hb d_La_law_691 (by decide) ?_
  refine lv_iadd hx hb d_La_law_692 ?_
  refine lv_topq (y := nI (6 * n + 2)) (nI_add _ 2) ?_
  refine va_sld hx hb hX hbl hbA hS (vp_in_nI (show 6 * n + 2 < L by omega) (by omega)) d_La_law_693 ?_
  refine lv_aload_n hx hb d_La_law_694 rfl (lv_at hl 4 rfl) ?_
  refine lv_iload hx hb d_La_law_695 (lv_at hl 0 rfl) ?_
  refine lv_iconst (v := 3) hx hb d_La_law_697 (by decide) ?_
  refine lv_iadd hx hb d_La_law_698 ?_
  refine lv_topq (y := nI (6 * n + 3)) (nI_add _ 3) ?_
  refine va_sld hx hb hX hbl hbA hS (vp_in_nI (show 6 * n + 3 < L by omega) (by omega)) d_La_law_699 ?_
  refine lv_aload_n hx hb d_La_law_700 rfl (lv_at hl 4 rfl) ?_
  refine lv_iload hx hb d_La_law_701 (lv_at hl 0 rfl) ?_
  refine lv_iconst (v := 4) hx hb d_La_law_703 (by decide) ?_
  refine lv_iadd hx hb d_La_law_704 ?_
  refine lv_topq (y := nI (6 * n + 4)) (nI_add _ 4) ?_
  refine va_sld hx hb hX hbl hbA hS (vp_in_nI (show 6 * n + 4 < L by omega) (by omega)) d_La_law_705 ?_
  refine lv_aload_n hx hb d_La_law_706 rfl (lv_at hl 1 rfl) ?_
  refine mk_cS C0 (s_order l D9 cB cI cJ cG a O I F hfl A hC hPS _ _ _ _) g_707 g_0 g_705 g_706 ⟨by decide +kernel, by decide +kernel, show Option.map (fun d => d.parameters.length) (parseMethodDescriptor y_La_order.desc) = some 6 by decide +kernel⟩ ⟨by decide, by decide⟩ rfl rfl (rz_Z hZ hS hD) h9 hP hD hS hA hl.1 (Nat.le_of_ble_eq_true rfl) rfl d_La_law_707 ⟨show 49 + n + 1 ≤ 601024 by omega, show 670223 + 6 * n + 6 ≤ 7293034 by omega⟩ (fun v9 w9 H locs hq hP hD hS => ?_)
  obtain ⟨k5, I1, F1, O1, rfl, rfl, hk1, an1, A1, hT1, hO1, hC1, hP1⟩ := hq
  have hR1 := RS_k hR hk1
  refine lv_istore (lv' := [(5, _), (4, _), (3, _), (2, _), (1, _), (0, _)]) hx hb d_La_law_710 hl (by decide) rfl (fun ls hl => ?_)
  refine lv_aload_n hx hb d_La_law_712 rfl (lv_at hl 3 rfl) ?_
  refine lv_aload_n hx hb d_La_law_713 rfl (lv_at hl 5 rfl) ?_
  refine lv_iload hx hb d_La_law_714 (lv_at hl 1 rfl) ?_
  refine lv_iconst (v := 1) hx hb d_La_law_716 (by decide) ?_
  refine lv_iadd hx hb d_La_law_717 ?_
  refine lv_topq (y := nI (6 * n + 1)) (nI_add _ 1) ?_
  refine va_sld hx hb hX hbl hbA hS (vp_in_nI (show 6 * n + 1 < L by omega) (by omega)) d_La_law_718 ?_
  refine lv_aload_n hx hb d_La_law_719 rfl (lv_at hl 5 rfl) ?_
  refine lv_iload hx hb d_La_law_720 (lv_at hl 1 rfl) ?_
  refine lv_iconst (v := 2) hx hb d_La_law_722 (by decide) ?_
  refine lv_iadd hx hb d_La_law_723 ?_
  refine lv_topq (y := nI (6 * n + 2)) (nI_add _ 2) ?_
  refine va_sld hx hb hX hbl hbA hS (vp_in_nI (show 6 * n + 2 < L by omega) (by omega)) d_La_law_724 ?_
  refine lv_aload_n hx hb d_La_law_725 rfl (lv_at hl 5 rfl) ?_
  refine lv_iload hx hb d_La_law_726 (lv_at hl 1 rfl) ?_
  refine lv_iconst (v := 3) hx hb d_La_law_728 (by decide) ?_
  refine lv_iadd hx hb d_La_law_729 ?_
  refine lv_topq (y := nI (6 * n + 3)) (nI_add _ 3) ?_
  refine va_sld hx hb hX hbl hbA hS (vp_in_nI (show 6 * n + 3 < L by omega) (by omega)) d_La_law_730 ?_
  refine lv_aload_n hx hb d_La_law_731 rfl (lv_at hl 5 rfl) ?_
  refine lv_iload hx hb d_La_law_732 (lv_at hl 1 rfl) ?_
  refine lv_iconst (v := 4) hx hb d_La_law_734 (by decide) ?_
  refine lv_iadd hx hb d_La_law_735 ?_
  refine lv_topq (y := nI (6 * n + 4)) (nI_add _ 4) ?_
  refine va_sld hx hb hX hbl hbA hS (vp_in_nI (show 6 * n + 4 < L by omega) (by omega)) d_La_law_736 ?_
  refine mw_cV (ci := 7) (k := 33) C0 (r_order l D9 cB cI cJ cG a O1 I1 F1 A hR1 hPS _ _ _ _) g_974 g_8 g_971 g_972 g_973 ⟨by decide +kernel, by decide +kernel, show Option.map (fun d => d.parameters.length) (parseMethodDescriptor y_Mo_order.desc) = some 4 by decide +kernel⟩ ⟨by decide, by decide⟩ rfl rfl hP hD hS hA rfl ww_33 hl.1 (Nat.le_of_ble_eq_true rfl) rfl d_La_law_737 ⟨show 49 + n + 1 + 0 ≤ 601024 by omega, show 670223 + 6 * n + 6 + 0 ≤ 7293034 by omega⟩ (fun v9 w9 H locs hq hP hD hS => ?_)
  obtain ⟨I2, F2, rfl, hk2, b6, an2, A2, rfl, hT2, hb2, hR2⟩ := hq
  obtain ⟨hkx, hz0, hAA⟩ := u_order hPS _ _ _ _ _ _ hT1 hT2
  subst hAA
  have hz : k5 = 0 → O1 0 = b6.toInt64 := fun h => by rw [hO1 h, hz0 h, hb2 (hkx.symm.trans h)]
  have hPx := hP1
  have hCx := CS_k hC1 hPx.2.1 hk2
  have hRx := hR2
  refine lv_istore (lv' := [(6, _), (5, _), (4, _), (3, _), (2, _), (1, _), (0, _)]) hx hb d_La_law_740 hl (by decide) rfl (fun ls hl => ?_)
  refine lv_goto (tgt := 770) hx hb d_La_law_742 (by decide) ?_
  refine W.widen (k := 49 + n + 1) (n := 670223 + 6 * n + 6) (by omega) (by omega) ?_
  exact hnext _ _ _ _ _ _ _ hCx hRx hPx hP hD hS (lv_pk hl [2, 3, 4, 5, 6] rfl)
set_option maxHeartbeats 4000000 in
set_option maxRecDepth 100000 in
theorem law_case_15 (l : Launch) (hfl : l.flags = flags0) {p : Program} {e : Env} {s : State} {m : MethodId} {below : List Frame} {meth : Method} {c : Code} {b L : Nat} {xs : Nat → Int32} (C1 : lw_At p s m meth c b L xs) (hL : L ≤ 3072) (D9 : va_G) (cB cI cJ cG : ClassId) (hK : va_K D9 cls9 (ty9 cB cI cJ cG) s) (hZ : tx_Z (fun q : Nat => s.heap.size ≤ q) s s.heap) (h9 : no8 s) (a : Nat → Nat) (n : Nat) (hn : 6 * n + 6 ≤ L) (hnext : lw_K l p e s m below meth c b D9 cB cI cJ cG a n) (I : Nat → Int32) (F : Nat → Nat → Int32) (O : Nat → Int64) (A : Ab) (hC : CS I F A) (hR : RS I F A) (hPS : PS A) {H : Heap} {locs : List Loc} (hP : va_P D9 cls9 (WW a cB cI cJ cG I F O) H) (hD : va_D (fun q : Nat => s.heap.size ≤ q) (WW a cB cI cJ cG I F O)) (hS : va_S (fun q : Nat => s.heap.size ≤ q) s.heap H locs) {ls : Array Slot} (hl : lv_has ls 7 [(4, .int (nI (6 * n))), (3, .ref (a 48)), (2, .ref (a 33)), (1, .ref (a 0)), (0, .ref b)]) : W p l e room_1 s m #[Value.ref b] below meth c H locs (49 + n) (670223 + 6 * n) (lw_Z below #[Value.ref b] s) (F0 m 745 ls []) := by
  obtain ⟨hx, hb, hr, hml, hown, hts0, hX, hbl, hlocks, hgv⟩ := id C1
  have hts : ∀ w ∈ GT, w.before #[Value.ref b] s = true := fun w hw => hts0 w ((List.mem_filter.mp hw).1)
  have C0 : mw_C p s m #[Value.ref b] meth c code 7 ret R_La D9 cls9 (ty9 cB cI cJ cG) := ⟨hx, hb, hml, hr, hlocks, hown, hts, hK⟩
  have hA : ∀ q : Nat, s.heap.size ≤ q → (fun q : Nat => s.heap.size ≤ q) q := fun _ h => h
  have hbA : ¬ (fun q : Nat => s.heap.size ≤ q) b := Nat.not_le.mpr hbl
  refine lv_aload_n hx hb d_La_law_745 rfl (lv_at hl 3 rfl) ?_
  refine lv_aload_n hx hb d_La_law_746 rfl (lv_at hl 4 rfl) ?_
  refine lv_iload hx hb d_La_law_747 (lv_at hl 0 rfl) ?_
  refine lv_iconst (v := 1) hx hb d_La_law_749 (by decide) ?_
  refine lv_iadd hx hb d_La_law_750 ?_
  refine lv_topq (y := nI (6 * n + 1)) (nI_add _ 1) ?_
  refine va_sld hx hb hX hbl hbA hS (vp_in_nI (show 6 * n + 1 < L by omega) (by omega)) d_La_law_751 ?_
  refine mw_cV (ci := 6) (k := 0) C0 (s_count l D9 cB cI cJ cG a O I F A hC hPS _) g_374 g_1 g_371 g_372 g_373 ⟨by decide +kernel, by decide +kernel, show Option.map (fun d => d.parameters.length) (parseMethodDescriptor y_Wm_count.desc) = some 1 by decide +kernel⟩ ⟨by decide, by decide⟩ rfl rfl hP hD hS hA rfl ww_0 hl.1 (Nat.le_of_ble_eq_true rfl) rfl d_La_law_752 ⟨show 49 + n + 0 ≤ 601024 by omega, show 670223 + 6 * n + 0 ≤ 7293034 by omega⟩ (fun v9 w9 H locs hq hP hD hS => ?_)
  obtain ⟨I1, F1, rfl, hk1, rfl, hC1⟩ := hq
  have hR1 := RS_k hR hk1
  refine lv_aload_n hx hb d_La_law_755 rfl (lv_at hl 2 rfl) ?_
  refine lv_aload_n hx hb d_La_law_756 rfl (lv_at hl 4 rfl) ?_
  refine lv_iload hx hb d_La_law_757 (lv_at hl 0 rfl) ?_
  refine lv_iconst (v := 1) hx hb d_La_law_759 (by decide) ?_
  refine lv_iadd hx hb d_La_law_760 ?_
  refine lv_topq (y := nI (6 * n + 1)) (nI_add _ 1) ?_
  refine va_sld hx hb hX hbl hbA hS (vp_in_nI (show 6 * n + 1 < L by omega) (by omega)) d_La_law_761 ?_
  refine mw_cV (ci := 7) (k := 33) C0 (r_count l D9 cB cI cJ cG a O I1 F1 A hR1 hPS _) g_990 g_8 g_987 g_988 g_989 ⟨by decide +kernel, by decide +kernel, show Option.map (fun d => d.parameters.length) (parseMethodDescriptor y_Mo_count.desc) = some 1 by decide +kernel⟩ ⟨by decide, by decide⟩ rfl rfl hP hD hS hA rfl ww_33 hl.1 (Nat.le_of_ble_eq_true rfl) rfl d_La_law_762 ⟨show 49 + n + 0 ≤ 601024 by omega, show 670223 + 6 * n + 0 ≤ 7293034 by omega⟩ (fun v9 w9 H locs hq hP hD hS => ?_)
  obtain ⟨I2, F2, rfl, hk2, rfl, hR2⟩ := hq
  have hPx := hPS
  have hCx := CS_k hC1 hPx.2.1 hk2
  have hRx := hR2
  refine lv_icmp_eq (tgt := 770) hx hb d_La_law_765 (by decide) (fun c1 => ?_) (fun c1 => ?_)
  · refine W.widen (k := 49 + n + 1) (n := 670223 + 6 * n + 6) (by omega) (by omega) ?_
    exact hnext _ _ _ _ _ _ _ hCx hRx hPx hP hD hS (lv_pk hl [0, 1, 2, 3, 4] rfl)
  · exact absurd rfl c1
