abbrev b_La_law : ByteArray := code
theorem d_La_law_0 : decode b_La_law 0 = .ok (.new 8, 3) := by decide +kernel
theorem d_La_law_3 : decode b_La_law 3 = .ok (.dup, 1) := by decide +kernel
theorem d_La_law_4 : decode b_La_law 4 = .ok (.invokespecial 61, 3) := by decide +kernel
theorem d_La_law_7 : decode b_La_law 7 = .ok (.astore_n 1, 1) := by decide +kernel
theorem d_La_law_8 : decode b_La_law 8 = .ok (.new 62, 3) := by decide +kernel
theorem d_La_law_11 : decode b_La_law 11 = .ok (.dup, 1) := by decide +kernel
theorem d_La_law_12 : decode b_La_law 12 = .ok (.invokespecial 64, 3) := by decide +kernel
theorem d_La_law_15 : decode b_La_law 15 = .ok (.astore_n 2, 1) := by decide +kernel
theorem d_La_law_16 : decode b_La_law 16 = .ok (.iconst 1, 1) := by decide +kernel
theorem d_La_law_17 : decode b_La_law 17 = .ok (.newarray .long, 2) := by decide +kernel
theorem d_La_law_19 : decode b_La_law 19 = .ok (.astore_n 3, 1) := by decide +kernel
theorem d_La_law_20 : decode b_La_law 20 = .ok (.iconst 0, 1) := by decide +kernel
theorem d_La_law_21 : decode b_La_law 21 = .ok (.istore 4, 2) := by decide +kernel
theorem d_La_law_23 : decode b_La_law 23 = .ok (.iload 4, 2) := by decide +kernel
theorem d_La_law_25 : decode b_La_law 25 = .ok (.aload_n 0, 1) := by decide +kernel
theorem d_La_law_26 : decode b_La_law 26 = .ok (.arraylength, 1) := by decide +kernel
theorem d_La_law_27 : decode b_La_law 27 = .ok (.bipush 6, 2) := by decide +kernel
theorem d_La_law_29 : decode b_La_law 29 = .ok (.isub, 1) := by decide +kernel
theorem d_La_law_30 : decode b_La_law 30 = .ok (.if_icmp .gt 1089, 3) := by decide +kernel
theorem d_La_law_33 : decode b_La_law 33 = .ok (.aload_n 0, 1) := by decide +kernel
theorem d_La_law_34 : decode b_La_law 34 = .ok (.iload 4, 2) := by decide +kernel
theorem d_La_law_36 : decode b_La_law 36 = .ok (.iaload, 1) := by decide +kernel
theorem d_La_law_37 : decode b_La_law 37 = .ok (.bipush 15, 2) := by decide +kernel
theorem d_La_law_39 : decode b_La_law 39 = .ok (.iand, 1) := by decide +kernel
theorem d_La_law_40 : decode b_La_law 40 = .ok (.tableswitch 1073 0 15 #[80, 184, 240, 253, 266, 301, 369, 461, 517, 585, 641, 697, 777, 857, 956, 1048], 80) := by decide +kernel
theorem d_La_law_120 : decode b_La_law 120 = .ok (.aload_n 1, 1) := by decide +kernel
theorem d_La_law_121 : decode b_La_law 121 = .ok (.aload_n 0, 1) := by decide +kernel
theorem d_La_law_122 : decode b_La_law 122 = .ok (.iload 4, 2) := by decide +kernel
theorem d_La_law_124 : decode b_La_law 124 = .ok (.iconst 1, 1) := by decide +kernel
theorem d_La_law_125 : decode b_La_law 125 = .ok (.iadd, 1) := by decide +kernel
theorem d_La_law_126 : decode b_La_law 126 = .ok (.iaload, 1) := by decide +kernel
theorem d_La_law_127 : decode b_La_law 127 = .ok (.aload_n 0, 1) := by decide +kernel
theorem d_La_law_128 : decode b_La_law 128 = .ok (.iload 4, 2) := by decide +kernel
theorem d_La_law_130 : decode b_La_law 130 = .ok (.iconst 2, 1) := by decide +kernel
theorem d_La_law_131 : decode b_La_law 131 = .ok (.iadd, 1) := by decide +kernel
theorem d_La_law_132 : decode b_La_law 132 = .ok (.iaload, 1) := by decide +kernel
theorem d_La_law_133 : decode b_La_law 133 = .ok (.aload_n 0, 1) := by decide +kernel
theorem d_La_law_134 : decode b_La_law 134 = .ok (.iload 4, 2) := by decide +kernel
theorem d_La_law_136 : decode b_La_law 136 = .ok (.iconst 3, 1) := by decide +kernel
theorem d_La_law_137 : decode b_La_law 137 = .ok (.iadd, 1) := by decide +kernel
theorem d_La_law_138 : decode b_La_law 138 = .ok (.iaload, 1) := by decide +kernel
theorem d_La_law_139 : decode b_La_law 139 = .ok (.aload_n 0, 1) := by decide +kernel
theorem d_La_law_140 : decode b_La_law 140 = .ok (.iload 4, 2) := by decide +kernel
theorem d_La_law_142 : decode b_La_law 142 = .ok (.iconst 4, 1) := by decide +kernel
theorem d_La_law_143 : decode b_La_law 143 = .ok (.iadd, 1) := by decide +kernel
theorem d_La_law_144 : decode b_La_law 144 = .ok (.iaload, 1) := by decide +kernel
theorem d_La_law_145 : decode b_La_law 145 = .ok (.aload_n 0, 1) := by decide +kernel
theorem d_La_law_146 : decode b_La_law 146 = .ok (.iload 4, 2) := by decide +kernel
theorem d_La_law_148 : decode b_La_law 148 = .ok (.iconst 5, 1) := by decide +kernel
theorem d_La_law_149 : decode b_La_law 149 = .ok (.iadd, 1) := by decide +kernel
theorem d_La_law_150 : decode b_La_law 150 = .ok (.iaload, 1) := by decide +kernel
theorem d_La_law_151 : decode b_La_law 151 = .ok (.aload_n 3, 1) := by decide +kernel
theorem d_La_law_152 : decode b_La_law 152 = .ok (.invokestatic 65, 3) := by decide +kernel
theorem d_La_law_155 : decode b_La_law 155 = .ok (.istore 5, 2) := by decide +kernel
theorem d_La_law_157 : decode b_La_law 157 = .ok (.aload_n 2, 1) := by decide +kernel
theorem d_La_law_158 : decode b_La_law 158 = .ok (.aload_n 0, 1) := by decide +kernel
theorem d_La_law_159 : decode b_La_law 159 = .ok (.iload 4, 2) := by decide +kernel
theorem d_La_law_161 : decode b_La_law 161 = .ok (.iconst 1, 1) := by decide +kernel
theorem d_La_law_162 : decode b_La_law 162 = .ok (.iadd, 1) := by decide +kernel
theorem d_La_law_163 : decode b_La_law 163 = .ok (.iaload, 1) := by decide +kernel
theorem d_La_law_164 : decode b_La_law 164 = .ok (.aload_n 0, 1) := by decide +kernel
theorem d_La_law_165 : decode b_La_law 165 = .ok (.iload 4, 2) := by decide +kernel
theorem d_La_law_167 : decode b_La_law 167 = .ok (.iconst 2, 1) := by decide +kernel
theorem d_La_law_168 : decode b_La_law 168 = .ok (.iadd, 1) := by decide +kernel
theorem d_La_law_169 : decode b_La_law 169 = .ok (.iaload, 1) := by decide +kernel
theorem d_La_law_170 : decode b_La_law 170 = .ok (.aload_n 0, 1) := by decide +kernel
theorem d_La_law_171 : decode b_La_law 171 = .ok (.iload 4, 2) := by decide +kernel
theorem d_La_law_173 : decode b_La_law 173 = .ok (.iconst 3, 1) := by decide +kernel
theorem d_La_law_174 : decode b_La_law 174 = .ok (.iadd, 1) := by decide +kernel
theorem d_La_law_175 : decode b_La_law 175 = .ok (.iaload, 1) := by decide +kernel
theorem d_La_law_176 : decode b_La_law 176 = .ok (.aload_n 0, 1) := by decide +kernel
theorem d_La_law_177 : decode b_La_law 177 = .ok (.iload 4, 2) := by decide +kernel
theorem d_La_law_179 : decode b_La_law 179 = .ok (.iconst 4, 1) := by decide +kernel
theorem d_La_law_180 : decode b_La_law 180 = .ok (.iadd, 1) := by decide +kernel
theorem d_La_law_181 : decode b_La_law 181 = .ok (.iaload, 1) := by decide +kernel
theorem d_La_law_182 : decode b_La_law 182 = .ok (.aload_n 0, 1) := by decide +kernel
theorem d_La_law_183 : decode b_La_law 183 = .ok (.iload 4, 2) := by decide +kernel
theorem d_La_law_185 : decode b_La_law 185 = .ok (.iconst 5, 1) := by decide +kernel
theorem d_La_law_186 : decode b_La_law 186 = .ok (.iadd, 1) := by decide +kernel
theorem d_La_law_187 : decode b_La_law 187 = .ok (.iaload, 1) := by decide +kernel
theorem d_La_law_188 : decode b_La_law 188 = .ok (.invokevirtual 70, 3) := by decide +kernel
theorem d_La_law_191 : decode b_La_law 191 = .ok (.istore 6, 2) := by decide +kernel
theorem d_La_law_193 : decode b_La_law 193 = .ok (.aload_n 2, 1) := by decide +kernel
theorem d_La_law_194 : decode b_La_law 194 = .ok (.invokevirtual 71, 3) := by decide +kernel
theorem d_La_law_197 : decode b_La_law 197 = .ok (.iload 5, 2) := by decide +kernel
theorem d_La_law_199 : decode b_La_law 199 = .ok (.if_icmp .eq 5, 3) := by decide +kernel
theorem d_La_law_202 : decode b_La_law 202 = .ok (.iconst 0, 1) := by decide +kernel
theorem d_La_law_203 : decode b_La_law 203 = .ok (.ireturn, 1) := by decide +kernel
theorem d_La_law_204 : decode b_La_law 204 = .ok (.iload 5, 2) := by decide +kernel
theorem d_La_law_206 : decode b_La_law 206 = .ok (.ifCond .ne 15, 3) := by decide +kernel
theorem d_La_law_209 : decode b_La_law 209 = .ok (.aload_n 3, 1) := by decide +kernel
theorem d_La_law_210 : decode b_La_law 210 = .ok (.iconst 0, 1) := by decide +kernel
theorem d_La_law_211 : decode b_La_law 211 = .ok (.laload, 1) := by decide +kernel
theorem d_La_law_212 : decode b_La_law 212 = .ok (.iload 6, 2) := by decide +kernel
theorem d_La_law_214 : decode b_La_law 214 = .ok (.i2l, 1) := by decide +kernel
theorem d_La_law_215 : decode b_La_law 215 = .ok (.lcmp, 1) := by decide +kernel
theorem d_La_law_216 : decode b_La_law 216 = .ok (.ifCond .eq 5, 3) := by decide +kernel
theorem d_La_law_219 : decode b_La_law 219 = .ok (.iconst 0, 1) := by decide +kernel
theorem d_La_law_220 : decode b_La_law 220 = .ok (.ireturn, 1) := by decide +kernel
theorem d_La_law_221 : decode b_La_law 221 = .ok (.goto 892, 3) := by decide +kernel
theorem d_La_law_224 : decode b_La_law 224 = .ok (.aload_n 1, 1) := by decide +kernel
theorem d_La_law_225 : decode b_La_law 225 = .ok (.aload_n 0, 1) := by decide +kernel
theorem d_La_law_226 : decode b_La_law 226 = .ok (.iload 4, 2) := by decide +kernel
theorem d_La_law_228 : decode b_La_law 228 = .ok (.iconst 1, 1) := by decide +kernel
theorem d_La_law_229 : decode b_La_law 229 = .ok (.iadd, 1) := by decide +kernel
theorem d_La_law_230 : decode b_La_law 230 = .ok (.iaload, 1) := by decide +kernel
theorem d_La_law_231 : decode b_La_law 231 = .ok (.aload_n 3, 1) := by decide +kernel
theorem d_La_law_232 : decode b_La_law 232 = .ok (.invokestatic 75, 3) := by decide +kernel
theorem d_La_law_235 : decode b_La_law 235 = .ok (.istore 5, 2) := by decide +kernel
theorem d_La_law_237 : decode b_La_law 237 = .ok (.aload_n 2, 1) := by decide +kernel
theorem d_La_law_238 : decode b_La_law 238 = .ok (.aload_n 0, 1) := by decide +kernel
theorem d_La_law_239 : decode b_La_law 239 = .ok (.iload 4, 2) := by decide +kernel
theorem d_La_law_241 : decode b_La_law 241 = .ok (.iconst 1, 1) := by decide +kernel
theorem d_La_law_242 : decode b_La_law 242 = .ok (.iadd, 1) := by decide +kernel
theorem d_La_law_243 : decode b_La_law 243 = .ok (.iaload, 1) := by decide +kernel
theorem d_La_law_244 : decode b_La_law 244 = .ok (.invokevirtual 78, 3) := by decide +kernel
theorem d_La_law_247 : decode b_La_law 247 = .ok (.istore 6, 2) := by decide +kernel
theorem d_La_law_249 : decode b_La_law 249 = .ok (.aload_n 2, 1) := by decide +kernel
theorem d_La_law_250 : decode b_La_law 250 = .ok (.invokevirtual 71, 3) := by decide +kernel
theorem d_La_law_253 : decode b_La_law 253 = .ok (.iload 5, 2) := by decide +kernel
theorem d_La_law_255 : decode b_La_law 255 = .ok (.if_icmp .eq 5, 3) := by decide +kernel
theorem d_La_law_258 : decode b_La_law 258 = .ok (.iconst 0, 1) := by decide +kernel
theorem d_La_law_259 : decode b_La_law 259 = .ok (.ireturn, 1) := by decide +kernel
theorem d_La_law_260 : decode b_La_law 260 = .ok (.iload 5, 2) := by decide +kernel
theorem d_La_law_262 : decode b_La_law 262 = .ok (.ifCond .ne 15, 3) := by decide +kernel
theorem d_La_law_265 : decode b_La_law 265 = .ok (.aload_n 3, 1) := by decide +kernel
theorem d_La_law_266 : decode b_La_law 266 = .ok (.iconst 0, 1) := by decide +kernel
theorem d_La_law_267 : decode b_La_law 267 = .ok (.laload, 1) := by decide +kernel
theorem d_La_law_268 : decode b_La_law 268 = .ok (.iload 6, 2) := by decide +kernel
theorem d_La_law_270 : decode b_La_law 270 = .ok (.i2l, 1) := by decide +kernel
theorem d_La_law_271 : decode b_La_law 271 = .ok (.lcmp, 1) := by decide +kernel
theorem d_La_law_272 : decode b_La_law 272 = .ok (.ifCond .eq 5, 3) := by decide +kernel
theorem d_La_law_275 : decode b_La_law 275 = .ok (.iconst 0, 1) := by decide +kernel
theorem d_La_law_276 : decode b_La_law 276 = .ok (.ireturn, 1) := by decide +kernel
theorem d_La_law_277 : decode b_La_law 277 = .ok (.goto 836, 3) := by decide +kernel
theorem d_La_law_280 : decode b_La_law 280 = .ok (.aload_n 1, 1) := by decide +kernel
theorem d_La_law_281 : decode b_La_law 281 = .ok (.invokevirtual 79, 3) := by decide +kernel
theorem d_La_law_284 : decode b_La_law 284 = .ok (.aload_n 2, 1) := by decide +kernel
theorem d_La_law_285 : decode b_La_law 285 = .ok (.invokevirtual 82, 3) := by decide +kernel
theorem d_La_law_288 : decode b_La_law 288 = .ok (.if_icmp .eq 825, 3) := by decide +kernel
theorem d_La_law_291 : decode b_La_law 291 = .ok (.iconst 0, 1) := by decide +kernel
theorem d_La_law_292 : decode b_La_law 292 = .ok (.ireturn, 1) := by decide +kernel
theorem d_La_law_293 : decode b_La_law 293 = .ok (.aload_n 1, 1) := by decide +kernel
theorem d_La_law_294 : decode b_La_law 294 = .ok (.invokevirtual 83, 3) := by decide +kernel
theorem d_La_law_297 : decode b_La_law 297 = .ok (.aload_n 2, 1) := by decide +kernel
theorem d_La_law_298 : decode b_La_law 298 = .ok (.invokevirtual 86, 3) := by decide +kernel
theorem d_La_law_301 : decode b_La_law 301 = .ok (.if_icmp .eq 812, 3) := by decide +kernel
theorem d_La_law_304 : decode b_La_law 304 = .ok (.iconst 0, 1) := by decide +kernel
theorem d_La_law_305 : decode b_La_law 305 = .ok (.ireturn, 1) := by decide +kernel
theorem d_La_law_306 : decode b_La_law 306 = .ok (.aload_n 1, 1) := by decide +kernel
theorem d_La_law_307 : decode b_La_law 307 = .ok (.aload_n 0, 1) := by decide +kernel
theorem d_La_law_308 : decode b_La_law 308 = .ok (.iload 4, 2) := by decide +kernel
theorem d_La_law_310 : decode b_La_law 310 = .ok (.iconst 1, 1) := by decide +kernel
theorem d_La_law_311 : decode b_La_law 311 = .ok (.iadd, 1) := by decide +kernel
theorem d_La_law_312 : decode b_La_law 312 = .ok (.iaload, 1) := by decide +kernel
theorem d_La_law_313 : decode b_La_law 313 = .ok (.aload_n 0, 1) := by decide +kernel
theorem d_La_law_314 : decode b_La_law 314 = .ok (.iload 4, 2) := by decide +kernel
theorem d_La_law_316 : decode b_La_law 316 = .ok (.iconst 2, 1) := by decide +kernel
theorem d_La_law_317 : decode b_La_law 317 = .ok (.iadd, 1) := by decide +kernel
theorem d_La_law_318 : decode b_La_law 318 = .ok (.iaload, 1) := by decide +kernel
theorem d_La_law_319 : decode b_La_law 319 = .ok (.invokevirtual 87, 3) := by decide +kernel
theorem d_La_law_322 : decode b_La_law 322 = .ok (.aload_n 2, 1) := by decide +kernel
theorem d_La_law_323 : decode b_La_law 323 = .ok (.aload_n 0, 1) := by decide +kernel
theorem d_La_law_324 : decode b_La_law 324 = .ok (.iload 4, 2) := by decide +kernel
theorem d_La_law_326 : decode b_La_law 326 = .ok (.iconst 1, 1) := by decide +kernel
theorem d_La_law_327 : decode b_La_law 327 = .ok (.iadd, 1) := by decide +kernel
theorem d_La_law_328 : decode b_La_law 328 = .ok (.iaload, 1) := by decide +kernel
theorem d_La_law_329 : decode b_La_law 329 = .ok (.aload_n 0, 1) := by decide +kernel
theorem d_La_law_330 : decode b_La_law 330 = .ok (.iload 4, 2) := by decide +kernel
theorem d_La_law_332 : decode b_La_law 332 = .ok (.iconst 2, 1) := by decide +kernel
theorem d_La_law_333 : decode b_La_law 333 = .ok (.iadd, 1) := by decide +kernel
theorem d_La_law_334 : decode b_La_law 334 = .ok (.iaload, 1) := by decide +kernel
theorem d_La_law_335 : decode b_La_law 335 = .ok (.invokevirtual 91, 3) := by decide +kernel
theorem d_La_law_338 : decode b_La_law 338 = .ok (.goto 775, 3) := by decide +kernel
theorem d_La_law_341 : decode b_La_law 341 = .ok (.aload_n 1, 1) := by decide +kernel
theorem d_La_law_342 : decode b_La_law 342 = .ok (.aload_n 0, 1) := by decide +kernel
theorem d_La_law_343 : decode b_La_law 343 = .ok (.iload 4, 2) := by decide +kernel
theorem d_La_law_345 : decode b_La_law 345 = .ok (.iconst 1, 1) := by decide +kernel
theorem d_La_law_346 : decode b_La_law 346 = .ok (.iadd, 1) := by decide +kernel
theorem d_La_law_347 : decode b_La_law 347 = .ok (.iaload, 1) := by decide +kernel
theorem d_La_law_348 : decode b_La_law 348 = .ok (.aload_n 0, 1) := by decide +kernel
theorem d_La_law_349 : decode b_La_law 349 = .ok (.iload 4, 2) := by decide +kernel
theorem d_La_law_351 : decode b_La_law 351 = .ok (.iconst 2, 1) := by decide +kernel
theorem d_La_law_352 : decode b_La_law 352 = .ok (.iadd, 1) := by decide +kernel
theorem d_La_law_353 : decode b_La_law 353 = .ok (.iaload, 1) := by decide +kernel
theorem d_La_law_354 : decode b_La_law 354 = .ok (.aload_n 3, 1) := by decide +kernel
theorem d_La_law_355 : decode b_La_law 355 = .ok (.invokestatic 92, 3) := by decide +kernel
theorem d_La_law_358 : decode b_La_law 358 = .ok (.istore 5, 2) := by decide +kernel
theorem d_La_law_360 : decode b_La_law 360 = .ok (.aload_n 2, 1) := by decide +kernel
theorem d_La_law_361 : decode b_La_law 361 = .ok (.aload_n 0, 1) := by decide +kernel
theorem d_La_law_362 : decode b_La_law 362 = .ok (.iload 4, 2) := by decide +kernel
theorem d_La_law_364 : decode b_La_law 364 = .ok (.iconst 1, 1) := by decide +kernel
theorem d_La_law_365 : decode b_La_law 365 = .ok (.iadd, 1) := by decide +kernel
theorem d_La_law_366 : decode b_La_law 366 = .ok (.iaload, 1) := by decide +kernel
theorem d_La_law_367 : decode b_La_law 367 = .ok (.aload_n 0, 1) := by decide +kernel
theorem d_La_law_368 : decode b_La_law 368 = .ok (.iload 4, 2) := by decide +kernel
theorem d_La_law_370 : decode b_La_law 370 = .ok (.iconst 2, 1) := by decide +kernel
theorem d_La_law_371 : decode b_La_law 371 = .ok (.iadd, 1) := by decide +kernel
theorem d_La_law_372 : decode b_La_law 372 = .ok (.iaload, 1) := by decide +kernel
theorem d_La_law_373 : decode b_La_law 373 = .ok (.invokevirtual 95, 3) := by decide +kernel
theorem d_La_law_376 : decode b_La_law 376 = .ok (.istore 6, 2) := by decide +kernel
theorem d_La_law_378 : decode b_La_law 378 = .ok (.aload_n 2, 1) := by decide +kernel
theorem d_La_law_379 : decode b_La_law 379 = .ok (.invokevirtual 71, 3) := by decide +kernel
theorem d_La_law_382 : decode b_La_law 382 = .ok (.iload 5, 2) := by decide +kernel
theorem d_La_law_384 : decode b_La_law 384 = .ok (.if_icmp .eq 5, 3) := by decide +kernel
theorem d_La_law_387 : decode b_La_law 387 = .ok (.iconst 0, 1) := by decide +kernel
theorem d_La_law_388 : decode b_La_law 388 = .ok (.ireturn, 1) := by decide +kernel
theorem d_La_law_389 : decode b_La_law 389 = .ok (.iload 5, 2) := by decide +kernel
theorem d_La_law_391 : decode b_La_law 391 = .ok (.ifCond .ne 15, 3) := by decide +kernel
theorem d_La_law_394 : decode b_La_law 394 = .ok (.aload_n 3, 1) := by decide +kernel
theorem d_La_law_395 : decode b_La_law 395 = .ok (.iconst 0, 1) := by decide +kernel
theorem d_La_law_396 : decode b_La_law 396 = .ok (.laload, 1) := by decide +kernel
theorem d_La_law_397 : decode b_La_law 397 = .ok (.iload 6, 2) := by decide +kernel
theorem d_La_law_399 : decode b_La_law 399 = .ok (.i2l, 1) := by decide +kernel
theorem d_La_law_400 : decode b_La_law 400 = .ok (.lcmp, 1) := by decide +kernel
theorem d_La_law_401 : decode b_La_law 401 = .ok (.ifCond .eq 5, 3) := by decide +kernel
theorem d_La_law_404 : decode b_La_law 404 = .ok (.iconst 0, 1) := by decide +kernel
theorem d_La_law_405 : decode b_La_law 405 = .ok (.ireturn, 1) := by decide +kernel
theorem d_La_law_406 : decode b_La_law 406 = .ok (.goto 707, 3) := by decide +kernel
theorem d_La_law_409 : decode b_La_law 409 = .ok (.aload_n 1, 1) := by decide +kernel
theorem d_La_law_410 : decode b_La_law 410 = .ok (.aload_n 0, 1) := by decide +kernel
theorem d_La_law_411 : decode b_La_law 411 = .ok (.iload 4, 2) := by decide +kernel
theorem d_La_law_413 : decode b_La_law 413 = .ok (.iconst 1, 1) := by decide +kernel
theorem d_La_law_414 : decode b_La_law 414 = .ok (.iadd, 1) := by decide +kernel
theorem d_La_law_415 : decode b_La_law 415 = .ok (.iaload, 1) := by decide +kernel
theorem d_La_law_416 : decode b_La_law 416 = .ok (.aload_n 0, 1) := by decide +kernel
theorem d_La_law_417 : decode b_La_law 417 = .ok (.iload 4, 2) := by decide +kernel
theorem d_La_law_419 : decode b_La_law 419 = .ok (.iconst 2, 1) := by decide +kernel
theorem d_La_law_420 : decode b_La_law 420 = .ok (.iadd, 1) := by decide +kernel
theorem d_La_law_421 : decode b_La_law 421 = .ok (.iaload, 1) := by decide +kernel
theorem d_La_law_422 : decode b_La_law 422 = .ok (.aload_n 0, 1) := by decide +kernel
theorem d_La_law_423 : decode b_La_law 423 = .ok (.iload 4, 2) := by decide +kernel
theorem d_La_law_425 : decode b_La_law 425 = .ok (.iconst 3, 1) := by decide +kernel
theorem d_La_law_426 : decode b_La_law 426 = .ok (.iadd, 1) := by decide +kernel
theorem d_La_law_427 : decode b_La_law 427 = .ok (.iaload, 1) := by decide +kernel
theorem d_La_law_428 : decode b_La_law 428 = .ok (.aload_n 0, 1) := by decide +kernel
theorem d_La_law_429 : decode b_La_law 429 = .ok (.iload 4, 2) := by decide +kernel
theorem d_La_law_431 : decode b_La_law 431 = .ok (.iconst 4, 1) := by decide +kernel
theorem d_La_law_432 : decode b_La_law 432 = .ok (.iadd, 1) := by decide +kernel
theorem d_La_law_433 : decode b_La_law 433 = .ok (.iaload, 1) := by decide +kernel
theorem d_La_law_434 : decode b_La_law 434 = .ok (.aload_n 3, 1) := by decide +kernel
theorem d_La_law_435 : decode b_La_law 435 = .ok (.invokestatic 96, 3) := by decide +kernel
theorem d_La_law_438 : decode b_La_law 438 = .ok (.istore 5, 2) := by decide +kernel
theorem d_La_law_440 : decode b_La_law 440 = .ok (.aload_n 2, 1) := by decide +kernel
theorem d_La_law_441 : decode b_La_law 441 = .ok (.aload_n 0, 1) := by decide +kernel
theorem d_La_law_442 : decode b_La_law 442 = .ok (.iload 4, 2) := by decide +kernel
theorem d_La_law_444 : decode b_La_law 444 = .ok (.iconst 1, 1) := by decide +kernel
theorem d_La_law_445 : decode b_La_law 445 = .ok (.iadd, 1) := by decide +kernel
theorem d_La_law_446 : decode b_La_law 446 = .ok (.iaload, 1) := by decide +kernel
theorem d_La_law_447 : decode b_La_law 447 = .ok (.aload_n 0, 1) := by decide +kernel
theorem d_La_law_448 : decode b_La_law 448 = .ok (.iload 4, 2) := by decide +kernel
theorem d_La_law_450 : decode b_La_law 450 = .ok (.iconst 2, 1) := by decide +kernel
theorem d_La_law_451 : decode b_La_law 451 = .ok (.iadd, 1) := by decide +kernel
theorem d_La_law_452 : decode b_La_law 452 = .ok (.iaload, 1) := by decide +kernel
theorem d_La_law_453 : decode b_La_law 453 = .ok (.aload_n 0, 1) := by decide +kernel
theorem d_La_law_454 : decode b_La_law 454 = .ok (.iload 4, 2) := by decide +kernel
theorem d_La_law_456 : decode b_La_law 456 = .ok (.iconst 3, 1) := by decide +kernel
theorem d_La_law_457 : decode b_La_law 457 = .ok (.iadd, 1) := by decide +kernel
theorem d_La_law_458 : decode b_La_law 458 = .ok (.iaload, 1) := by decide +kernel
theorem d_La_law_459 : decode b_La_law 459 = .ok (.aload_n 0, 1) := by decide +kernel
theorem d_La_law_460 : decode b_La_law 460 = .ok (.iload 4, 2) := by decide +kernel
theorem d_La_law_462 : decode b_La_law 462 = .ok (.iconst 4, 1) := by decide +kernel
theorem d_La_law_463 : decode b_La_law 463 = .ok (.iadd, 1) := by decide +kernel
theorem d_La_law_464 : decode b_La_law 464 = .ok (.iaload, 1) := by decide +kernel
theorem d_La_law_465 : decode b_La_law 465 = .ok (.invokevirtual 99, 3) := by decide +kernel
theorem d_La_law_468 : decode b_La_law 468 = .ok (.istore 6, 2) := by decide +kernel
theorem d_La_law_470 : decode b_La_law 470 = .ok (.aload_n 2, 1) := by decide +kernel
theorem d_La_law_471 : decode b_La_law 471 = .ok (.invokevirtual 71, 3) := by decide +kernel
theorem d_La_law_474 : decode b_La_law 474 = .ok (.iload 5, 2) := by decide +kernel
theorem d_La_law_476 : decode b_La_law 476 = .ok (.if_icmp .eq 5, 3) := by decide +kernel
theorem d_La_law_479 : decode b_La_law 479 = .ok (.iconst 0, 1) := by decide +kernel
theorem d_La_law_480 : decode b_La_law 480 = .ok (.ireturn, 1) := by decide +kernel
theorem d_La_law_481 : decode b_La_law 481 = .ok (.iload 5, 2) := by decide +kernel
theorem d_La_law_483 : decode b_La_law 483 = .ok (.ifCond .ne 15, 3) := by decide +kernel
theorem d_La_law_486 : decode b_La_law 486 = .ok (.aload_n 3, 1) := by decide +kernel
theorem d_La_law_487 : decode b_La_law 487 = .ok (.iconst 0, 1) := by decide +kernel
theorem d_La_law_488 : decode b_La_law 488 = .ok (.laload, 1) := by decide +kernel
theorem d_La_law_489 : decode b_La_law 489 = .ok (.iload 6, 2) := by decide +kernel
theorem d_La_law_491 : decode b_La_law 491 = .ok (.i2l, 1) := by decide +kernel
theorem d_La_law_492 : decode b_La_law 492 = .ok (.lcmp, 1) := by decide +kernel
theorem d_La_law_493 : decode b_La_law 493 = .ok (.ifCond .eq 5, 3) := by decide +kernel
theorem d_La_law_496 : decode b_La_law 496 = .ok (.iconst 0, 1) := by decide +kernel
theorem d_La_law_497 : decode b_La_law 497 = .ok (.ireturn, 1) := by decide +kernel
theorem d_La_law_498 : decode b_La_law 498 = .ok (.goto 615, 3) := by decide +kernel
theorem d_La_law_501 : decode b_La_law 501 = .ok (.aload_n 1, 1) := by decide +kernel
theorem d_La_law_502 : decode b_La_law 502 = .ok (.aload_n 0, 1) := by decide +kernel
theorem d_La_law_503 : decode b_La_law 503 = .ok (.iload 4, 2) := by decide +kernel
theorem d_La_law_505 : decode b_La_law 505 = .ok (.iconst 1, 1) := by decide +kernel
theorem d_La_law_506 : decode b_La_law 506 = .ok (.iadd, 1) := by decide +kernel
theorem d_La_law_507 : decode b_La_law 507 = .ok (.iaload, 1) := by decide +kernel
theorem d_La_law_508 : decode b_La_law 508 = .ok (.aload_n 3, 1) := by decide +kernel
theorem d_La_law_509 : decode b_La_law 509 = .ok (.invokestatic 100, 3) := by decide +kernel
theorem d_La_law_512 : decode b_La_law 512 = .ok (.istore 5, 2) := by decide +kernel
theorem d_La_law_514 : decode b_La_law 514 = .ok (.aload_n 2, 1) := by decide +kernel
theorem d_La_law_515 : decode b_La_law 515 = .ok (.aload_n 0, 1) := by decide +kernel
theorem d_La_law_516 : decode b_La_law 516 = .ok (.iload 4, 2) := by decide +kernel
theorem d_La_law_518 : decode b_La_law 518 = .ok (.iconst 1, 1) := by decide +kernel
theorem d_La_law_519 : decode b_La_law 519 = .ok (.iadd, 1) := by decide +kernel
theorem d_La_law_520 : decode b_La_law 520 = .ok (.iaload, 1) := by decide +kernel
theorem d_La_law_521 : decode b_La_law 521 = .ok (.invokevirtual 102, 3) := by decide +kernel
theorem d_La_law_524 : decode b_La_law 524 = .ok (.istore 6, 2) := by decide +kernel
theorem d_La_law_526 : decode b_La_law 526 = .ok (.aload_n 2, 1) := by decide +kernel
theorem d_La_law_527 : decode b_La_law 527 = .ok (.invokevirtual 71, 3) := by decide +kernel
theorem d_La_law_530 : decode b_La_law 530 = .ok (.iload 5, 2) := by decide +kernel
theorem d_La_law_532 : decode b_La_law 532 = .ok (.if_icmp .eq 5, 3) := by decide +kernel
theorem d_La_law_535 : decode b_La_law 535 = .ok (.iconst 0, 1) := by decide +kernel
theorem d_La_law_536 : decode b_La_law 536 = .ok (.ireturn, 1) := by decide +kernel
theorem d_La_law_537 : decode b_La_law 537 = .ok (.iload 5, 2) := by decide +kernel
theorem d_La_law_539 : decode b_La_law 539 = .ok (.ifCond .ne 15, 3) := by decide +kernel
theorem d_La_law_542 : decode b_La_law 542 = .ok (.aload_n 3, 1) := by decide +kernel
theorem d_La_law_543 : decode b_La_law 543 = .ok (.iconst 0, 1) := by decide +kernel
theorem d_La_law_544 : decode b_La_law 544 = .ok (.laload, 1) := by decide +kernel
theorem d_La_law_545 : decode b_La_law 545 = .ok (.iload 6, 2) := by decide +kernel
theorem d_La_law_547 : decode b_La_law 547 = .ok (.i2l, 1) := by decide +kernel
theorem d_La_law_548 : decode b_La_law 548 = .ok (.lcmp, 1) := by decide +kernel
theorem d_La_law_549 : decode b_La_law 549 = .ok (.ifCond .eq 5, 3) := by decide +kernel
theorem d_La_law_552 : decode b_La_law 552 = .ok (.iconst 0, 1) := by decide +kernel
theorem d_La_law_553 : decode b_La_law 553 = .ok (.ireturn, 1) := by decide +kernel
theorem d_La_law_554 : decode b_La_law 554 = .ok (.goto 559, 3) := by decide +kernel
theorem d_La_law_557 : decode b_La_law 557 = .ok (.aload_n 1, 1) := by decide +kernel
theorem d_La_law_558 : decode b_La_law 558 = .ok (.aload_n 0, 1) := by decide +kernel
theorem d_La_law_559 : decode b_La_law 559 = .ok (.iload 4, 2) := by decide +kernel
theorem d_La_law_561 : decode b_La_law 561 = .ok (.iconst 1, 1) := by decide +kernel
theorem d_La_law_562 : decode b_La_law 562 = .ok (.iadd, 1) := by decide +kernel
theorem d_La_law_563 : decode b_La_law 563 = .ok (.iaload, 1) := by decide +kernel
theorem d_La_law_564 : decode b_La_law 564 = .ok (.aload_n 0, 1) := by decide +kernel
theorem d_La_law_565 : decode b_La_law 565 = .ok (.iload 4, 2) := by decide +kernel
theorem d_La_law_567 : decode b_La_law 567 = .ok (.iconst 2, 1) := by decide +kernel
theorem d_La_law_568 : decode b_La_law 568 = .ok (.iadd, 1) := by decide +kernel
theorem d_La_law_569 : decode b_La_law 569 = .ok (.iaload, 1) := by decide +kernel
theorem d_La_law_570 : decode b_La_law 570 = .ok (.aload_n 3, 1) := by decide +kernel
theorem d_La_law_571 : decode b_La_law 571 = .ok (.invokestatic 103, 3) := by decide +kernel
theorem d_La_law_574 : decode b_La_law 574 = .ok (.istore 5, 2) := by decide +kernel
theorem d_La_law_576 : decode b_La_law 576 = .ok (.aload_n 2, 1) := by decide +kernel
theorem d_La_law_577 : decode b_La_law 577 = .ok (.aload_n 0, 1) := by decide +kernel
theorem d_La_law_578 : decode b_La_law 578 = .ok (.iload 4, 2) := by decide +kernel
theorem d_La_law_580 : decode b_La_law 580 = .ok (.iconst 1, 1) := by decide +kernel
theorem d_La_law_581 : decode b_La_law 581 = .ok (.iadd, 1) := by decide +kernel
theorem d_La_law_582 : decode b_La_law 582 = .ok (.iaload, 1) := by decide +kernel
theorem d_La_law_583 : decode b_La_law 583 = .ok (.aload_n 0, 1) := by decide +kernel
theorem d_La_law_584 : decode b_La_law 584 = .ok (.iload 4, 2) := by decide +kernel
theorem d_La_law_586 : decode b_La_law 586 = .ok (.iconst 2, 1) := by decide +kernel
theorem d_La_law_587 : decode b_La_law 587 = .ok (.iadd, 1) := by decide +kernel
theorem d_La_law_588 : decode b_La_law 588 = .ok (.iaload, 1) := by decide +kernel
theorem d_La_law_589 : decode b_La_law 589 = .ok (.invokevirtual 105, 3) := by decide +kernel
theorem d_La_law_592 : decode b_La_law 592 = .ok (.istore 6, 2) := by decide +kernel
theorem d_La_law_594 : decode b_La_law 594 = .ok (.aload_n 2, 1) := by decide +kernel
theorem d_La_law_595 : decode b_La_law 595 = .ok (.invokevirtual 71, 3) := by decide +kernel
theorem d_La_law_598 : decode b_La_law 598 = .ok (.iload 5, 2) := by decide +kernel
theorem d_La_law_600 : decode b_La_law 600 = .ok (.if_icmp .eq 5, 3) := by decide +kernel
theorem d_La_law_603 : decode b_La_law 603 = .ok (.iconst 0, 1) := by decide +kernel
theorem d_La_law_604 : decode b_La_law 604 = .ok (.ireturn, 1) := by decide +kernel
theorem d_La_law_605 : decode b_La_law 605 = .ok (.iload 5, 2) := by decide +kernel
theorem d_La_law_607 : decode b_La_law 607 = .ok (.ifCond .ne 15, 3) := by decide +kernel
theorem d_La_law_610 : decode b_La_law 610 = .ok (.aload_n 3, 1) := by decide +kernel
theorem d_La_law_611 : decode b_La_law 611 = .ok (.iconst 0, 1) := by decide +kernel
theorem d_La_law_612 : decode b_La_law 612 = .ok (.laload, 1) := by decide +kernel
theorem d_La_law_613 : decode b_La_law 613 = .ok (.iload 6, 2) := by decide +kernel
theorem d_La_law_615 : decode b_La_law 615 = .ok (.i2l, 1) := by decide +kernel
theorem d_La_law_616 : decode b_La_law 616 = .ok (.lcmp, 1) := by decide +kernel
theorem d_La_law_617 : decode b_La_law 617 = .ok (.ifCond .eq 5, 3) := by decide +kernel
theorem d_La_law_620 : decode b_La_law 620 = .ok (.iconst 0, 1) := by decide +kernel
theorem d_La_law_621 : decode b_La_law 621 = .ok (.ireturn, 1) := by decide +kernel
theorem d_La_law_622 : decode b_La_law 622 = .ok (.goto 491, 3) := by decide +kernel
theorem d_La_law_625 : decode b_La_law 625 = .ok (.aload_n 1, 1) := by decide +kernel
theorem d_La_law_626 : decode b_La_law 626 = .ok (.aload_n 0, 1) := by decide +kernel
theorem d_La_law_627 : decode b_La_law 627 = .ok (.iload 4, 2) := by decide +kernel
theorem d_La_law_629 : decode b_La_law 629 = .ok (.iconst 1, 1) := by decide +kernel
theorem d_La_law_630 : decode b_La_law 630 = .ok (.iadd, 1) := by decide +kernel
theorem d_La_law_631 : decode b_La_law 631 = .ok (.iaload, 1) := by decide +kernel
theorem d_La_law_632 : decode b_La_law 632 = .ok (.aload_n 3, 1) := by decide +kernel
theorem d_La_law_633 : decode b_La_law 633 = .ok (.invokestatic 106, 3) := by decide +kernel
theorem d_La_law_636 : decode b_La_law 636 = .ok (.istore 5, 2) := by decide +kernel
theorem d_La_law_638 : decode b_La_law 638 = .ok (.aload_n 2, 1) := by decide +kernel
theorem d_La_law_639 : decode b_La_law 639 = .ok (.aload_n 0, 1) := by decide +kernel
theorem d_La_law_640 : decode b_La_law 640 = .ok (.iload 4, 2) := by decide +kernel
theorem d_La_law_642 : decode b_La_law 642 = .ok (.iconst 1, 1) := by decide +kernel
theorem d_La_law_643 : decode b_La_law 643 = .ok (.iadd, 1) := by decide +kernel
theorem d_La_law_644 : decode b_La_law 644 = .ok (.iaload, 1) := by decide +kernel
theorem d_La_law_645 : decode b_La_law 645 = .ok (.invokevirtual 108, 3) := by decide +kernel
theorem d_La_law_648 : decode b_La_law 648 = .ok (.istore 6, 2) := by decide +kernel
theorem d_La_law_650 : decode b_La_law 650 = .ok (.aload_n 2, 1) := by decide +kernel
theorem d_La_law_651 : decode b_La_law 651 = .ok (.invokevirtual 71, 3) := by decide +kernel
theorem d_La_law_654 : decode b_La_law 654 = .ok (.iload 5, 2) := by decide +kernel
theorem d_La_law_656 : decode b_La_law 656 = .ok (.if_icmp .eq 5, 3) := by decide +kernel
theorem d_La_law_659 : decode b_La_law 659 = .ok (.iconst 0, 1) := by decide +kernel
theorem d_La_law_660 : decode b_La_law 660 = .ok (.ireturn, 1) := by decide +kernel
theorem d_La_law_661 : decode b_La_law 661 = .ok (.iload 5, 2) := by decide +kernel
theorem d_La_law_663 : decode b_La_law 663 = .ok (.ifCond .ne 15, 3) := by decide +kernel
theorem d_La_law_666 : decode b_La_law 666 = .ok (.aload_n 3, 1) := by decide +kernel
theorem d_La_law_667 : decode b_La_law 667 = .ok (.iconst 0, 1) := by decide +kernel
theorem d_La_law_668 : decode b_La_law 668 = .ok (.laload, 1) := by decide +kernel
theorem d_La_law_669 : decode b_La_law 669 = .ok (.iload 6, 2) := by decide +kernel
theorem d_La_law_671 : decode b_La_law 671 = .ok (.i2l, 1) := by decide +kernel
theorem d_La_law_672 : decode b_La_law 672 = .ok (.lcmp, 1) := by decide +kernel
theorem d_La_law_673 : decode b_La_law 673 = .ok (.ifCond .eq 5, 3) := by decide +kernel
theorem d_La_law_676 : decode b_La_law 676 = .ok (.iconst 0, 1) := by decide +kernel
theorem d_La_law_677 : decode b_La_law 677 = .ok (.ireturn, 1) := by decide +kernel
theorem d_La_law_678 : decode b_La_law 678 = .ok (.goto 435, 3) := by decide +kernel
theorem d_La_law_681 : decode b_La_law 681 = .ok (.aload_n 1, 1) := by decide +kernel
theorem d_La_law_682 : decode b_La_law 682 = .ok (.aload_n 0, 1) := by decide +kernel
theorem d_La_law_683 : decode b_La_law 683 = .ok (.iload 4, 2) := by decide +kernel
theorem d_La_law_685 : decode b_La_law 685 = .ok (.iconst 1, 1) := by decide +kernel
theorem d_La_law_686 : decode b_La_law 686 = .ok (.iadd, 1) := by decide +kernel
theorem d_La_law_687 : decode b_La_law 687 = .ok (.iaload, 1) := by decide +kernel
theorem d_La_law_688 : decode b_La_law 688 = .ok (.aload_n 3, 1) := by decide +kernel
theorem d_La_law_689 : decode b_La_law 689 = .ok (.invokestatic 109, 3) := by decide +kernel
theorem d_La_law_692 : decode b_La_law 692 = .ok (.istore 5, 2) := by decide +kernel
theorem d_La_law_694 : decode b_La_law 694 = .ok (.aload_n 2, 1) := by decide +kernel
theorem d_La_law_695 : decode b_La_law 695 = .ok (.aload_n 0, 1) := by decide +kernel
theorem d_La_law_696 : decode b_La_law 696 = .ok (.iload 4, 2) := by decide +kernel
theorem d_La_law_698 : decode b_La_law 698 = .ok (.iconst 1, 1) := by decide +kernel
theorem d_La_law_699 : decode b_La_law 699 = .ok (.iadd, 1) := by decide +kernel
theorem d_La_law_700 : decode b_La_law 700 = .ok (.iaload, 1) := by decide +kernel
theorem d_La_law_701 : decode b_La_law 701 = .ok (.invokevirtual 111, 3) := by decide +kernel
theorem d_La_law_704 : decode b_La_law 704 = .ok (.istore 6, 2) := by decide +kernel
theorem d_La_law_706 : decode b_La_law 706 = .ok (.aload_n 2, 1) := by decide +kernel
theorem d_La_law_707 : decode b_La_law 707 = .ok (.invokevirtual 71, 3) := by decide +kernel
theorem d_La_law_710 : decode b_La_law 710 = .ok (.iload 5, 2) := by decide +kernel
theorem d_La_law_712 : decode b_La_law 712 = .ok (.if_icmp .eq 5, 3) := by decide +kernel
theorem d_La_law_715 : decode b_La_law 715 = .ok (.iconst 0, 1) := by decide +kernel
theorem d_La_law_716 : decode b_La_law 716 = .ok (.ireturn, 1) := by decide +kernel
theorem d_La_law_717 : decode b_La_law 717 = .ok (.iload 5, 2) := by decide +kernel
theorem d_La_law_719 : decode b_La_law 719 = .ok (.ifCond .ne 15, 3) := by decide +kernel
theorem d_La_law_722 : decode b_La_law 722 = .ok (.aload_n 3, 1) := by decide +kernel
theorem d_La_law_723 : decode b_La_law 723 = .ok (.iconst 0, 1) := by decide +kernel
theorem d_La_law_724 : decode b_La_law 724 = .ok (.laload, 1) := by decide +kernel
theorem d_La_law_725 : decode b_La_law 725 = .ok (.iload 6, 2) := by decide +kernel
theorem d_La_law_727 : decode b_La_law 727 = .ok (.i2l, 1) := by decide +kernel
theorem d_La_law_728 : decode b_La_law 728 = .ok (.lcmp, 1) := by decide +kernel
theorem d_La_law_729 : decode b_La_law 729 = .ok (.ifCond .eq 5, 3) := by decide +kernel
theorem d_La_law_732 : decode b_La_law 732 = .ok (.iconst 0, 1) := by decide +kernel
theorem d_La_law_733 : decode b_La_law 733 = .ok (.ireturn, 1) := by decide +kernel
theorem d_La_law_734 : decode b_La_law 734 = .ok (.goto 379, 3) := by decide +kernel
theorem d_La_law_737 : decode b_La_law 737 = .ok (.aload_n 1, 1) := by decide +kernel
theorem d_La_law_738 : decode b_La_law 738 = .ok (.aload_n 0, 1) := by decide +kernel
theorem d_La_law_739 : decode b_La_law 739 = .ok (.iload 4, 2) := by decide +kernel
theorem d_La_law_741 : decode b_La_law 741 = .ok (.iconst 1, 1) := by decide +kernel
theorem d_La_law_742 : decode b_La_law 742 = .ok (.iadd, 1) := by decide +kernel
theorem d_La_law_743 : decode b_La_law 743 = .ok (.iaload, 1) := by decide +kernel
theorem d_La_law_744 : decode b_La_law 744 = .ok (.aload_n 0, 1) := by decide +kernel
theorem d_La_law_745 : decode b_La_law 745 = .ok (.iload 4, 2) := by decide +kernel
theorem d_La_law_747 : decode b_La_law 747 = .ok (.iconst 2, 1) := by decide +kernel
theorem d_La_law_748 : decode b_La_law 748 = .ok (.iadd, 1) := by decide +kernel
theorem d_La_law_749 : decode b_La_law 749 = .ok (.iaload, 1) := by decide +kernel
theorem d_La_law_750 : decode b_La_law 750 = .ok (.aload_n 0, 1) := by decide +kernel
theorem d_La_law_751 : decode b_La_law 751 = .ok (.iload 4, 2) := by decide +kernel
theorem d_La_law_753 : decode b_La_law 753 = .ok (.iconst 3, 1) := by decide +kernel
theorem d_La_law_754 : decode b_La_law 754 = .ok (.iadd, 1) := by decide +kernel
theorem d_La_law_755 : decode b_La_law 755 = .ok (.iaload, 1) := by decide +kernel
theorem d_La_law_756 : decode b_La_law 756 = .ok (.aload_n 3, 1) := by decide +kernel
theorem d_La_law_757 : decode b_La_law 757 = .ok (.invokestatic 112, 3) := by decide +kernel
theorem d_La_law_760 : decode b_La_law 760 = .ok (.istore 5, 2) := by decide +kernel
theorem d_La_law_762 : decode b_La_law 762 = .ok (.aload_n 2, 1) := by decide +kernel
theorem d_La_law_763 : decode b_La_law 763 = .ok (.aload_n 0, 1) := by decide +kernel
theorem d_La_law_764 : decode b_La_law 764 = .ok (.iload 4, 2) := by decide +kernel
theorem d_La_law_766 : decode b_La_law 766 = .ok (.iconst 1, 1) := by decide +kernel
theorem d_La_law_767 : decode b_La_law 767 = .ok (.iadd, 1) := by decide +kernel
theorem d_La_law_768 : decode b_La_law 768 = .ok (.iaload, 1) := by decide +kernel
theorem d_La_law_769 : decode b_La_law 769 = .ok (.aload_n 0, 1) := by decide +kernel
theorem d_La_law_770 : decode b_La_law 770 = .ok (.iload 4, 2) := by decide +kernel
theorem d_La_law_772 : decode b_La_law 772 = .ok (.iconst 2, 1) := by decide +kernel
theorem d_La_law_773 : decode b_La_law 773 = .ok (.iadd, 1) := by decide +kernel
theorem d_La_law_774 : decode b_La_law 774 = .ok (.iaload, 1) := by decide +kernel
theorem d_La_law_775 : decode b_La_law 775 = .ok (.aload_n 0, 1) := by decide +kernel
theorem d_La_law_776 : decode b_La_law 776 = .ok (.iload 4, 2) := by decide +kernel
theorem d_La_law_778 : decode b_La_law 778 = .ok (.iconst 3, 1) := by decide +kernel
theorem d_La_law_779 : decode b_La_law 779 = .ok (.iadd, 1) := by decide +kernel
theorem d_La_law_780 : decode b_La_law 780 = .ok (.iaload, 1) := by decide +kernel
theorem d_La_law_781 : decode b_La_law 781 = .ok (.invokevirtual 115, 3) := by decide +kernel
theorem d_La_law_784 : decode b_La_law 784 = .ok (.istore 6, 2) := by decide +kernel
theorem d_La_law_786 : decode b_La_law 786 = .ok (.aload_n 2, 1) := by decide +kernel
theorem d_La_law_787 : decode b_La_law 787 = .ok (.invokevirtual 71, 3) := by decide +kernel
theorem d_La_law_790 : decode b_La_law 790 = .ok (.iload 5, 2) := by decide +kernel
theorem d_La_law_792 : decode b_La_law 792 = .ok (.if_icmp .eq 5, 3) := by decide +kernel
theorem d_La_law_795 : decode b_La_law 795 = .ok (.iconst 0, 1) := by decide +kernel
theorem d_La_law_796 : decode b_La_law 796 = .ok (.ireturn, 1) := by decide +kernel
theorem d_La_law_797 : decode b_La_law 797 = .ok (.iload 5, 2) := by decide +kernel
theorem d_La_law_799 : decode b_La_law 799 = .ok (.ifCond .ne 15, 3) := by decide +kernel
theorem d_La_law_802 : decode b_La_law 802 = .ok (.aload_n 3, 1) := by decide +kernel
theorem d_La_law_803 : decode b_La_law 803 = .ok (.iconst 0, 1) := by decide +kernel
theorem d_La_law_804 : decode b_La_law 804 = .ok (.laload, 1) := by decide +kernel
theorem d_La_law_805 : decode b_La_law 805 = .ok (.iload 6, 2) := by decide +kernel
theorem d_La_law_807 : decode b_La_law 807 = .ok (.i2l, 1) := by decide +kernel
theorem d_La_law_808 : decode b_La_law 808 = .ok (.lcmp, 1) := by decide +kernel
theorem d_La_law_809 : decode b_La_law 809 = .ok (.ifCond .eq 5, 3) := by decide +kernel
theorem d_La_law_812 : decode b_La_law 812 = .ok (.iconst 0, 1) := by decide +kernel
theorem d_La_law_813 : decode b_La_law 813 = .ok (.ireturn, 1) := by decide +kernel
theorem d_La_law_814 : decode b_La_law 814 = .ok (.goto 299, 3) := by decide +kernel
theorem d_La_law_817 : decode b_La_law 817 = .ok (.aload_n 1, 1) := by decide +kernel
theorem d_La_law_818 : decode b_La_law 818 = .ok (.aload_n 0, 1) := by decide +kernel
theorem d_La_law_819 : decode b_La_law 819 = .ok (.iload 4, 2) := by decide +kernel
theorem d_La_law_821 : decode b_La_law 821 = .ok (.iconst 1, 1) := by decide +kernel
theorem d_La_law_822 : decode b_La_law 822 = .ok (.iadd, 1) := by decide +kernel
theorem d_La_law_823 : decode b_La_law 823 = .ok (.iaload, 1) := by decide +kernel
theorem d_La_law_824 : decode b_La_law 824 = .ok (.aload_n 0, 1) := by decide +kernel
theorem d_La_law_825 : decode b_La_law 825 = .ok (.iload 4, 2) := by decide +kernel
theorem d_La_law_827 : decode b_La_law 827 = .ok (.iconst 2, 1) := by decide +kernel
theorem d_La_law_828 : decode b_La_law 828 = .ok (.iadd, 1) := by decide +kernel
theorem d_La_law_829 : decode b_La_law 829 = .ok (.iaload, 1) := by decide +kernel
theorem d_La_law_830 : decode b_La_law 830 = .ok (.aload_n 0, 1) := by decide +kernel
theorem d_La_law_831 : decode b_La_law 831 = .ok (.iload 4, 2) := by decide +kernel
theorem d_La_law_833 : decode b_La_law 833 = .ok (.iconst 3, 1) := by decide +kernel
theorem d_La_law_834 : decode b_La_law 834 = .ok (.iadd, 1) := by decide +kernel
theorem d_La_law_835 : decode b_La_law 835 = .ok (.iaload, 1) := by decide +kernel
theorem d_La_law_836 : decode b_La_law 836 = .ok (.aload_n 3, 1) := by decide +kernel
theorem d_La_law_837 : decode b_La_law 837 = .ok (.invokestatic 116, 3) := by decide +kernel
theorem d_La_law_840 : decode b_La_law 840 = .ok (.istore 5, 2) := by decide +kernel
theorem d_La_law_842 : decode b_La_law 842 = .ok (.aload_n 2, 1) := by decide +kernel
theorem d_La_law_843 : decode b_La_law 843 = .ok (.aload_n 0, 1) := by decide +kernel
theorem d_La_law_844 : decode b_La_law 844 = .ok (.iload 4, 2) := by decide +kernel
theorem d_La_law_846 : decode b_La_law 846 = .ok (.iconst 1, 1) := by decide +kernel
theorem d_La_law_847 : decode b_La_law 847 = .ok (.iadd, 1) := by decide +kernel
theorem d_La_law_848 : decode b_La_law 848 = .ok (.iaload, 1) := by decide +kernel
theorem d_La_law_849 : decode b_La_law 849 = .ok (.aload_n 0, 1) := by decide +kernel
theorem d_La_law_850 : decode b_La_law 850 = .ok (.iload 4, 2) := by decide +kernel
theorem d_La_law_852 : decode b_La_law 852 = .ok (.iconst 2, 1) := by decide +kernel
theorem d_La_law_853 : decode b_La_law 853 = .ok (.iadd, 1) := by decide +kernel
theorem d_La_law_854 : decode b_La_law 854 = .ok (.iaload, 1) := by decide +kernel
theorem d_La_law_855 : decode b_La_law 855 = .ok (.aload_n 0, 1) := by decide +kernel
theorem d_La_law_856 : decode b_La_law 856 = .ok (.iload 4, 2) := by decide +kernel
theorem d_La_law_858 : decode b_La_law 858 = .ok (.iconst 3, 1) := by decide +kernel
theorem d_La_law_859 : decode b_La_law 859 = .ok (.iadd, 1) := by decide +kernel
theorem d_La_law_860 : decode b_La_law 860 = .ok (.iaload, 1) := by decide +kernel
theorem d_La_law_861 : decode b_La_law 861 = .ok (.invokevirtual 118, 3) := by decide +kernel
theorem d_La_law_864 : decode b_La_law 864 = .ok (.istore 6, 2) := by decide +kernel
theorem d_La_law_866 : decode b_La_law 866 = .ok (.aload_n 2, 1) := by decide +kernel
theorem d_La_law_867 : decode b_La_law 867 = .ok (.invokevirtual 71, 3) := by decide +kernel
theorem d_La_law_870 : decode b_La_law 870 = .ok (.iload 5, 2) := by decide +kernel
theorem d_La_law_872 : decode b_La_law 872 = .ok (.if_icmp .eq 5, 3) := by decide +kernel
theorem d_La_law_875 : decode b_La_law 875 = .ok (.iconst 0, 1) := by decide +kernel
theorem d_La_law_876 : decode b_La_law 876 = .ok (.ireturn, 1) := by decide +kernel
theorem d_La_law_877 : decode b_La_law 877 = .ok (.iload 5, 2) := by decide +kernel
theorem d_La_law_879 : decode b_La_law 879 = .ok (.ifCond .ne 15, 3) := by decide +kernel
theorem d_La_law_882 : decode b_La_law 882 = .ok (.aload_n 3, 1) := by decide +kernel
theorem d_La_law_883 : decode b_La_law 883 = .ok (.iconst 0, 1) := by decide +kernel
theorem d_La_law_884 : decode b_La_law 884 = .ok (.laload, 1) := by decide +kernel
theorem d_La_law_885 : decode b_La_law 885 = .ok (.iload 6, 2) := by decide +kernel
theorem d_La_law_887 : decode b_La_law 887 = .ok (.i2l, 1) := by decide +kernel
theorem d_La_law_888 : decode b_La_law 888 = .ok (.lcmp, 1) := by decide +kernel
theorem d_La_law_889 : decode b_La_law 889 = .ok (.ifCond .eq 5, 3) := by decide +kernel
theorem d_La_law_892 : decode b_La_law 892 = .ok (.iconst 0, 1) := by decide +kernel
theorem d_La_law_893 : decode b_La_law 893 = .ok (.ireturn, 1) := by decide +kernel
theorem d_La_law_894 : decode b_La_law 894 = .ok (.goto 219, 3) := by decide +kernel
theorem d_La_law_897 : decode b_La_law 897 = .ok (.aload_n 1, 1) := by decide +kernel
theorem d_La_law_898 : decode b_La_law 898 = .ok (.aload_n 0, 1) := by decide +kernel
theorem d_La_law_899 : decode b_La_law 899 = .ok (.iload 4, 2) := by decide +kernel
theorem d_La_law_901 : decode b_La_law 901 = .ok (.iconst 1, 1) := by decide +kernel
theorem d_La_law_902 : decode b_La_law 902 = .ok (.iadd, 1) := by decide +kernel
theorem d_La_law_903 : decode b_La_law 903 = .ok (.iaload, 1) := by decide +kernel
theorem d_La_law_904 : decode b_La_law 904 = .ok (.aload_n 0, 1) := by decide +kernel
theorem d_La_law_905 : decode b_La_law 905 = .ok (.iload 4, 2) := by decide +kernel
theorem d_La_law_907 : decode b_La_law 907 = .ok (.iconst 2, 1) := by decide +kernel
theorem d_La_law_908 : decode b_La_law 908 = .ok (.iadd, 1) := by decide +kernel
theorem d_La_law_909 : decode b_La_law 909 = .ok (.iaload, 1) := by decide +kernel
theorem d_La_law_910 : decode b_La_law 910 = .ok (.aload_n 0, 1) := by decide +kernel
theorem d_La_law_911 : decode b_La_law 911 = .ok (.iload 4, 2) := by decide +kernel
theorem d_La_law_913 : decode b_La_law 913 = .ok (.iconst 3, 1) := by decide +kernel
theorem d_La_law_914 : decode b_La_law 914 = .ok (.iadd, 1) := by decide +kernel
theorem d_La_law_915 : decode b_La_law 915 = .ok (.iaload, 1) := by decide +kernel
theorem d_La_law_916 : decode b_La_law 916 = .ok (.aload_n 0, 1) := by decide +kernel
theorem d_La_law_917 : decode b_La_law 917 = .ok (.iload 4, 2) := by decide +kernel
theorem d_La_law_919 : decode b_La_law 919 = .ok (.iconst 4, 1) := by decide +kernel
theorem d_La_law_920 : decode b_La_law 920 = .ok (.iadd, 1) := by decide +kernel
theorem d_La_law_921 : decode b_La_law 921 = .ok (.iaload, 1) := by decide +kernel
theorem d_La_law_922 : decode b_La_law 922 = .ok (.aload_n 3, 1) := by decide +kernel
theorem d_La_law_923 : decode b_La_law 923 = .ok (.invokestatic 119, 3) := by decide +kernel
theorem d_La_law_926 : decode b_La_law 926 = .ok (.istore 5, 2) := by decide +kernel
theorem d_La_law_928 : decode b_La_law 928 = .ok (.aload_n 2, 1) := by decide +kernel
theorem d_La_law_929 : decode b_La_law 929 = .ok (.aload_n 0, 1) := by decide +kernel
theorem d_La_law_930 : decode b_La_law 930 = .ok (.iload 4, 2) := by decide +kernel
theorem d_La_law_932 : decode b_La_law 932 = .ok (.iconst 1, 1) := by decide +kernel
theorem d_La_law_933 : decode b_La_law 933 = .ok (.iadd, 1) := by decide +kernel
theorem d_La_law_934 : decode b_La_law 934 = .ok (.iaload, 1) := by decide +kernel
theorem d_La_law_935 : decode b_La_law 935 = .ok (.aload_n 0, 1) := by decide +kernel
theorem d_La_law_936 : decode b_La_law 936 = .ok (.iload 4, 2) := by decide +kernel
theorem d_La_law_938 : decode b_La_law 938 = .ok (.iconst 2, 1) := by decide +kernel
theorem d_La_law_939 : decode b_La_law 939 = .ok (.iadd, 1) := by decide +kernel
theorem d_La_law_940 : decode b_La_law 940 = .ok (.iaload, 1) := by decide +kernel
theorem d_La_law_941 : decode b_La_law 941 = .ok (.aload_n 0, 1) := by decide +kernel
theorem d_La_law_942 : decode b_La_law 942 = .ok (.iload 4, 2) := by decide +kernel
theorem d_La_law_944 : decode b_La_law 944 = .ok (.iconst 3, 1) := by decide +kernel
theorem d_La_law_945 : decode b_La_law 945 = .ok (.iadd, 1) := by decide +kernel
theorem d_La_law_946 : decode b_La_law 946 = .ok (.iaload, 1) := by decide +kernel
theorem d_La_law_947 : decode b_La_law 947 = .ok (.aload_n 0, 1) := by decide +kernel
theorem d_La_law_948 : decode b_La_law 948 = .ok (.iload 4, 2) := by decide +kernel
theorem d_La_law_950 : decode b_La_law 950 = .ok (.iconst 4, 1) := by decide +kernel
theorem d_La_law_951 : decode b_La_law 951 = .ok (.iadd, 1) := by decide +kernel
theorem d_La_law_952 : decode b_La_law 952 = .ok (.iaload, 1) := by decide +kernel
theorem d_La_law_953 : decode b_La_law 953 = .ok (.invokevirtual 121, 3) := by decide +kernel
theorem d_La_law_956 : decode b_La_law 956 = .ok (.istore 6, 2) := by decide +kernel
theorem d_La_law_958 : decode b_La_law 958 = .ok (.aload_n 2, 1) := by decide +kernel
theorem d_La_law_959 : decode b_La_law 959 = .ok (.invokevirtual 71, 3) := by decide +kernel
theorem d_La_law_962 : decode b_La_law 962 = .ok (.iload 5, 2) := by decide +kernel
theorem d_La_law_964 : decode b_La_law 964 = .ok (.if_icmp .eq 5, 3) := by decide +kernel
theorem d_La_law_967 : decode b_La_law 967 = .ok (.iconst 0, 1) := by decide +kernel
theorem d_La_law_968 : decode b_La_law 968 = .ok (.ireturn, 1) := by decide +kernel
theorem d_La_law_969 : decode b_La_law 969 = .ok (.iload 5, 2) := by decide +kernel
theorem d_La_law_971 : decode b_La_law 971 = .ok (.ifCond .ne 22, 3) := by decide +kernel
theorem d_La_law_974 : decode b_La_law 974 = .ok (.aload_n 3, 1) := by decide +kernel
theorem d_La_law_975 : decode b_La_law 975 = .ok (.iconst 0, 1) := by decide +kernel
theorem d_La_law_976 : decode b_La_law 976 = .ok (.laload, 1) := by decide +kernel
theorem d_La_law_977 : decode b_La_law 977 = .ok (.iload 6, 2) := by decide +kernel
theorem d_La_law_979 : decode b_La_law 979 = .ok (.ifCond .eq 7, 3) := by decide +kernel
theorem d_La_law_982 : decode b_La_law 982 = .ok (.lconst 1, 1) := by decide +kernel
theorem d_La_law_983 : decode b_La_law 983 = .ok (.goto 4, 3) := by decide +kernel
theorem d_La_law_986 : decode b_La_law 986 = .ok (.lconst 0, 1) := by decide +kernel
theorem d_La_law_987 : decode b_La_law 987 = .ok (.lcmp, 1) := by decide +kernel
theorem d_La_law_988 : decode b_La_law 988 = .ok (.ifCond .eq 5, 3) := by decide +kernel
theorem d_La_law_991 : decode b_La_law 991 = .ok (.iconst 0, 1) := by decide +kernel
theorem d_La_law_992 : decode b_La_law 992 = .ok (.ireturn, 1) := by decide +kernel
theorem d_La_law_993 : decode b_La_law 993 = .ok (.goto 120, 3) := by decide +kernel
theorem d_La_law_996 : decode b_La_law 996 = .ok (.aload_n 1, 1) := by decide +kernel
theorem d_La_law_997 : decode b_La_law 997 = .ok (.aload_n 0, 1) := by decide +kernel
theorem d_La_law_998 : decode b_La_law 998 = .ok (.iload 4, 2) := by decide +kernel
theorem d_La_law_1000 : decode b_La_law 1000 = .ok (.iconst 1, 1) := by decide +kernel
theorem d_La_law_1001 : decode b_La_law 1001 = .ok (.iadd, 1) := by decide +kernel
theorem d_La_law_1002 : decode b_La_law 1002 = .ok (.iaload, 1) := by decide +kernel
theorem d_La_law_1003 : decode b_La_law 1003 = .ok (.aload_n 0, 1) := by decide +kernel
theorem d_La_law_1004 : decode b_La_law 1004 = .ok (.iload 4, 2) := by decide +kernel
theorem d_La_law_1006 : decode b_La_law 1006 = .ok (.iconst 2, 1) := by decide +kernel
theorem d_La_law_1007 : decode b_La_law 1007 = .ok (.iadd, 1) := by decide +kernel
theorem d_La_law_1008 : decode b_La_law 1008 = .ok (.iaload, 1) := by decide +kernel
theorem d_La_law_1009 : decode b_La_law 1009 = .ok (.aload_n 0, 1) := by decide +kernel
theorem d_La_law_1010 : decode b_La_law 1010 = .ok (.iload 4, 2) := by decide +kernel
theorem d_La_law_1012 : decode b_La_law 1012 = .ok (.iconst 3, 1) := by decide +kernel
theorem d_La_law_1013 : decode b_La_law 1013 = .ok (.iadd, 1) := by decide +kernel
theorem d_La_law_1014 : decode b_La_law 1014 = .ok (.iaload, 1) := by decide +kernel
theorem d_La_law_1015 : decode b_La_law 1015 = .ok (.aload_n 0, 1) := by decide +kernel
theorem d_La_law_1016 : decode b_La_law 1016 = .ok (.iload 4, 2) := by decide +kernel
theorem d_La_law_1018 : decode b_La_law 1018 = .ok (.iconst 4, 1) := by decide +kernel
theorem d_La_law_1019 : decode b_La_law 1019 = .ok (.iadd, 1) := by decide +kernel
theorem d_La_law_1020 : decode b_La_law 1020 = .ok (.iaload, 1) := by decide +kernel
theorem d_La_law_1021 : decode b_La_law 1021 = .ok (.aload_n 3, 1) := by decide +kernel
theorem d_La_law_1022 : decode b_La_law 1022 = .ok (.invokestatic 122, 3) := by decide +kernel
theorem d_La_law_1025 : decode b_La_law 1025 = .ok (.istore 5, 2) := by decide +kernel
theorem d_La_law_1027 : decode b_La_law 1027 = .ok (.aload_n 2, 1) := by decide +kernel
theorem d_La_law_1028 : decode b_La_law 1028 = .ok (.aload_n 0, 1) := by decide +kernel
theorem d_La_law_1029 : decode b_La_law 1029 = .ok (.iload 4, 2) := by decide +kernel
theorem d_La_law_1031 : decode b_La_law 1031 = .ok (.iconst 1, 1) := by decide +kernel
theorem d_La_law_1032 : decode b_La_law 1032 = .ok (.iadd, 1) := by decide +kernel
theorem d_La_law_1033 : decode b_La_law 1033 = .ok (.iaload, 1) := by decide +kernel
theorem d_La_law_1034 : decode b_La_law 1034 = .ok (.aload_n 0, 1) := by decide +kernel
theorem d_La_law_1035 : decode b_La_law 1035 = .ok (.iload 4, 2) := by decide +kernel
theorem d_La_law_1037 : decode b_La_law 1037 = .ok (.iconst 2, 1) := by decide +kernel
theorem d_La_law_1038 : decode b_La_law 1038 = .ok (.iadd, 1) := by decide +kernel
theorem d_La_law_1039 : decode b_La_law 1039 = .ok (.iaload, 1) := by decide +kernel
theorem d_La_law_1040 : decode b_La_law 1040 = .ok (.aload_n 0, 1) := by decide +kernel
theorem d_La_law_1041 : decode b_La_law 1041 = .ok (.iload 4, 2) := by decide +kernel
theorem d_La_law_1043 : decode b_La_law 1043 = .ok (.iconst 3, 1) := by decide +kernel
theorem d_La_law_1044 : decode b_La_law 1044 = .ok (.iadd, 1) := by decide +kernel
theorem d_La_law_1045 : decode b_La_law 1045 = .ok (.iaload, 1) := by decide +kernel
theorem d_La_law_1046 : decode b_La_law 1046 = .ok (.aload_n 0, 1) := by decide +kernel
theorem d_La_law_1047 : decode b_La_law 1047 = .ok (.iload 4, 2) := by decide +kernel
theorem d_La_law_1049 : decode b_La_law 1049 = .ok (.iconst 4, 1) := by decide +kernel
theorem d_La_law_1050 : decode b_La_law 1050 = .ok (.iadd, 1) := by decide +kernel
theorem d_La_law_1051 : decode b_La_law 1051 = .ok (.iaload, 1) := by decide +kernel
theorem d_La_law_1052 : decode b_La_law 1052 = .ok (.invokevirtual 124, 3) := by decide +kernel
theorem d_La_law_1055 : decode b_La_law 1055 = .ok (.istore 6, 2) := by decide +kernel
theorem d_La_law_1057 : decode b_La_law 1057 = .ok (.aload_n 2, 1) := by decide +kernel
theorem d_La_law_1058 : decode b_La_law 1058 = .ok (.invokevirtual 71, 3) := by decide +kernel
theorem d_La_law_1061 : decode b_La_law 1061 = .ok (.iload 5, 2) := by decide +kernel
theorem d_La_law_1063 : decode b_La_law 1063 = .ok (.if_icmp .eq 5, 3) := by decide +kernel
theorem d_La_law_1066 : decode b_La_law 1066 = .ok (.iconst 0, 1) := by decide +kernel
theorem d_La_law_1067 : decode b_La_law 1067 = .ok (.ireturn, 1) := by decide +kernel
theorem d_La_law_1068 : decode b_La_law 1068 = .ok (.iload 5, 2) := by decide +kernel
theorem d_La_law_1070 : decode b_La_law 1070 = .ok (.ifCond .ne 15, 3) := by decide +kernel
theorem d_La_law_1073 : decode b_La_law 1073 = .ok (.aload_n 3, 1) := by decide +kernel
theorem d_La_law_1074 : decode b_La_law 1074 = .ok (.iconst 0, 1) := by decide +kernel
theorem d_La_law_1075 : decode b_La_law 1075 = .ok (.laload, 1) := by decide +kernel
theorem d_La_law_1076 : decode b_La_law 1076 = .ok (.iload 6, 2) := by decide +kernel
theorem d_La_law_1078 : decode b_La_law 1078 = .ok (.i2l, 1) := by decide +kernel
theorem d_La_law_1079 : decode b_La_law 1079 = .ok (.lcmp, 1) := by decide +kernel
theorem d_La_law_1080 : decode b_La_law 1080 = .ok (.ifCond .eq 5, 3) := by decide +kernel
theorem d_La_law_1083 : decode b_La_law 1083 = .ok (.iconst 0, 1) := by decide +kernel
theorem d_La_law_1084 : decode b_La_law 1084 = .ok (.ireturn, 1) := by decide +kernel
theorem d_La_law_1085 : decode b_La_law 1085 = .ok (.goto 28, 3) := by decide +kernel
theorem d_La_law_1088 : decode b_La_law 1088 = .ok (.aload_n 1, 1) := by decide +kernel
theorem d_La_law_1089 : decode b_La_law 1089 = .ok (.aload_n 0, 1) := by decide +kernel
theorem d_La_law_1090 : decode b_La_law 1090 = .ok (.iload 4, 2) := by decide +kernel
theorem d_La_law_1092 : decode b_La_law 1092 = .ok (.iconst 1, 1) := by decide +kernel
theorem d_La_law_1093 : decode b_La_law 1093 = .ok (.iadd, 1) := by decide +kernel
theorem d_La_law_1094 : decode b_La_law 1094 = .ok (.iaload, 1) := by decide +kernel
theorem d_La_law_1095 : decode b_La_law 1095 = .ok (.invokevirtual 125, 3) := by decide +kernel
theorem d_La_law_1098 : decode b_La_law 1098 = .ok (.aload_n 2, 1) := by decide +kernel
theorem d_La_law_1099 : decode b_La_law 1099 = .ok (.aload_n 0, 1) := by decide +kernel
theorem d_La_law_1100 : decode b_La_law 1100 = .ok (.iload 4, 2) := by decide +kernel
theorem d_La_law_1102 : decode b_La_law 1102 = .ok (.iconst 1, 1) := by decide +kernel
theorem d_La_law_1103 : decode b_La_law 1103 = .ok (.iadd, 1) := by decide +kernel
theorem d_La_law_1104 : decode b_La_law 1104 = .ok (.iaload, 1) := by decide +kernel
theorem d_La_law_1105 : decode b_La_law 1105 = .ok (.invokevirtual 128, 3) := by decide +kernel
theorem d_La_law_1108 : decode b_La_law 1108 = .ok (.if_icmp .eq 5, 3) := by decide +kernel
theorem d_La_law_1111 : decode b_La_law 1111 = .ok (.iconst 0, 1) := by decide +kernel
theorem d_La_law_1112 : decode b_La_law 1112 = .ok (.ireturn, 1) := by decide +kernel
theorem d_La_law_1113 : decode b_La_law 1113 = .ok (.iinc 4 6, 3) := by decide +kernel
theorem d_La_law_1116 : decode b_La_law 1116 = .ok (.goto (-1093), 3) := by decide +kernel
theorem d_La_law_1119 : decode b_La_law 1119 = .ok (.iconst 1, 1) := by decide +kernel
theorem d_La_law_1120 : decode b_La_law 1120 = .ok (.ireturn, 1) := by decide +kernel
def wLaw (cB cI cJ cG : ClassId) (q_x q_tp q_tpr q_ga q_gb q_gbr q_st q_nl q_dl q_ty q_ki q_ti q_rows q_sz q_re q_wr q_ms q_msr q_ls q_lm q_en q_ne q_ol q_mk q_pl q_so q_na q_lb q_ob q_mo q_m_tape q_m_store q_m_section q_m_type q_m_kind q_m_time q_m_nameAt q_m_nameSize q_m_dataAt q_m_dataSize q_m_message q_m_endPlace q_m_endAt q_m_countsWritten q_out : Nat) : va_W := [(q_x, .inr (6, [.ref q_tp, .ref q_ga, .ref q_re, .ref q_wr, .ref q_na, .int (-1), .int (0)])), (q_tp, .inr (0, [.ref q_tpr, .int 0])), (q_tpr, .inl (cB, 65536, .inl (fun _ => 0))), (q_gb, .inr (0, [.ref q_gbr, .int 0])), (q_gbr, .inl (cB, 65536, .inl (fun _ => 0))), (q_st, .inl (cI, 1100, .inl (fun _ => 0))), (q_nl, .inl (cI, 1100, .inl (fun _ => 0))), (q_dl, .inl (cI, 1100, .inl (fun _ => 0))), (q_ty, .inl (cI, 1100, .inl (fun _ => 0))), (q_ki, .inl (cI, 1100, .inl (fun _ => 0))), (q_ti, .inl (cI, 1100, .inl (fun _ => 0))), (q_rows, .inl (cG, 4, .inr (.inr (.inr (.inr (fun i => if i < 4 then some (q_rows + 1 + i) else none)))))), (q_rows + 1, .inl (cI, 1000, .inl (fun _ => 0))), (q_rows + 2, .inl (cI, 1000, .inl (fun _ => 0))), (q_rows + 3, .inl (cI, 1000, .inl (fun _ => 0))), (q_rows + 4, .inl (cI, 1000, .inl (fun _ => 0))), (q_sz, .inl (cI, 4, .inl (fun _ => 0))), (q_re, .inr (4, [.ref q_tp, .ref q_ga, .int 0, .int 0, .int 0, .int 0, .int 0, .int 0])), (q_wr, .inr (5, [.ref q_ga, .ref q_ms, .ref q_en, .ref q_ls, .ref q_lm, .int 0])), (q_ga, .inr (2, [.ref q_gb, .ref q_st, .ref q_nl, .ref q_dl, .ref q_ty, .ref q_ki, .ref q_ti, .ref q_rows, .ref q_sz, .int 0, .int 0])), (q_ms, .inr (0, [.ref q_msr, .int 0])), (q_msr, .inl (cB, 65536, .inl (fun _ => 0))), (q_ls, .inl (cI, 127, .inl (fun _ => 0))), (q_lm, .inl (cI, 127, .inl (fun _ => 0))), (q_en, .inr (1, [.ref q_gb, .ref q_ne, .ref q_ol, .ref q_mk, .ref q_pl, .ref q_so, .int 0])), (q_ne, .inl (cI, 4096, .inl (fun _ => 0))), (q_ol, .inl (cI, 8192, .inl (fun _ => 0))), (q_mk, .inl (cI, 8192, .inl (fun _ => 0))), (q_pl, .inl (cI, 8192, .inl (fun _ => 0))), (q_so, .inl (cI, 8192, .inl (fun _ => 0))), (q_na, .inr (3, [.ref q_gb, .ref q_lb, .ref q_ob])), (q_lb, .inl (cI, 127, .inl (fun _ => 0))), (q_ob, .inl (cI, 127, .inl (fun _ => 0))), (q_mo, .inr (7, [.int 0, .ref q_m_tape, .int 0, .ref q_m_store, .int 0, .int 0, .int 0, .int 0, .ref q_m_section, .ref q_m_type, .ref q_m_kind, .ref q_m_time, .ref q_m_nameAt, .ref q_m_nameSize, .ref q_m_dataAt, .ref q_m_dataSize, .int (-1), .int 0, .int 0, .int 0, .int 0, .int 0, .int 0, .ref q_m_message, .int 0, .int 0, .ref q_m_endPlace, .ref q_m_endAt, .int 0, .ref q_m_countsWritten])), (q_m_tape, .inl (cB, 65536, .inl (fun _ => 0))), (q_m_store, .inl (cB, 140000, .inl (fun _ => 0))), (q_m_section, .inl (cI, 1102, .inl (fun _ => 0))), (q_m_type, .inl (cI, 1102, .inl (fun _ => 0))), (q_m_kind, .inl (cI, 1102, .inl (fun _ => 0))), (q_m_time, .inl (cI, 1102, .inl (fun _ => 0))), (q_m_nameAt, .inl (cI, 1102, .inl (fun _ => 0))), (q_m_nameSize, .inl (cI, 1102, .inl (fun _ => 0))), (q_m_dataAt, .inl (cI, 1102, .inl (fun _ => 0))), (q_m_dataSize, .inl (cI, 1102, .inl (fun _ => 0))), (q_m_message, .inl (cB, 131200, .inl (fun _ => 0))), (q_m_endPlace, .inl (cI, 40000, .inl (fun _ => 0))), (q_m_endAt, .inl (cI, 40000, .inl (fun _ => 0))), (q_m_countsWritten, .inl (cI, 4, .inl (fun _ => 0))), (q_out, .inl (cJ, 1, .inr (.inl (fun _ => 0))))]
theorem cmp2 {k x0 r R : Int32} {z : Int64} {P Q : Prop} (h : P → Q → False) (hk : (k = 0 ∧ z = R.toInt64 ∧ P) ∨ (k = 1 ∧ Q)) (hm : (r = R ∧ x0 = 0 ∧ P) ∨ (x0 = 1 ∧ Q)) : x0 = k ∧ (k = 0 → z = r.toInt64) := by
  rcases hk with ⟨rfl, rfl, p⟩ | ⟨rfl, q⟩ <;> rcases hm with ⟨rfl, rfl, p'⟩ | ⟨rfl, q'⟩
  · exact ⟨rfl, fun _ => rfl⟩
  · exact absurd q' (h p)
  · exact absurd q (h p')
  · exact ⟨rfl, fun h => absurd h (by decide)⟩
theorem cmp3 {k x0 r : Int32} {z : Int64} {P Q : Prop} (h : P → Q → False) (hk : (k = 1 ∧ P) ∨ (k = 2 ∧ Q)) (hm : (x0 = 1 ∧ P) ∨ (x0 = 2 ∧ Q)) : x0 = k ∧ (k = 0 → z = r.toInt64) := by
  rcases hk with ⟨rfl, p⟩ | ⟨rfl, q⟩ <;> rcases hm with ⟨rfl, p'⟩ | ⟨rfl, q'⟩
  · exact ⟨rfl, fun h => absurd h (by decide)⟩
  · exact absurd q' (h p)
  · exact absurd q (h p')
  · exact ⟨rfl, fun h => absurd h (by decide)⟩
theorem cmp1 {k x0 r : Int32} {z : Int64} (hk : k = 1) (hm : x0 = 1) : x0 = k ∧ (k = 0 → z = r.toInt64) := ⟨hm.trans hk.symm, fun h => absurd (hk.symm.trans h) (by decide)⟩
theorem cmp0 {k x0 r R : Int32} {z : Int64} (hk : k = 0 ∧ z = R.toInt64) (hm : r = R ∧ x0 = 0) : x0 = k ∧ (k = 0 → z = r.toInt64) := ⟨hm.2.trans hk.1.symm, fun _ => by rw [hk.2, hm.1]⟩
set_option maxHeartbeats 4000000 in
set_option maxRecDepth 100000 in
theorem law_tail {p : Program} {l : Launch} {e : Env} {s : State} {m : MethodId} {below : List Frame} {meth : Method} {c : Code} {b : Nat} {xs : Nat → Int32} (C1 : lw_At p s m meth c b 6 xs) {H : Heap} {locs : List Loc} (hS : va_S (fun q : Nat => s.heap.size ≤ q) s.heap H locs) {ls : Array Slot} (hl : lv_has ls 7 [(4, .int 0), (0, .ref b)]) {cells slots : Nat} (h1 : cells ≤ 600002) (h2 : slots ≤ 7302232) : W p l e room_1 s m #[Value.ref b] below meth c H locs cells slots (lw_Z below #[Value.ref b] s) (F0 m 1113 ls []) := by
  obtain ⟨hx, hb, hr, hml, hown, hts0, hX, hbl, hlocks, hgv⟩ := C1
  have hbA : ¬ (fun q : Nat => s.heap.size ≤ q) b := Nat.not_le.mpr hbl
  refine lv_iinc (lv' := [(4, _), (0, _)]) hx hb d_La_law_1113 hl (k := 0) rfl rfl (by decide) rfl (fun ls hl => ?_)
  refine lv_goto (tgt := 23) hx hb d_La_law_1116 (by decide) ?_
  refine lv_iload hx hb d_La_law_23 (lv_at hl 0 rfl) ?_
  refine lv_aload_n hx hb d_La_law_25 rfl (lv_at hl 1 rfl) ?_
  refine va_slen hx hb hX hbl hbA hS d_La_law_26 ?_
  refine lv_bipush (v := 6) hx hb d_La_law_27 (by decide) ?_
  refine lv_isub hx hb d_La_law_29 ?_
  refine lv_icmp_gt (tgt := 1119) hx hb d_La_law_30 (by decide) (fun c1 => ?_) (fun c1 => ?_)
  · refine lv_iconst (v := 1) hx hb d_La_law_1119 (by decide) ?_
    refine va_forget (fun q hq => hS.2.2 q hq) ?_
    refine W.widen h1 h2 ?_
    exact lw_ret hx hb hr hlocks d_La_law_1120
  · exact absurd (by decide) c1
