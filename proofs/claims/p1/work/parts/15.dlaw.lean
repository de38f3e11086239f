theorem d0_1_0 : decode code 0 = .ok (.new 7, 3) := by decide +kernel
theorem d0_1_3 : decode code 3 = .ok (.dup, 1) := by decide +kernel
theorem d0_1_4 : decode code 4 = .ok (.invokespecial 9, 3) := by decide +kernel
theorem d0_1_7 : decode code 7 = .ok (.astore_n 1, 1) := by decide +kernel
theorem d0_1_8 : decode code 8 = .ok (.new 10, 3) := by decide +kernel
theorem d0_1_11 : decode code 11 = .ok (.dup, 1) := by decide +kernel
theorem d0_1_12 : decode code 12 = .ok (.invokespecial 12, 3) := by decide +kernel
theorem d0_1_15 : decode code 15 = .ok (.astore_n 2, 1) := by decide +kernel
theorem d0_1_16 : decode code 16 = .ok (.iconst 0, 1) := by decide +kernel
theorem d0_1_17 : decode code 17 = .ok (.istore_n 3, 1) := by decide +kernel
theorem d0_1_18 : decode code 18 = .ok (.iload_n 3, 1) := by decide +kernel
theorem d0_1_19 : decode code 19 = .ok (.aload_n 0, 1) := by decide +kernel
theorem d0_1_20 : decode code 20 = .ok (.arraylength, 1) := by decide +kernel
theorem d0_1_21 : decode code 21 = .ok (.iconst 4, 1) := by decide +kernel
theorem d0_1_22 : decode code 22 = .ok (.isub, 1) := by decide +kernel
theorem d0_1_23 : decode code 23 = .ok (.if_icmp .gt 434, 3) := by decide +kernel
theorem d0_1_26 : decode code 26 = .ok (.aload_n 0, 1) := by decide +kernel
theorem d0_1_27 : decode code 27 = .ok (.iload_n 3, 1) := by decide +kernel
theorem d0_1_28 : decode code 28 = .ok (.iaload, 1) := by decide +kernel
theorem d0_1_29 : decode code 29 = .ok (.bipush 31, 2) := by decide +kernel
theorem d0_1_31 : decode code 31 = .ok (.iand, 1) := by decide +kernel
theorem d0_1_32 : decode code 32 = .ok (.tableswitch 419 0 16 #[84, 109, 132, 155, 178, 203, 216, 229, 242, 255, 268, 281, 304, 317, 350, 393, 406], 84) := by decide +kernel
theorem d0_1_116 : decode code 116 = .ok (.aload_n 1, 1) := by decide +kernel
theorem d0_1_117 : decode code 117 = .ok (.aload_n 0, 1) := by decide +kernel
theorem d0_1_118 : decode code 118 = .ok (.iload_n 3, 1) := by decide +kernel
theorem d0_1_119 : decode code 119 = .ok (.iconst 1, 1) := by decide +kernel
theorem d0_1_120 : decode code 120 = .ok (.iadd, 1) := by decide +kernel
theorem d0_1_121 : decode code 121 = .ok (.iaload, 1) := by decide +kernel
theorem d0_1_122 : decode code 122 = .ok (.i2c, 1) := by decide +kernel
theorem d0_1_123 : decode code 123 = .ok (.invokevirtual 13, 3) := by decide +kernel
theorem d0_1_126 : decode code 126 = .ok (.aload_n 2, 1) := by decide +kernel
theorem d0_1_127 : decode code 127 = .ok (.aload_n 0, 1) := by decide +kernel
theorem d0_1_128 : decode code 128 = .ok (.iload_n 3, 1) := by decide +kernel
theorem d0_1_129 : decode code 129 = .ok (.iconst 1, 1) := by decide +kernel
theorem d0_1_130 : decode code 130 = .ok (.iadd, 1) := by decide +kernel
theorem d0_1_131 : decode code 131 = .ok (.iaload, 1) := by decide +kernel
theorem d0_1_132 : decode code 132 = .ok (.i2c, 1) := by decide +kernel
theorem d0_1_133 : decode code 133 = .ok (.invokevirtual 17, 3) := by decide +kernel
theorem d0_1_136 : decode code 136 = .ok (.if_icmp .eq 315, 3) := by decide +kernel
theorem d0_1_139 : decode code 139 = .ok (.iconst 0, 1) := by decide +kernel
theorem d0_1_140 : decode code 140 = .ok (.ireturn, 1) := by decide +kernel
theorem d0_1_141 : decode code 141 = .ok (.aload_n 1, 1) := by decide +kernel
theorem d0_1_142 : decode code 142 = .ok (.aload_n 0, 1) := by decide +kernel
theorem d0_1_143 : decode code 143 = .ok (.iload_n 3, 1) := by decide +kernel
theorem d0_1_144 : decode code 144 = .ok (.iconst 1, 1) := by decide +kernel
theorem d0_1_145 : decode code 145 = .ok (.iadd, 1) := by decide +kernel
theorem d0_1_146 : decode code 146 = .ok (.iaload, 1) := by decide +kernel
theorem d0_1_147 : decode code 147 = .ok (.invokevirtual 18, 3) := by decide +kernel
theorem d0_1_150 : decode code 150 = .ok (.aload_n 2, 1) := by decide +kernel
theorem d0_1_151 : decode code 151 = .ok (.aload_n 0, 1) := by decide +kernel
theorem d0_1_152 : decode code 152 = .ok (.iload_n 3, 1) := by decide +kernel
theorem d0_1_153 : decode code 153 = .ok (.iconst 1, 1) := by decide +kernel
theorem d0_1_154 : decode code 154 = .ok (.iadd, 1) := by decide +kernel
theorem d0_1_155 : decode code 155 = .ok (.iaload, 1) := by decide +kernel
theorem d0_1_156 : decode code 156 = .ok (.invokevirtual 22, 3) := by decide +kernel
theorem d0_1_159 : decode code 159 = .ok (.if_icmp .eq 292, 3) := by decide +kernel
theorem d0_1_162 : decode code 162 = .ok (.iconst 0, 1) := by decide +kernel
theorem d0_1_163 : decode code 163 = .ok (.ireturn, 1) := by decide +kernel
theorem d0_1_164 : decode code 164 = .ok (.aload_n 1, 1) := by decide +kernel
theorem d0_1_165 : decode code 165 = .ok (.aload_n 0, 1) := by decide +kernel
theorem d0_1_166 : decode code 166 = .ok (.iload_n 3, 1) := by decide +kernel
theorem d0_1_167 : decode code 167 = .ok (.iconst 1, 1) := by decide +kernel
theorem d0_1_168 : decode code 168 = .ok (.iadd, 1) := by decide +kernel
theorem d0_1_169 : decode code 169 = .ok (.iaload, 1) := by decide +kernel
theorem d0_1_170 : decode code 170 = .ok (.invokevirtual 23, 3) := by decide +kernel
theorem d0_1_173 : decode code 173 = .ok (.aload_n 2, 1) := by decide +kernel
theorem d0_1_174 : decode code 174 = .ok (.aload_n 0, 1) := by decide +kernel
theorem d0_1_175 : decode code 175 = .ok (.iload_n 3, 1) := by decide +kernel
theorem d0_1_176 : decode code 176 = .ok (.iconst 1, 1) := by decide +kernel
theorem d0_1_177 : decode code 177 = .ok (.iadd, 1) := by decide +kernel
theorem d0_1_178 : decode code 178 = .ok (.iaload, 1) := by decide +kernel
theorem d0_1_179 : decode code 179 = .ok (.invokevirtual 27, 3) := by decide +kernel
theorem d0_1_182 : decode code 182 = .ok (.if_icmp .eq 269, 3) := by decide +kernel
theorem d0_1_185 : decode code 185 = .ok (.iconst 0, 1) := by decide +kernel
theorem d0_1_186 : decode code 186 = .ok (.ireturn, 1) := by decide +kernel
theorem d0_1_187 : decode code 187 = .ok (.aload_n 1, 1) := by decide +kernel
theorem d0_1_188 : decode code 188 = .ok (.aload_n 0, 1) := by decide +kernel
theorem d0_1_189 : decode code 189 = .ok (.iload_n 3, 1) := by decide +kernel
theorem d0_1_190 : decode code 190 = .ok (.iconst 1, 1) := by decide +kernel
theorem d0_1_191 : decode code 191 = .ok (.iadd, 1) := by decide +kernel
theorem d0_1_192 : decode code 192 = .ok (.iaload, 1) := by decide +kernel
theorem d0_1_193 : decode code 193 = .ok (.invokevirtual 28, 3) := by decide +kernel
theorem d0_1_196 : decode code 196 = .ok (.aload_n 2, 1) := by decide +kernel
theorem d0_1_197 : decode code 197 = .ok (.aload_n 0, 1) := by decide +kernel
theorem d0_1_198 : decode code 198 = .ok (.iload_n 3, 1) := by decide +kernel
theorem d0_1_199 : decode code 199 = .ok (.iconst 1, 1) := by decide +kernel
theorem d0_1_200 : decode code 200 = .ok (.iadd, 1) := by decide +kernel
theorem d0_1_201 : decode code 201 = .ok (.iaload, 1) := by decide +kernel
theorem d0_1_202 : decode code 202 = .ok (.invokevirtual 31, 3) := by decide +kernel
theorem d0_1_205 : decode code 205 = .ok (.if_icmp .eq 246, 3) := by decide +kernel
theorem d0_1_208 : decode code 208 = .ok (.iconst 0, 1) := by decide +kernel
theorem d0_1_209 : decode code 209 = .ok (.ireturn, 1) := by decide +kernel
theorem d0_1_210 : decode code 210 = .ok (.aload_n 1, 1) := by decide +kernel
theorem d0_1_211 : decode code 211 = .ok (.aload_n 0, 1) := by decide +kernel
theorem d0_1_212 : decode code 212 = .ok (.iload_n 3, 1) := by decide +kernel
theorem d0_1_213 : decode code 213 = .ok (.iconst 1, 1) := by decide +kernel
theorem d0_1_214 : decode code 214 = .ok (.iadd, 1) := by decide +kernel
theorem d0_1_215 : decode code 215 = .ok (.iaload, 1) := by decide +kernel
theorem d0_1_216 : decode code 216 = .ok (.i2c, 1) := by decide +kernel
theorem d0_1_217 : decode code 217 = .ok (.invokevirtual 32, 3) := by decide +kernel
theorem d0_1_220 : decode code 220 = .ok (.aload_n 2, 1) := by decide +kernel
theorem d0_1_221 : decode code 221 = .ok (.aload_n 0, 1) := by decide +kernel
theorem d0_1_222 : decode code 222 = .ok (.iload_n 3, 1) := by decide +kernel
theorem d0_1_223 : decode code 223 = .ok (.iconst 1, 1) := by decide +kernel
theorem d0_1_224 : decode code 224 = .ok (.iadd, 1) := by decide +kernel
theorem d0_1_225 : decode code 225 = .ok (.iaload, 1) := by decide +kernel
theorem d0_1_226 : decode code 226 = .ok (.i2c, 1) := by decide +kernel
theorem d0_1_227 : decode code 227 = .ok (.invokevirtual 35, 3) := by decide +kernel
theorem d0_1_230 : decode code 230 = .ok (.if_icmp .eq 221, 3) := by decide +kernel
theorem d0_1_233 : decode code 233 = .ok (.iconst 0, 1) := by decide +kernel
theorem d0_1_234 : decode code 234 = .ok (.ireturn, 1) := by decide +kernel
theorem d0_1_235 : decode code 235 = .ok (.aload_n 1, 1) := by decide +kernel
theorem d0_1_236 : decode code 236 = .ok (.invokevirtual 36, 3) := by decide +kernel
theorem d0_1_239 : decode code 239 = .ok (.aload_n 2, 1) := by decide +kernel
theorem d0_1_240 : decode code 240 = .ok (.invokevirtual 40, 3) := by decide +kernel
theorem d0_1_243 : decode code 243 = .ok (.if_icmp .eq 208, 3) := by decide +kernel
theorem d0_1_246 : decode code 246 = .ok (.iconst 0, 1) := by decide +kernel
theorem d0_1_247 : decode code 247 = .ok (.ireturn, 1) := by decide +kernel
theorem d0_1_248 : decode code 248 = .ok (.aload_n 1, 1) := by decide +kernel
theorem d0_1_249 : decode code 249 = .ok (.invokevirtual 41, 3) := by decide +kernel
theorem d0_1_252 : decode code 252 = .ok (.aload_n 2, 1) := by decide +kernel
theorem d0_1_253 : decode code 253 = .ok (.invokevirtual 44, 3) := by decide +kernel
theorem d0_1_256 : decode code 256 = .ok (.if_icmp .eq 195, 3) := by decide +kernel
theorem d0_1_259 : decode code 259 = .ok (.iconst 0, 1) := by decide +kernel
theorem d0_1_260 : decode code 260 = .ok (.ireturn, 1) := by decide +kernel
theorem d0_1_261 : decode code 261 = .ok (.aload_n 1, 1) := by decide +kernel
theorem d0_1_262 : decode code 262 = .ok (.invokevirtual 45, 3) := by decide +kernel
theorem d0_1_265 : decode code 265 = .ok (.aload_n 2, 1) := by decide +kernel
theorem d0_1_266 : decode code 266 = .ok (.invokevirtual 48, 3) := by decide +kernel
theorem d0_1_269 : decode code 269 = .ok (.if_icmp .eq 182, 3) := by decide +kernel
theorem d0_1_272 : decode code 272 = .ok (.iconst 0, 1) := by decide +kernel
theorem d0_1_273 : decode code 273 = .ok (.ireturn, 1) := by decide +kernel
theorem d0_1_274 : decode code 274 = .ok (.aload_n 1, 1) := by decide +kernel
theorem d0_1_275 : decode code 275 = .ok (.invokevirtual 49, 3) := by decide +kernel
theorem d0_1_278 : decode code 278 = .ok (.aload_n 2, 1) := by decide +kernel
theorem d0_1_279 : decode code 279 = .ok (.invokevirtual 52, 3) := by decide +kernel
theorem d0_1_282 : decode code 282 = .ok (.if_icmp .eq 169, 3) := by decide +kernel
theorem d0_1_285 : decode code 285 = .ok (.iconst 0, 1) := by decide +kernel
theorem d0_1_286 : decode code 286 = .ok (.ireturn, 1) := by decide +kernel
theorem d0_1_287 : decode code 287 = .ok (.aload_n 1, 1) := by decide +kernel
theorem d0_1_288 : decode code 288 = .ok (.invokevirtual 53, 3) := by decide +kernel
theorem d0_1_291 : decode code 291 = .ok (.aload_n 2, 1) := by decide +kernel
theorem d0_1_292 : decode code 292 = .ok (.invokevirtual 56, 3) := by decide +kernel
theorem d0_1_295 : decode code 295 = .ok (.if_icmp .eq 156, 3) := by decide +kernel
theorem d0_1_298 : decode code 298 = .ok (.iconst 0, 1) := by decide +kernel
theorem d0_1_299 : decode code 299 = .ok (.ireturn, 1) := by decide +kernel
theorem d0_1_300 : decode code 300 = .ok (.aload_n 1, 1) := by decide +kernel
theorem d0_1_301 : decode code 301 = .ok (.invokevirtual 57, 3) := by decide +kernel
theorem d0_1_304 : decode code 304 = .ok (.aload_n 2, 1) := by decide +kernel
theorem d0_1_305 : decode code 305 = .ok (.invokevirtual 60, 3) := by decide +kernel
theorem d0_1_308 : decode code 308 = .ok (.if_icmp .eq 143, 3) := by decide +kernel
theorem d0_1_311 : decode code 311 = .ok (.iconst 0, 1) := by decide +kernel
theorem d0_1_312 : decode code 312 = .ok (.ireturn, 1) := by decide +kernel
theorem d0_1_313 : decode code 313 = .ok (.aload_n 1, 1) := by decide +kernel
theorem d0_1_314 : decode code 314 = .ok (.aload_n 0, 1) := by decide +kernel
theorem d0_1_315 : decode code 315 = .ok (.iload_n 3, 1) := by decide +kernel
theorem d0_1_316 : decode code 316 = .ok (.iconst 1, 1) := by decide +kernel
theorem d0_1_317 : decode code 317 = .ok (.iadd, 1) := by decide +kernel
theorem d0_1_318 : decode code 318 = .ok (.iaload, 1) := by decide +kernel
theorem d0_1_319 : decode code 319 = .ok (.invokevirtual 61, 3) := by decide +kernel
theorem d0_1_322 : decode code 322 = .ok (.aload_n 2, 1) := by decide +kernel
theorem d0_1_323 : decode code 323 = .ok (.aload_n 0, 1) := by decide +kernel
theorem d0_1_324 : decode code 324 = .ok (.iload_n 3, 1) := by decide +kernel
theorem d0_1_325 : decode code 325 = .ok (.iconst 1, 1) := by decide +kernel
theorem d0_1_326 : decode code 326 = .ok (.iadd, 1) := by decide +kernel
theorem d0_1_327 : decode code 327 = .ok (.iaload, 1) := by decide +kernel
theorem d0_1_328 : decode code 328 = .ok (.invokevirtual 64, 3) := by decide +kernel
theorem d0_1_331 : decode code 331 = .ok (.if_icmp .eq 120, 3) := by decide +kernel
theorem d0_1_334 : decode code 334 = .ok (.iconst 0, 1) := by decide +kernel
theorem d0_1_335 : decode code 335 = .ok (.ireturn, 1) := by decide +kernel
theorem d0_1_336 : decode code 336 = .ok (.aload_n 1, 1) := by decide +kernel
theorem d0_1_337 : decode code 337 = .ok (.invokevirtual 65, 3) := by decide +kernel
theorem d0_1_340 : decode code 340 = .ok (.aload_n 2, 1) := by decide +kernel
theorem d0_1_341 : decode code 341 = .ok (.invokevirtual 68, 3) := by decide +kernel
theorem d0_1_344 : decode code 344 = .ok (.if_icmp .eq 107, 3) := by decide +kernel
theorem d0_1_347 : decode code 347 = .ok (.iconst 0, 1) := by decide +kernel
theorem d0_1_348 : decode code 348 = .ok (.ireturn, 1) := by decide +kernel
theorem d0_1_349 : decode code 349 = .ok (.aload_n 1, 1) := by decide +kernel
theorem d0_1_350 : decode code 350 = .ok (.aload_n 0, 1) := by decide +kernel
theorem d0_1_351 : decode code 351 = .ok (.iload_n 3, 1) := by decide +kernel
theorem d0_1_352 : decode code 352 = .ok (.iconst 1, 1) := by decide +kernel
theorem d0_1_353 : decode code 353 = .ok (.iadd, 1) := by decide +kernel
theorem d0_1_354 : decode code 354 = .ok (.iaload, 1) := by decide +kernel
theorem d0_1_355 : decode code 355 = .ok (.aload_n 0, 1) := by decide +kernel
theorem d0_1_356 : decode code 356 = .ok (.iload_n 3, 1) := by decide +kernel
theorem d0_1_357 : decode code 357 = .ok (.iconst 2, 1) := by decide +kernel
theorem d0_1_358 : decode code 358 = .ok (.iadd, 1) := by decide +kernel
theorem d0_1_359 : decode code 359 = .ok (.iaload, 1) := by decide +kernel
theorem d0_1_360 : decode code 360 = .ok (.invokevirtual 69, 3) := by decide +kernel
theorem d0_1_363 : decode code 363 = .ok (.aload_n 2, 1) := by decide +kernel
theorem d0_1_364 : decode code 364 = .ok (.aload_n 0, 1) := by decide +kernel
theorem d0_1_365 : decode code 365 = .ok (.iload_n 3, 1) := by decide +kernel
theorem d0_1_366 : decode code 366 = .ok (.iconst 1, 1) := by decide +kernel
theorem d0_1_367 : decode code 367 = .ok (.iadd, 1) := by decide +kernel
theorem d0_1_368 : decode code 368 = .ok (.iaload, 1) := by decide +kernel
theorem d0_1_369 : decode code 369 = .ok (.aload_n 0, 1) := by decide +kernel
theorem d0_1_370 : decode code 370 = .ok (.iload_n 3, 1) := by decide +kernel
theorem d0_1_371 : decode code 371 = .ok (.iconst 2, 1) := by decide +kernel
theorem d0_1_372 : decode code 372 = .ok (.iadd, 1) := by decide +kernel
theorem d0_1_373 : decode code 373 = .ok (.iaload, 1) := by decide +kernel
theorem d0_1_374 : decode code 374 = .ok (.invokevirtual 73, 3) := by decide +kernel
theorem d0_1_377 : decode code 377 = .ok (.if_icmp .eq 74, 3) := by decide +kernel
theorem d0_1_380 : decode code 380 = .ok (.iconst 0, 1) := by decide +kernel
theorem d0_1_381 : decode code 381 = .ok (.ireturn, 1) := by decide +kernel
theorem d0_1_382 : decode code 382 = .ok (.aload_n 1, 1) := by decide +kernel
theorem d0_1_383 : decode code 383 = .ok (.aload_n 0, 1) := by decide +kernel
theorem d0_1_384 : decode code 384 = .ok (.iload_n 3, 1) := by decide +kernel
theorem d0_1_385 : decode code 385 = .ok (.iconst 1, 1) := by decide +kernel
theorem d0_1_386 : decode code 386 = .ok (.iadd, 1) := by decide +kernel
theorem d0_1_387 : decode code 387 = .ok (.iaload, 1) := by decide +kernel
theorem d0_1_388 : decode code 388 = .ok (.aload_n 0, 1) := by decide +kernel
theorem d0_1_389 : decode code 389 = .ok (.iload_n 3, 1) := by decide +kernel
theorem d0_1_390 : decode code 390 = .ok (.iconst 2, 1) := by decide +kernel
theorem d0_1_391 : decode code 391 = .ok (.iadd, 1) := by decide +kernel
theorem d0_1_392 : decode code 392 = .ok (.iaload, 1) := by decide +kernel
theorem d0_1_393 : decode code 393 = .ok (.aload_n 0, 1) := by decide +kernel
theorem d0_1_394 : decode code 394 = .ok (.iload_n 3, 1) := by decide +kernel
theorem d0_1_395 : decode code 395 = .ok (.iconst 3, 1) := by decide +kernel
theorem d0_1_396 : decode code 396 = .ok (.iadd, 1) := by decide +kernel
theorem d0_1_397 : decode code 397 = .ok (.iaload, 1) := by decide +kernel
theorem d0_1_398 : decode code 398 = .ok (.invokevirtual 74, 3) := by decide +kernel
theorem d0_1_401 : decode code 401 = .ok (.aload_n 2, 1) := by decide +kernel
theorem d0_1_402 : decode code 402 = .ok (.aload_n 0, 1) := by decide +kernel
theorem d0_1_403 : decode code 403 = .ok (.iload_n 3, 1) := by decide +kernel
theorem d0_1_404 : decode code 404 = .ok (.iconst 1, 1) := by decide +kernel
theorem d0_1_405 : decode code 405 = .ok (.iadd, 1) := by decide +kernel
theorem d0_1_406 : decode code 406 = .ok (.iaload, 1) := by decide +kernel
theorem d0_1_407 : decode code 407 = .ok (.aload_n 0, 1) := by decide +kernel
theorem d0_1_408 : decode code 408 = .ok (.iload_n 3, 1) := by decide +kernel
theorem d0_1_409 : decode code 409 = .ok (.iconst 2, 1) := by decide +kernel
theorem d0_1_410 : decode code 410 = .ok (.iadd, 1) := by decide +kernel
theorem d0_1_411 : decode code 411 = .ok (.iaload, 1) := by decide +kernel
theorem d0_1_412 : decode code 412 = .ok (.aload_n 0, 1) := by decide +kernel
theorem d0_1_413 : decode code 413 = .ok (.iload_n 3, 1) := by decide +kernel
theorem d0_1_414 : decode code 414 = .ok (.iconst 3, 1) := by decide +kernel
theorem d0_1_415 : decode code 415 = .ok (.iadd, 1) := by decide +kernel
theorem d0_1_416 : decode code 416 = .ok (.iaload, 1) := by decide +kernel
theorem d0_1_417 : decode code 417 = .ok (.invokevirtual 78, 3) := by decide +kernel
theorem d0_1_420 : decode code 420 = .ok (.if_icmp .eq 31, 3) := by decide +kernel
theorem d0_1_423 : decode code 423 = .ok (.iconst 0, 1) := by decide +kernel
theorem d0_1_424 : decode code 424 = .ok (.ireturn, 1) := by decide +kernel
theorem d0_1_425 : decode code 425 = .ok (.aload_n 1, 1) := by decide +kernel
theorem d0_1_426 : decode code 426 = .ok (.invokevirtual 79, 3) := by decide +kernel
theorem d0_1_429 : decode code 429 = .ok (.aload_n 2, 1) := by decide +kernel
theorem d0_1_430 : decode code 430 = .ok (.invokevirtual 82, 3) := by decide +kernel
theorem d0_1_433 : decode code 433 = .ok (.if_icmp .eq 18, 3) := by decide +kernel
theorem d0_1_436 : decode code 436 = .ok (.iconst 0, 1) := by decide +kernel
theorem d0_1_437 : decode code 437 = .ok (.ireturn, 1) := by decide +kernel
theorem d0_1_438 : decode code 438 = .ok (.aload_n 1, 1) := by decide +kernel
theorem d0_1_439 : decode code 439 = .ok (.invokevirtual 83, 3) := by decide +kernel
theorem d0_1_442 : decode code 442 = .ok (.aload_n 2, 1) := by decide +kernel
theorem d0_1_443 : decode code 443 = .ok (.invokevirtual 86, 3) := by decide +kernel
theorem d0_1_446 : decode code 446 = .ok (.if_icmp .eq 5, 3) := by decide +kernel
theorem d0_1_449 : decode code 449 = .ok (.iconst 0, 1) := by decide +kernel
theorem d0_1_450 : decode code 450 = .ok (.ireturn, 1) := by decide +kernel
theorem d0_1_451 : decode code 451 = .ok (.iinc 3 4, 3) := by decide +kernel
theorem d0_1_454 : decode code 454 = .ok (.goto (-436), 3) := by decide +kernel
theorem d0_1_457 : decode code 457 = .ok (.iconst 1, 1) := by decide +kernel
theorem d0_1_458 : decode code 458 = .ok (.ireturn, 1) := by decide +kernel
