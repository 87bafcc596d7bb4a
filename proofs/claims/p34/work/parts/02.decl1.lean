theorem dL_same_13 : decode cL_same 13 = .ok (.aload_n 2, 1) := by decide +kernel
theorem dL_same_14 : decode cL_same 14 = .ok (.bipush 6, 2) := by decide +kernel
theorem dL_same_16 : decode cL_same 16 = .ok (.iaload, 1) := by decide +kernel
theorem dL_same_17 : decode cL_same 17 = .ok (.ifCond .le 7, 3) := by decide +kernel
theorem dL_same_20 : decode cL_same 20 = .ok (.iconst 1, 1) := by decide +kernel
theorem dL_same_21 : decode cL_same 21 = .ok (.goto 4, 3) := by decide +kernel
theorem dL_same_24 : decode cL_same 24 = .ok (.iconst 0, 1) := by decide +kernel
theorem dL_same_25 : decode cL_same 25 = .ok (.istore 9, 2) := by decide +kernel
theorem dL_same_27 : decode cL_same 27 = .ok (.iconst 1, 1) := by decide +kernel
theorem dL_same_28 : decode cL_same 28 = .ok (.istore 10, 2) := by decide +kernel
theorem dL_same_30 : decode cL_same 30 = .ok (.iload 10, 2) := by decide +kernel
theorem dL_same_32 : decode cL_same 32 = .ok (.bipush 6, 2) := by decide +kernel
theorem dL_same_34 : decode cL_same 34 = .ok (.if_icmp .ge 61, 3) := by decide +kernel
theorem dL_same_37 : decode cL_same 37 = .ok (.iload 7, 2) := by decide +kernel
theorem dL_same_39 : decode cL_same 39 = .ok (.aload_n 2, 1) := by decide +kernel
theorem dL_same_40 : decode cL_same 40 = .ok (.bipush 10, 2) := by decide +kernel
theorem dL_same_42 : decode cL_same 42 = .ok (.iload 10, 2) := by decide +kernel
theorem dL_same_44 : decode cL_same 44 = .ok (.iadd, 1) := by decide +kernel
theorem dL_same_45 : decode cL_same 45 = .ok (.iaload, 1) := by decide +kernel
theorem dL_same_46 : decode cL_same 46 = .ok (.ifCond .ge 7, 3) := by decide +kernel
theorem dL_same_49 : decode cL_same 49 = .ok (.iconst 0, 1) := by decide +kernel
theorem dL_same_50 : decode cL_same 50 = .ok (.goto 4, 3) := by decide +kernel
theorem dL_same_53 : decode cL_same 53 = .ok (.iconst 1, 1) := by decide +kernel
theorem dL_same_54 : decode cL_same 54 = .ok (.iadd, 1) := by decide +kernel
theorem dL_same_55 : decode cL_same 55 = .ok (.istore 7, 2) := by decide +kernel
theorem dL_same_57 : decode cL_same 57 = .ok (.aload_n 0, 1) := by decide +kernel
theorem dL_same_58 : decode cL_same 58 = .ok (.iload 10, 2) := by decide +kernel
theorem dL_same_60 : decode cL_same 60 = .ok (.invokevirtual 56, 3) := by decide +kernel
theorem dL_same_63 : decode cL_same 63 = .ok (.aload_n 2, 1) := by decide +kernel
theorem dL_same_64 : decode cL_same 64 = .ok (.bipush 10, 2) := by decide +kernel
theorem dL_same_66 : decode cL_same 66 = .ok (.iload 10, 2) := by decide +kernel
theorem dL_same_68 : decode cL_same 68 = .ok (.iadd, 1) := by decide +kernel
theorem dL_same_69 : decode cL_same 69 = .ok (.iaload, 1) := by decide +kernel
theorem dL_same_70 : decode cL_same 70 = .ok (.ifCond .ge 7, 3) := by decide +kernel
theorem dL_same_73 : decode cL_same 73 = .ok (.iconst (-1), 1) := by decide +kernel
theorem dL_same_74 : decode cL_same 74 = .ok (.goto 10, 3) := by decide +kernel
theorem dL_same_77 : decode cL_same 77 = .ok (.aload_n 2, 1) := by decide +kernel
theorem dL_same_78 : decode cL_same 78 = .ok (.bipush 10, 2) := by decide +kernel
theorem dL_same_80 : decode cL_same 80 = .ok (.iload 10, 2) := by decide +kernel
theorem dL_same_82 : decode cL_same 82 = .ok (.iadd, 1) := by decide +kernel
theorem dL_same_83 : decode cL_same 83 = .ok (.iaload, 1) := by decide +kernel
theorem dL_same_84 : decode cL_same 84 = .ok (.if_icmp .eq 5, 3) := by decide +kernel
theorem dL_same_87 : decode cL_same 87 = .ok (.iconst 0, 1) := by decide +kernel
theorem dL_same_88 : decode cL_same 88 = .ok (.ireturn, 1) := by decide +kernel
theorem dL_same_89 : decode cL_same 89 = .ok (.iinc 10 1, 3) := by decide +kernel
theorem dL_same_92 : decode cL_same 92 = .ok (.goto (-62), 3) := by decide +kernel
theorem dL_same_95 : decode cL_same 95 = .ok (.aload_n 2, 1) := by decide +kernel
theorem dL_same_96 : decode cL_same 96 = .ok (.iconst 0, 1) := by decide +kernel
theorem dL_same_97 : decode cL_same 97 = .ok (.iaload, 1) := by decide +kernel
theorem dL_same_98 : decode cL_same 98 = .ok (.iconst 1, 1) := by decide +kernel
theorem dL_same_99 : decode cL_same 99 = .ok (.isub, 1) := by decide +kernel
theorem dL_same_100 : decode cL_same 100 = .ok (.istore 10, 2) := by decide +kernel
theorem dL_same_102 : decode cL_same 102 = .ok (.iload 10, 2) := by decide +kernel
theorem dL_same_104 : decode cL_same 104 = .ok (.ifCond .lt 212, 3) := by decide +kernel
theorem dL_same_107 : decode cL_same 107 = .ok (.aload 4, 2) := by decide +kernel
theorem dL_same_109 : decode cL_same 109 = .ok (.iload 10, 2) := by decide +kernel
theorem dL_same_111 : decode cL_same 111 = .ok (.iaload, 1) := by decide +kernel
theorem dL_same_112 : decode cL_same 112 = .ok (.ifCond .ge 13, 3) := by decide +kernel
theorem dL_same_115 : decode cL_same 115 = .ok (.iload 10, 2) := by decide +kernel
theorem dL_same_117 : decode cL_same 117 = .ok (.aload_n 2, 1) := by decide +kernel
theorem dL_same_118 : decode cL_same 118 = .ok (.aload_n 3, 1) := by decide +kernel
theorem dL_same_119 : decode cL_same 119 = .ok (.invokestatic 37, 3) := by decide +kernel
theorem dL_same_122 : decode cL_same 122 = .ok (.goto 8, 3) := by decide +kernel
theorem dL_same_125 : decode cL_same 125 = .ok (.aload 4, 2) := by decide +kernel
theorem dL_same_127 : decode cL_same 127 = .ok (.iload 10, 2) := by decide +kernel
theorem dL_same_129 : decode cL_same 129 = .ok (.iaload, 1) := by decide +kernel
theorem dL_same_130 : decode cL_same 130 = .ok (.istore 11, 2) := by decide +kernel
theorem dL_same_132 : decode cL_same 132 = .ok (.aload_n 2, 1) := by decide +kernel
theorem dL_same_133 : decode cL_same 133 = .ok (.iconst 2, 1) := by decide +kernel
theorem dL_same_134 : decode cL_same 134 = .ok (.iaload, 1) := by decide +kernel
theorem dL_same_135 : decode cL_same 135 = .ok (.ifCond .le 25, 3) := by decide +kernel
theorem dL_same_138 : decode cL_same 138 = .ok (.iload 10, 2) := by decide +kernel
theorem dL_same_140 : decode cL_same 140 = .ok (.aload_n 2, 1) := by decide +kernel
theorem dL_same_141 : decode cL_same 141 = .ok (.invokestatic 16, 3) := by decide +kernel
theorem dL_same_144 : decode cL_same 144 = .ok (.if_icmp .lt 16, 3) := by decide +kernel
theorem dL_same_147 : decode cL_same 147 = .ok (.iload 10, 2) := by decide +kernel
theorem dL_same_149 : decode cL_same 149 = .ok (.aload_n 2, 1) := by decide +kernel
theorem dL_same_150 : decode cL_same 150 = .ok (.invokestatic 34, 3) := by decide +kernel
theorem dL_same_153 : decode cL_same 153 = .ok (.if_icmp .ge 7, 3) := by decide +kernel
theorem dL_same_156 : decode cL_same 156 = .ok (.iconst 1, 1) := by decide +kernel
theorem dL_same_157 : decode cL_same 157 = .ok (.goto 4, 3) := by decide +kernel
theorem dL_same_160 : decode cL_same 160 = .ok (.iconst 0, 1) := by decide +kernel
theorem dL_same_161 : decode cL_same 161 = .ok (.istore 12, 2) := by decide +kernel
theorem dL_same_163 : decode cL_same 163 = .ok (.aload 4, 2) := by decide +kernel
theorem dL_same_165 : decode cL_same 165 = .ok (.iload 10, 2) := by decide +kernel
theorem dL_same_167 : decode cL_same 167 = .ok (.iaload, 1) := by decide +kernel
theorem dL_same_168 : decode cL_same 168 = .ok (.ifCond .lt 13, 3) := by decide +kernel
theorem dL_same_171 : decode cL_same 171 = .ok (.iload 9, 2) := by decide +kernel
theorem dL_same_173 : decode cL_same 173 = .ok (.ifCond .eq 15, 3) := by decide +kernel
theorem dL_same_176 : decode cL_same 176 = .ok (.iload 12, 2) := by decide +kernel
theorem dL_same_178 : decode cL_same 178 = .ok (.ifCond .eq 10, 3) := by decide +kernel
theorem dL_same_181 : decode cL_same 181 = .ok (.aload_n 3, 1) := by decide +kernel
theorem dL_same_182 : decode cL_same 182 = .ok (.iload 10, 2) := by decide +kernel
theorem dL_same_184 : decode cL_same 184 = .ok (.iaload, 1) := by decide +kernel
theorem dL_same_185 : decode cL_same 185 = .ok (.goto 24, 3) := by decide +kernel
theorem dL_same_188 : decode cL_same 188 = .ok (.aload 4, 2) := by decide +kernel
theorem dL_same_190 : decode cL_same 190 = .ok (.iload 10, 2) := by decide +kernel
theorem dL_same_192 : decode cL_same 192 = .ok (.iaload, 1) := by decide +kernel
theorem dL_same_193 : decode cL_same 193 = .ok (.iload 10, 2) := by decide +kernel
theorem dL_same_195 : decode cL_same 195 = .ok (.aload_n 2, 1) := by decide +kernel
theorem dL_same_196 : decode cL_same 196 = .ok (.bipush 10, 2) := by decide +kernel
theorem dL_same_198 : decode cL_same 198 = .ok (.iload 10, 2) := by decide +kernel
theorem dL_same_200 : decode cL_same 200 = .ok (.aload_n 2, 1) := by decide +kernel
theorem dL_same_201 : decode cL_same 201 = .ok (.invokestatic 22, 3) := by decide +kernel
theorem dL_same_204 : decode cL_same 204 = .ok (.iadd, 1) := by decide +kernel
theorem dL_same_205 : decode cL_same 205 = .ok (.iaload, 1) := by decide +kernel
theorem dL_same_206 : decode cL_same 206 = .ok (.invokestatic 26, 3) := by decide +kernel
theorem dL_same_209 : decode cL_same 209 = .ok (.istore 13, 2) := by decide +kernel
theorem dL_same_211 : decode cL_same 211 = .ok (.iload 11, 2) := by decide +kernel
theorem dL_same_213 : decode cL_same 213 = .ok (.aload 5, 2) := by decide +kernel
theorem dL_same_215 : decode cL_same 215 = .ok (.iload 10, 2) := by decide +kernel
theorem dL_same_217 : decode cL_same 217 = .ok (.iaload, 1) := by decide +kernel
theorem dL_same_218 : decode cL_same 218 = .ok (.if_icmp .ne 8, 3) := by decide +kernel
theorem dL_same_221 : decode cL_same 221 = .ok (.iload 8, 2) := by decide +kernel
theorem dL_same_223 : decode cL_same 223 = .ok (.goto 5, 3) := by decide +kernel
theorem dL_same_226 : decode cL_same 226 = .ok (.iload 10, 2) := by decide +kernel
theorem dL_same_228 : decode cL_same 228 = .ok (.istore 8, 2) := by decide +kernel
theorem dL_same_230 : decode cL_same 230 = .ok (.aload_n 0, 1) := by decide +kernel
theorem dL_same_231 : decode cL_same 231 = .ok (.iload 10, 2) := by decide +kernel
theorem dL_same_233 : decode cL_same 233 = .ok (.invokevirtual 62, 3) := by decide +kernel
theorem dL_same_236 : decode cL_same 236 = .ok (.iload 11, 2) := by decide +kernel
theorem dL_same_238 : decode cL_same 238 = .ok (.if_icmp .ne 70, 3) := by decide +kernel
theorem dL_same_241 : decode cL_same 241 = .ok (.aload_n 0, 1) := by decide +kernel
theorem dL_same_242 : decode cL_same 242 = .ok (.iload 10, 2) := by decide +kernel
theorem dL_same_244 : decode cL_same 244 = .ok (.invokevirtual 65, 3) := by decide +kernel
theorem dL_same_247 : decode cL_same 247 = .ok (.aload_n 3, 1) := by decide +kernel
theorem dL_same_248 : decode cL_same 248 = .ok (.iload 10, 2) := by decide +kernel
theorem dL_same_250 : decode cL_same 250 = .ok (.iaload, 1) := by decide +kernel
theorem dL_same_251 : decode cL_same 251 = .ok (.if_icmp .ne 57, 3) := by decide +kernel
theorem dL_same_254 : decode cL_same 254 = .ok (.aload_n 0, 1) := by decide +kernel
theorem dL_same_255 : decode cL_same 255 = .ok (.iload 10, 2) := by decide +kernel
theorem dL_same_257 : decode cL_same 257 = .ok (.invokevirtual 68, 3) := by decide +kernel
theorem dL_same_260 : decode cL_same 260 = .ok (.iload 10, 2) := by decide +kernel
theorem dL_same_262 : decode cL_same 262 = .ok (.aload_n 2, 1) := by decide +kernel
theorem dL_same_263 : decode cL_same 263 = .ok (.invokestatic 22, 3) := by decide +kernel
theorem dL_same_266 : decode cL_same 266 = .ok (.if_icmp .ne 42, 3) := by decide +kernel
theorem dL_same_269 : decode cL_same 269 = .ok (.aload_n 0, 1) := by decide +kernel
theorem dL_same_270 : decode cL_same 270 = .ok (.iload 10, 2) := by decide +kernel
theorem dL_same_272 : decode cL_same 272 = .ok (.invokevirtual 71, 3) := by decide +kernel
theorem dL_same_275 : decode cL_same 275 = .ok (.aload 6, 2) := by decide +kernel
theorem dL_same_277 : decode cL_same 277 = .ok (.iload 10, 2) := by decide +kernel
theorem dL_same_279 : decode cL_same 279 = .ok (.iaload, 1) := by decide +kernel
theorem dL_same_280 : decode cL_same 280 = .ok (.if_icmp .ne 28, 3) := by decide +kernel
theorem dL_same_283 : decode cL_same 283 = .ok (.aload_n 0, 1) := by decide +kernel
theorem dL_same_284 : decode cL_same 284 = .ok (.iload 10, 2) := by decide +kernel
theorem dL_same_286 : decode cL_same 286 = .ok (.invokevirtual 74, 3) := by decide +kernel
theorem dL_same_289 : decode cL_same 289 = .ok (.aload 4, 2) := by decide +kernel
theorem dL_same_291 : decode cL_same 291 = .ok (.iload 10, 2) := by decide +kernel
theorem dL_same_293 : decode cL_same 293 = .ok (.iaload, 1) := by decide +kernel
theorem dL_same_294 : decode cL_same 294 = .ok (.if_icmp .ne 14, 3) := by decide +kernel
theorem dL_same_297 : decode cL_same 297 = .ok (.aload_n 0, 1) := by decide +kernel
theorem dL_same_298 : decode cL_same 298 = .ok (.iload 10, 2) := by decide +kernel
theorem dL_same_300 : decode cL_same 300 = .ok (.invokevirtual 77, 3) := by decide +kernel
theorem dL_same_303 : decode cL_same 303 = .ok (.iload 13, 2) := by decide +kernel
theorem dL_same_305 : decode cL_same 305 = .ok (.if_icmp .eq 5, 3) := by decide +kernel
theorem dL_same_308 : decode cL_same 308 = .ok (.iconst 0, 1) := by decide +kernel
theorem dL_same_309 : decode cL_same 309 = .ok (.ireturn, 1) := by decide +kernel
theorem dL_same_310 : decode cL_same 310 = .ok (.iinc 10 (-1), 3) := by decide +kernel
theorem dL_same_313 : decode cL_same 313 = .ok (.goto (-211), 3) := by decide +kernel
theorem dL_same_316 : decode cL_same 316 = .ok (.iload_n 1, 1) := by decide +kernel
theorem dL_same_317 : decode cL_same 317 = .ok (.bipush 60, 2) := by decide +kernel
theorem dL_same_319 : decode cL_same 319 = .ok (.invokestatic 80, 3) := by decide +kernel
theorem dL_same_322 : decode cL_same 322 = .ok (.istore 10, 2) := by decide +kernel
theorem dL_same_324 : decode cL_same 324 = .ok (.aload_n 0, 1) := by decide +kernel
theorem dL_same_325 : decode cL_same 325 = .ok (.iconst 0, 1) := by decide +kernel
theorem dL_same_326 : decode cL_same 326 = .ok (.invokevirtual 84, 3) := by decide +kernel
theorem dL_same_329 : decode cL_same 329 = .ok (.aload_n 2, 1) := by decide +kernel
theorem dL_same_330 : decode cL_same 330 = .ok (.iconst 0, 1) := by decide +kernel
theorem dL_same_331 : decode cL_same 331 = .ok (.iaload, 1) := by decide +kernel
theorem dL_same_332 : decode cL_same 332 = .ok (.if_icmp .ne 293, 3) := by decide +kernel
theorem dL_same_335 : decode cL_same 335 = .ok (.aload_n 0, 1) := by decide +kernel
theorem dL_same_336 : decode cL_same 336 = .ok (.iconst 1, 1) := by decide +kernel
theorem dL_same_337 : decode cL_same 337 = .ok (.invokevirtual 84, 3) := by decide +kernel
theorem dL_same_340 : decode cL_same 340 = .ok (.aload_n 2, 1) := by decide +kernel
theorem dL_same_341 : decode cL_same 341 = .ok (.iconst 1, 1) := by decide +kernel
theorem dL_same_342 : decode cL_same 342 = .ok (.iaload, 1) := by decide +kernel
theorem dL_same_343 : decode cL_same 343 = .ok (.if_icmp .ne 282, 3) := by decide +kernel
theorem dL_same_346 : decode cL_same 346 = .ok (.aload_n 0, 1) := by decide +kernel
theorem dL_same_347 : decode cL_same 347 = .ok (.iconst 2, 1) := by decide +kernel
theorem dL_same_348 : decode cL_same 348 = .ok (.invokevirtual 84, 3) := by decide +kernel
theorem dL_same_351 : decode cL_same 351 = .ok (.aload_n 2, 1) := by decide +kernel
theorem dL_same_352 : decode cL_same 352 = .ok (.iconst 2, 1) := by decide +kernel
theorem dL_same_353 : decode cL_same 353 = .ok (.iaload, 1) := by decide +kernel
theorem dL_same_354 : decode cL_same 354 = .ok (.if_icmp .ne 271, 3) := by decide +kernel
theorem dL_same_357 : decode cL_same 357 = .ok (.aload_n 0, 1) := by decide +kernel
theorem dL_same_358 : decode cL_same 358 = .ok (.iconst 3, 1) := by decide +kernel
theorem dL_same_359 : decode cL_same 359 = .ok (.invokevirtual 84, 3) := by decide +kernel
theorem dL_same_362 : decode cL_same 362 = .ok (.aload_n 2, 1) := by decide +kernel
theorem dL_same_363 : decode cL_same 363 = .ok (.iconst 3, 1) := by decide +kernel
theorem dL_same_364 : decode cL_same 364 = .ok (.iaload, 1) := by decide +kernel
theorem dL_same_365 : decode cL_same 365 = .ok (.if_icmp .ne 260, 3) := by decide +kernel
theorem dL_same_368 : decode cL_same 368 = .ok (.aload_n 0, 1) := by decide +kernel
theorem dL_same_369 : decode cL_same 369 = .ok (.iconst 4, 1) := by decide +kernel
theorem dL_same_370 : decode cL_same 370 = .ok (.invokevirtual 84, 3) := by decide +kernel
theorem dL_same_373 : decode cL_same 373 = .ok (.aload_n 2, 1) := by decide +kernel
theorem dL_same_374 : decode cL_same 374 = .ok (.iconst 4, 1) := by decide +kernel
theorem dL_same_375 : decode cL_same 375 = .ok (.iaload, 1) := by decide +kernel
theorem dL_same_376 : decode cL_same 376 = .ok (.if_icmp .ne 249, 3) := by decide +kernel
theorem dL_same_379 : decode cL_same 379 = .ok (.aload_n 0, 1) := by decide +kernel
theorem dL_same_380 : decode cL_same 380 = .ok (.iconst 5, 1) := by decide +kernel
theorem dL_same_381 : decode cL_same 381 = .ok (.invokevirtual 84, 3) := by decide +kernel
theorem dL_same_384 : decode cL_same 384 = .ok (.aload_n 2, 1) := by decide +kernel
theorem dL_same_385 : decode cL_same 385 = .ok (.iconst 5, 1) := by decide +kernel
theorem dL_same_386 : decode cL_same 386 = .ok (.iaload, 1) := by decide +kernel
theorem dL_same_387 : decode cL_same 387 = .ok (.if_icmp .ne 238, 3) := by decide +kernel
theorem dL_same_390 : decode cL_same 390 = .ok (.aload_n 0, 1) := by decide +kernel
theorem dL_same_391 : decode cL_same 391 = .ok (.bipush 6, 2) := by decide +kernel
theorem dL_same_393 : decode cL_same 393 = .ok (.invokevirtual 84, 3) := by decide +kernel
theorem dL_same_396 : decode cL_same 396 = .ok (.aload_n 2, 1) := by decide +kernel
theorem dL_same_397 : decode cL_same 397 = .ok (.bipush 6, 2) := by decide +kernel
theorem dL_same_399 : decode cL_same 399 = .ok (.iaload, 1) := by decide +kernel
theorem dL_same_400 : decode cL_same 400 = .ok (.ifCond .ne 7, 3) := by decide +kernel
theorem dL_same_403 : decode cL_same 403 = .ok (.iconst 0, 1) := by decide +kernel
theorem dL_same_404 : decode cL_same 404 = .ok (.goto 12, 3) := by decide +kernel
theorem dL_same_407 : decode cL_same 407 = .ok (.aload_n 2, 1) := by decide +kernel
theorem dL_same_408 : decode cL_same 408 = .ok (.invokestatic 34, 3) := by decide +kernel
theorem dL_same_411 : decode cL_same 411 = .ok (.aload_n 2, 1) := by decide +kernel
theorem dL_same_412 : decode cL_same 412 = .ok (.invokestatic 16, 3) := by decide +kernel
theorem dL_same_415 : decode cL_same 415 = .ok (.isub, 1) := by decide +kernel
theorem dL_same_416 : decode cL_same 416 = .ok (.if_icmp .ne 209, 3) := by decide +kernel
theorem dL_same_419 : decode cL_same 419 = .ok (.aload_n 0, 1) := by decide +kernel
theorem dL_same_420 : decode cL_same 420 = .ok (.bipush 7, 2) := by decide +kernel
theorem dL_same_422 : decode cL_same 422 = .ok (.invokevirtual 84, 3) := by decide +kernel
theorem dL_same_425 : decode cL_same 425 = .ok (.aload_n 2, 1) := by decide +kernel
theorem dL_same_426 : decode cL_same 426 = .ok (.aload 4, 2) := by decide +kernel
theorem dL_same_428 : decode cL_same 428 = .ok (.invokestatic 87, 3) := by decide +kernel
theorem dL_same_431 : decode cL_same 431 = .ok (.if_icmp .ne 194, 3) := by decide +kernel
theorem dL_same_434 : decode cL_same 434 = .ok (.aload_n 0, 1) := by decide +kernel
theorem dL_same_435 : decode cL_same 435 = .ok (.bipush 8, 2) := by decide +kernel
theorem dL_same_437 : decode cL_same 437 = .ok (.invokevirtual 84, 3) := by decide +kernel
theorem dL_same_440 : decode cL_same 440 = .ok (.aload_n 2, 1) := by decide +kernel
theorem dL_same_441 : decode cL_same 441 = .ok (.bipush 7, 2) := by decide +kernel
theorem dL_same_443 : decode cL_same 443 = .ok (.iaload, 1) := by decide +kernel
theorem dL_same_444 : decode cL_same 444 = .ok (.if_icmp .ne 181, 3) := by decide +kernel
theorem dL_same_447 : decode cL_same 447 = .ok (.aload_n 0, 1) := by decide +kernel
theorem dL_same_448 : decode cL_same 448 = .ok (.bipush 9, 2) := by decide +kernel
theorem dL_same_450 : decode cL_same 450 = .ok (.invokevirtual 84, 3) := by decide +kernel
theorem dL_same_453 : decode cL_same 453 = .ok (.aload_n 2, 1) := by decide +kernel
theorem dL_same_454 : decode cL_same 454 = .ok (.bipush 8, 2) := by decide +kernel
theorem dL_same_456 : decode cL_same 456 = .ok (.iaload, 1) := by decide +kernel
theorem dL_same_457 : decode cL_same 457 = .ok (.if_icmp .ne 168, 3) := by decide +kernel
theorem dL_same_460 : decode cL_same 460 = .ok (.aload_n 0, 1) := by decide +kernel
theorem dL_same_461 : decode cL_same 461 = .ok (.bipush 10, 2) := by decide +kernel
theorem dL_same_463 : decode cL_same 463 = .ok (.invokevirtual 84, 3) := by decide +kernel
theorem dL_same_466 : decode cL_same 466 = .ok (.iload 7, 2) := by decide +kernel
theorem dL_same_468 : decode cL_same 468 = .ok (.if_icmp .ne 157, 3) := by decide +kernel
theorem dL_same_471 : decode cL_same 471 = .ok (.aload_n 0, 1) := by decide +kernel
theorem dL_same_472 : decode cL_same 472 = .ok (.bipush 11, 2) := by decide +kernel
theorem dL_same_474 : decode cL_same 474 = .ok (.invokevirtual 84, 3) := by decide +kernel
theorem dL_same_477 : decode cL_same 477 = .ok (.aload_n 2, 1) := by decide +kernel
theorem dL_same_478 : decode cL_same 478 = .ok (.bipush 9, 2) := by decide +kernel
theorem dL_same_480 : decode cL_same 480 = .ok (.iaload, 1) := by decide +kernel
theorem dL_same_481 : decode cL_same 481 = .ok (.if_icmp .ne 144, 3) := by decide +kernel
theorem dL_same_484 : decode cL_same 484 = .ok (.aload_n 0, 1) := by decide +kernel
theorem dL_same_485 : decode cL_same 485 = .ok (.bipush 12, 2) := by decide +kernel
theorem dL_same_487 : decode cL_same 487 = .ok (.invokevirtual 84, 3) := by decide +kernel
theorem dL_same_490 : decode cL_same 490 = .ok (.aload_n 2, 1) := by decide +kernel
theorem dL_same_491 : decode cL_same 491 = .ok (.bipush 10, 2) := by decide +kernel
theorem dL_same_493 : decode cL_same 493 = .ok (.iaload, 1) := by decide +kernel
theorem dL_same_494 : decode cL_same 494 = .ok (.if_icmp .ne 131, 3) := by decide +kernel
theorem dL_same_497 : decode cL_same 497 = .ok (.aload_n 0, 1) := by decide +kernel
theorem dL_same_498 : decode cL_same 498 = .ok (.invokevirtual 90, 3) := by decide +kernel
theorem dL_same_501 : decode cL_same 501 = .ok (.aload_n 2, 1) := by decide +kernel
theorem dL_same_502 : decode cL_same 502 = .ok (.aload_n 3, 1) := by decide +kernel
theorem dL_same_503 : decode cL_same 503 = .ok (.aload 4, 2) := by decide +kernel
theorem dL_same_505 : decode cL_same 505 = .ok (.aload 5, 2) := by decide +kernel
theorem dL_same_507 : decode cL_same 507 = .ok (.invokestatic 52, 3) := by decide +kernel
theorem dL_same_510 : decode cL_same 510 = .ok (.if_icmp .ne 115, 3) := by decide +kernel
theorem dL_same_513 : decode cL_same 513 = .ok (.aload_n 0, 1) := by decide +kernel
theorem dL_same_514 : decode cL_same 514 = .ok (.invokevirtual 93, 3) := by decide +kernel
theorem dL_same_517 : decode cL_same 517 = .ok (.iload 8, 2) := by decide +kernel
theorem dL_same_519 : decode cL_same 519 = .ok (.if_icmp .ne 106, 3) := by decide +kernel
theorem dL_same_522 : decode cL_same 522 = .ok (.aload_n 0, 1) := by decide +kernel
theorem dL_same_523 : decode cL_same 523 = .ok (.invokevirtual 96, 3) := by decide +kernel
theorem dL_same_526 : decode cL_same 526 = .ok (.aload_n 2, 1) := by decide +kernel
theorem dL_same_527 : decode cL_same 527 = .ok (.iconst 2, 1) := by decide +kernel
theorem dL_same_528 : decode cL_same 528 = .ok (.iaload, 1) := by decide +kernel
theorem dL_same_529 : decode cL_same 529 = .ok (.ifCond .ge 8, 3) := by decide +kernel
theorem dL_same_532 : decode cL_same 532 = .ok (.bipush (-3), 2) := by decide +kernel
theorem dL_same_534 : decode cL_same 534 = .ok (.goto 7, 3) := by decide +kernel
theorem dL_same_537 : decode cL_same 537 = .ok (.aload_n 2, 1) := by decide +kernel
theorem dL_same_538 : decode cL_same 538 = .ok (.invokestatic 16, 3) := by decide +kernel
theorem dL_same_541 : decode cL_same 541 = .ok (.if_icmp .ne 84, 3) := by decide +kernel
theorem dL_same_544 : decode cL_same 544 = .ok (.aload_n 0, 1) := by decide +kernel
theorem dL_same_545 : decode cL_same 545 = .ok (.invokevirtual 99, 3) := by decide +kernel
theorem dL_same_548 : decode cL_same 548 = .ok (.aload_n 2, 1) := by decide +kernel
theorem dL_same_549 : decode cL_same 549 = .ok (.iconst 2, 1) := by decide +kernel
theorem dL_same_550 : decode cL_same 550 = .ok (.iaload, 1) := by decide +kernel
theorem dL_same_551 : decode cL_same 551 = .ok (.ifCond .ge 8, 3) := by decide +kernel
theorem dL_same_554 : decode cL_same 554 = .ok (.bipush (-3), 2) := by decide +kernel
theorem dL_same_556 : decode cL_same 556 = .ok (.goto 18, 3) := by decide +kernel
theorem dL_same_559 : decode cL_same 559 = .ok (.sipush 999, 3) := by decide +kernel
theorem dL_same_562 : decode cL_same 562 = .ok (.iconst 0, 1) := by decide +kernel
theorem dL_same_563 : decode cL_same 563 = .ok (.aload_n 2, 1) := by decide +kernel
theorem dL_same_564 : decode cL_same 564 = .ok (.aload_n 3, 1) := by decide +kernel
theorem dL_same_565 : decode cL_same 565 = .ok (.aload 4, 2) := by decide +kernel
theorem dL_same_567 : decode cL_same 567 = .ok (.aload 5, 2) := by decide +kernel
theorem dL_same_569 : decode cL_same 569 = .ok (.aload 6, 2) := by decide +kernel
theorem dL_same_571 : decode cL_same 571 = .ok (.invokestatic 102, 3) := by decide +kernel
theorem dL_same_574 : decode cL_same 574 = .ok (.if_icmp .ne 51, 3) := by decide +kernel
theorem dL_same_577 : decode cL_same 577 = .ok (.aload_n 0, 1) := by decide +kernel
theorem dL_same_578 : decode cL_same 578 = .ok (.iload 10, 2) := by decide +kernel
theorem dL_same_580 : decode cL_same 580 = .ok (.invokevirtual 106, 3) := by decide +kernel
theorem dL_same_583 : decode cL_same 583 = .ok (.iload 10, 2) := by decide +kernel
theorem dL_same_585 : decode cL_same 585 = .ok (.iconst 1, 1) := by decide +kernel
theorem dL_same_586 : decode cL_same 586 = .ok (.aload_n 2, 1) := by decide +kernel
theorem dL_same_587 : decode cL_same 587 = .ok (.aload_n 3, 1) := by decide +kernel
theorem dL_same_588 : decode cL_same 588 = .ok (.aload 4, 2) := by decide +kernel
theorem dL_same_590 : decode cL_same 590 = .ok (.aload 5, 2) := by decide +kernel
theorem dL_same_592 : decode cL_same 592 = .ok (.aload 6, 2) := by decide +kernel
theorem dL_same_594 : decode cL_same 594 = .ok (.invokestatic 102, 3) := by decide +kernel
theorem dL_same_597 : decode cL_same 597 = .ok (.if_icmp .ne 28, 3) := by decide +kernel
theorem dL_same_600 : decode cL_same 600 = .ok (.aload_n 0, 1) := by decide +kernel
theorem dL_same_601 : decode cL_same 601 = .ok (.iconst 0, 1) := by decide +kernel
theorem dL_same_602 : decode cL_same 602 = .ok (.invokevirtual 106, 3) := by decide +kernel
theorem dL_same_605 : decode cL_same 605 = .ok (.iconst 0, 1) := by decide +kernel
theorem dL_same_606 : decode cL_same 606 = .ok (.iconst 1, 1) := by decide +kernel
theorem dL_same_607 : decode cL_same 607 = .ok (.aload_n 2, 1) := by decide +kernel
theorem dL_same_608 : decode cL_same 608 = .ok (.aload_n 3, 1) := by decide +kernel
theorem dL_same_609 : decode cL_same 609 = .ok (.aload 4, 2) := by decide +kernel
theorem dL_same_611 : decode cL_same 611 = .ok (.aload 5, 2) := by decide +kernel
theorem dL_same_613 : decode cL_same 613 = .ok (.aload 6, 2) := by decide +kernel
theorem dL_same_615 : decode cL_same 615 = .ok (.invokestatic 102, 3) := by decide +kernel
theorem dL_same_618 : decode cL_same 618 = .ok (.if_icmp .ne 7, 3) := by decide +kernel
theorem dL_same_621 : decode cL_same 621 = .ok (.iconst 1, 1) := by decide +kernel
theorem dL_same_622 : decode cL_same 622 = .ok (.goto 4, 3) := by decide +kernel
theorem dL_same_625 : decode cL_same 625 = .ok (.iconst 0, 1) := by decide +kernel
theorem dL_same_626 : decode cL_same 626 = .ok (.ireturn, 1) := by decide +kernel
theorem dL_law_0 : decode cL_law 0 = .ok (.new 57, 3) := by decide +kernel
theorem dL_law_3 : decode cL_law 3 = .ok (.dup, 1) := by decide +kernel
theorem dL_law_4 : decode cL_law 4 = .ok (.invokespecial 109, 3) := by decide +kernel
theorem dL_law_7 : decode cL_law 7 = .ok (.astore_n 1, 1) := by decide +kernel
theorem dL_law_8 : decode cL_law 8 = .ok (.bipush 16, 2) := by decide +kernel
theorem dL_law_10 : decode cL_law 10 = .ok (.newarray .int, 2) := by decide +kernel
theorem dL_law_12 : decode cL_law 12 = .ok (.astore_n 2, 1) := by decide +kernel
theorem dL_law_13 : decode cL_law 13 = .ok (.bipush 20, 2) := by decide +kernel
theorem dL_law_15 : decode cL_law 15 = .ok (.newarray .int, 2) := by decide +kernel
theorem dL_law_17 : decode cL_law 17 = .ok (.astore_n 3, 1) := by decide +kernel
theorem dL_law_18 : decode cL_law 18 = .ok (.bipush 20, 2) := by decide +kernel
theorem dL_law_20 : decode cL_law 20 = .ok (.newarray .int, 2) := by decide +kernel
theorem dL_law_22 : decode cL_law 22 = .ok (.astore 4, 2) := by decide +kernel
theorem dL_law_24 : decode cL_law 24 = .ok (.bipush 20, 2) := by decide +kernel
theorem dL_law_26 : decode cL_law 26 = .ok (.newarray .int, 2) := by decide +kernel
theorem dL_law_28 : decode cL_law 28 = .ok (.astore 5, 2) := by decide +kernel
theorem dL_law_30 : decode cL_law 30 = .ok (.bipush 20, 2) := by decide +kernel
theorem dL_law_32 : decode cL_law 32 = .ok (.newarray .int, 2) := by decide +kernel
theorem dL_law_34 : decode cL_law 34 = .ok (.astore 6, 2) := by decide +kernel
theorem dL_law_36 : decode cL_law 36 = .ok (.aload_n 2, 1) := by decide +kernel
theorem dL_law_37 : decode cL_law 37 = .ok (.iconst 0, 1) := by decide +kernel
theorem dL_law_38 : decode cL_law 38 = .ok (.bipush 16, 2) := by decide +kernel
theorem dL_law_40 : decode cL_law 40 = .ok (.iastore, 1) := by decide +kernel
theorem dL_law_41 : decode cL_law 41 = .ok (.aload_n 2, 1) := by decide +kernel
theorem dL_law_42 : decode cL_law 42 = .ok (.iconst 1, 1) := by decide +kernel
theorem dL_law_43 : decode cL_law 43 = .ok (.iconst 1, 1) := by decide +kernel
theorem dL_law_44 : decode cL_law 44 = .ok (.iastore, 1) := by decide +kernel
theorem dL_law_45 : decode cL_law 45 = .ok (.aload_n 2, 1) := by decide +kernel
theorem dL_law_46 : decode cL_law 46 = .ok (.iconst 2, 1) := by decide +kernel
theorem dL_law_47 : decode cL_law 47 = .ok (.bipush (-6), 2) := by decide +kernel
theorem dL_law_49 : decode cL_law 49 = .ok (.iastore, 1) := by decide +kernel
theorem dL_law_50 : decode cL_law 50 = .ok (.aload_n 2, 1) := by decide +kernel
theorem dL_law_51 : decode cL_law 51 = .ok (.iconst 3, 1) := by decide +kernel
theorem dL_law_52 : decode cL_law 52 = .ok (.bipush (-6), 2) := by decide +kernel
theorem dL_law_54 : decode cL_law 54 = .ok (.iastore, 1) := by decide +kernel
theorem dL_law_55 : decode cL_law 55 = .ok (.aload_n 2, 1) := by decide +kernel
theorem dL_law_56 : decode cL_law 56 = .ok (.iconst 4, 1) := by decide +kernel
theorem dL_law_57 : decode cL_law 57 = .ok (.bipush (-6), 2) := by decide +kernel
theorem dL_law_59 : decode cL_law 59 = .ok (.iastore, 1) := by decide +kernel
theorem dL_law_60 : decode cL_law 60 = .ok (.aload_n 2, 1) := by decide +kernel
theorem dL_law_61 : decode cL_law 61 = .ok (.bipush 7, 2) := by decide +kernel
theorem dL_law_63 : decode cL_law 63 = .ok (.iconst 4, 1) := by decide +kernel
theorem dL_law_64 : decode cL_law 64 = .ok (.iastore, 1) := by decide +kernel
theorem dL_law_65 : decode cL_law 65 = .ok (.aload_n 2, 1) := by decide +kernel
theorem dL_law_66 : decode cL_law 66 = .ok (.bipush 8, 2) := by decide +kernel
theorem dL_law_68 : decode cL_law 68 = .ok (.iconst 1, 1) := by decide +kernel
theorem dL_law_69 : decode cL_law 69 = .ok (.iastore, 1) := by decide +kernel
theorem dL_law_70 : decode cL_law 70 = .ok (.iconst 2, 1) := by decide +kernel
theorem dL_law_71 : decode cL_law 71 = .ok (.istore 7, 2) := by decide +kernel
theorem dL_law_73 : decode cL_law 73 = .ok (.iload 7, 2) := by decide +kernel
theorem dL_law_75 : decode cL_law 75 = .ok (.bipush 6, 2) := by decide +kernel
theorem dL_law_77 : decode cL_law 77 = .ok (.if_icmp .ge 18, 3) := by decide +kernel
theorem dL_law_80 : decode cL_law 80 = .ok (.aload_n 2, 1) := by decide +kernel
theorem dL_law_81 : decode cL_law 81 = .ok (.bipush 10, 2) := by decide +kernel
theorem dL_law_83 : decode cL_law 83 = .ok (.iload 7, 2) := by decide +kernel
theorem dL_law_85 : decode cL_law 85 = .ok (.iadd, 1) := by decide +kernel
theorem dL_law_86 : decode cL_law 86 = .ok (.bipush (-6), 2) := by decide +kernel
theorem dL_law_88 : decode cL_law 88 = .ok (.iastore, 1) := by decide +kernel
theorem dL_law_89 : decode cL_law 89 = .ok (.iinc 7 1, 3) := by decide +kernel
theorem dL_law_92 : decode cL_law 92 = .ok (.goto (-19), 3) := by decide +kernel
theorem dL_law_95 : decode cL_law 95 = .ok (.iconst 0, 1) := by decide +kernel
theorem dL_law_96 : decode cL_law 96 = .ok (.istore 7, 2) := by decide +kernel
theorem dL_law_98 : decode cL_law 98 = .ok (.iload 7, 2) := by decide +kernel
theorem dL_law_100 : decode cL_law 100 = .ok (.bipush 20, 2) := by decide +kernel
theorem dL_law_102 : decode cL_law 102 = .ok (.if_icmp .ge 34, 3) := by decide +kernel
theorem dL_law_105 : decode cL_law 105 = .ok (.aload_n 3, 1) := by decide +kernel
theorem dL_law_106 : decode cL_law 106 = .ok (.iload 7, 2) := by decide +kernel
theorem dL_law_108 : decode cL_law 108 = .ok (.iconst 0, 1) := by decide +kernel
theorem dL_law_109 : decode cL_law 109 = .ok (.iload 7, 2) := by decide +kernel
theorem dL_law_111 : decode cL_law 111 = .ok (.iconst 0, 1) := by decide +kernel
theorem dL_law_112 : decode cL_law 112 = .ok (.invokestatic 26, 3) := by decide +kernel
theorem dL_law_115 : decode cL_law 115 = .ok (.iastore, 1) := by decide +kernel
theorem dL_law_116 : decode cL_law 116 = .ok (.aload 4, 2) := by decide +kernel
theorem dL_law_118 : decode cL_law 118 = .ok (.iload 7, 2) := by decide +kernel
theorem dL_law_120 : decode cL_law 120 = .ok (.bipush (-6), 2) := by decide +kernel
theorem dL_law_122 : decode cL_law 122 = .ok (.iastore, 1) := by decide +kernel
theorem dL_law_123 : decode cL_law 123 = .ok (.aload 6, 2) := by decide +kernel
theorem dL_law_125 : decode cL_law 125 = .ok (.iload 7, 2) := by decide +kernel
theorem dL_law_127 : decode cL_law 127 = .ok (.bipush (-6), 2) := by decide +kernel
theorem dL_law_129 : decode cL_law 129 = .ok (.iastore, 1) := by decide +kernel
theorem dL_law_130 : decode cL_law 130 = .ok (.iinc 7 1, 3) := by decide +kernel
theorem dL_law_133 : decode cL_law 133 = .ok (.goto (-35), 3) := by decide +kernel
theorem dL_law_136 : decode cL_law 136 = .ok (.iconst 0, 1) := by decide +kernel
theorem dL_law_137 : decode cL_law 137 = .ok (.istore 7, 2) := by decide +kernel
theorem dL_law_139 : decode cL_law 139 = .ok (.iload 7, 2) := by decide +kernel
theorem dL_law_141 : decode cL_law 141 = .ok (.bipush 40, 2) := by decide +kernel
theorem dL_law_143 : decode cL_law 143 = .ok (.if_icmp .ge 1271, 3) := by decide +kernel
theorem dL_law_146 : decode cL_law 146 = .ok (.aload_n 0, 1) := by decide +kernel
theorem dL_law_147 : decode cL_law 147 = .ok (.iconst 2, 1) := by decide +kernel
theorem dL_law_148 : decode cL_law 148 = .ok (.iload 7, 2) := by decide +kernel
theorem dL_law_150 : decode cL_law 150 = .ok (.imul, 1) := by decide +kernel
theorem dL_law_151 : decode cL_law 151 = .ok (.invokestatic 110, 3) := by decide +kernel
theorem dL_law_154 : decode cL_law 154 = .ok (.istore 8, 2) := by decide +kernel
theorem dL_law_156 : decode cL_law 156 = .ok (.aload_n 0, 1) := by decide +kernel
theorem dL_law_157 : decode cL_law 157 = .ok (.iconst 2, 1) := by decide +kernel
theorem dL_law_158 : decode cL_law 158 = .ok (.iload 7, 2) := by decide +kernel
theorem dL_law_160 : decode cL_law 160 = .ok (.imul, 1) := by decide +kernel
theorem dL_law_161 : decode cL_law 161 = .ok (.iconst 1, 1) := by decide +kernel
theorem dL_law_162 : decode cL_law 162 = .ok (.iadd, 1) := by decide +kernel
theorem dL_law_163 : decode cL_law 163 = .ok (.invokestatic 110, 3) := by decide +kernel
theorem dL_law_166 : decode cL_law 166 = .ok (.istore 9, 2) := by decide +kernel
theorem dL_law_168 : decode cL_law 168 = .ok (.iload 7, 2) := by decide +kernel
theorem dL_law_170 : decode cL_law 170 = .ok (.ifCond .ne 7, 3) := by decide +kernel
theorem dL_law_173 : decode cL_law 173 = .ok (.iconst 0, 1) := by decide +kernel
theorem dL_law_174 : decode cL_law 174 = .ok (.goto 31, 3) := by decide +kernel
theorem dL_law_177 : decode cL_law 177 = .ok (.iload 7, 2) := by decide +kernel
theorem dL_law_179 : decode cL_law 179 = .ok (.iconst 4, 1) := by decide +kernel
theorem dL_law_180 : decode cL_law 180 = .ok (.if_icmp .ge 7, 3) := by decide +kernel
theorem dL_law_183 : decode cL_law 183 = .ok (.iconst 1, 1) := by decide +kernel
theorem dL_law_184 : decode cL_law 184 = .ok (.goto 21, 3) := by decide +kernel
theorem dL_law_187 : decode cL_law 187 = .ok (.iload 7, 2) := by decide +kernel
theorem dL_law_189 : decode cL_law 189 = .ok (.bipush 7, 2) := by decide +kernel
theorem dL_law_191 : decode cL_law 191 = .ok (.if_icmp .ge 7, 3) := by decide +kernel
theorem dL_law_194 : decode cL_law 194 = .ok (.iconst 3, 1) := by decide +kernel
theorem dL_law_195 : decode cL_law 195 = .ok (.goto 10, 3) := by decide +kernel
theorem dL_law_198 : decode cL_law 198 = .ok (.iload 8, 2) := by decide +kernel
theorem dL_law_200 : decode cL_law 200 = .ok (.bipush 18, 2) := by decide +kernel
theorem dL_law_202 : decode cL_law 202 = .ok (.invokestatic 80, 3) := by decide +kernel
theorem dL_law_205 : decode cL_law 205 = .ok (.istore 10, 2) := by decide +kernel
theorem dL_law_207 : decode cL_law 207 = .ok (.iload 9, 2) := by decide +kernel
theorem dL_law_209 : decode cL_law 209 = .ok (.aload_n 2, 1) := by decide +kernel
theorem dL_law_210 : decode cL_law 210 = .ok (.iconst 0, 1) := by decide +kernel
theorem dL_law_211 : decode cL_law 211 = .ok (.iaload, 1) := by decide +kernel
theorem dL_law_212 : decode cL_law 212 = .ok (.invokestatic 80, 3) := by decide +kernel
theorem dL_law_215 : decode cL_law 215 = .ok (.istore 11, 2) := by decide +kernel
theorem dL_law_217 : decode cL_law 217 = .ok (.aload_n 2, 1) := by decide +kernel
theorem dL_law_218 : decode cL_law 218 = .ok (.iconst 5, 1) := by decide +kernel
theorem dL_law_219 : decode cL_law 219 = .ok (.iaload, 1) := by decide +kernel
theorem dL_law_220 : decode cL_law 220 = .ok (.ifCond .gt 10, 3) := by decide +kernel
theorem dL_law_223 : decode cL_law 223 = .ok (.aload_n 2, 1) := by decide +kernel
theorem dL_law_224 : decode cL_law 224 = .ok (.bipush 6, 2) := by decide +kernel
theorem dL_law_226 : decode cL_law 226 = .ok (.iaload, 1) := by decide +kernel
theorem dL_law_227 : decode cL_law 227 = .ok (.ifCond .le 7, 3) := by decide +kernel
theorem dL_law_230 : decode cL_law 230 = .ok (.iconst 1, 1) := by decide +kernel
theorem dL_law_231 : decode cL_law 231 = .ok (.goto 4, 3) := by decide +kernel
theorem dL_law_234 : decode cL_law 234 = .ok (.iconst 0, 1) := by decide +kernel
theorem dL_law_235 : decode cL_law 235 = .ok (.istore 12, 2) := by decide +kernel
theorem dL_law_237 : decode cL_law 237 = .ok (.iload 10, 2) := by decide +kernel
theorem dL_law_239 : decode cL_law 239 = .ok (.ifCond .ne 123, 3) := by decide +kernel
theorem dL_law_242 : decode cL_law 242 = .ok (.iload 7, 2) := by decide +kernel
theorem dL_law_244 : decode cL_law 244 = .ok (.ifCond .le 15, 3) := by decide +kernel
theorem dL_law_247 : decode cL_law 247 = .ok (.iload 9, 2) := by decide +kernel
theorem dL_law_249 : decode cL_law 249 = .ok (.iconst 4, 1) := by decide +kernel
theorem dL_law_250 : decode cL_law 250 = .ok (.invokestatic 80, 3) := by decide +kernel
theorem dL_law_253 : decode cL_law 253 = .ok (.ifCond .le 6, 3) := by decide +kernel
theorem dL_law_256 : decode cL_law 256 = .ok (.goto 1152, 3) := by decide +kernel
theorem dL_law_259 : decode cL_law 259 = .ok (.iconst 4, 1) := by decide +kernel
theorem dL_law_260 : decode cL_law 260 = .ok (.iload 9, 2) := by decide +kernel
theorem dL_law_262 : decode cL_law 262 = .ok (.iconst 3, 1) := by decide +kernel
theorem dL_law_263 : decode cL_law 263 = .ok (.ishr, 1) := by decide +kernel
theorem dL_law_264 : decode cL_law 264 = .ok (.bipush 17, 2) := by decide +kernel
theorem dL_law_266 : decode cL_law 266 = .ok (.invokestatic 80, 3) := by decide +kernel
theorem dL_law_269 : decode cL_law 269 = .ok (.iadd, 1) := by decide +kernel
theorem dL_law_270 : decode cL_law 270 = .ok (.istore 13, 2) := by decide +kernel
theorem dL_law_272 : decode cL_law 272 = .ok (.aload_n 1, 1) := by decide +kernel
theorem dL_law_273 : decode cL_law 273 = .ok (.iload 13, 2) := by decide +kernel
theorem dL_law_275 : decode cL_law 275 = .ok (.invokevirtual 114, 3) := by decide +kernel
theorem dL_law_278 : decode cL_law 278 = .ok (.aload_n 2, 1) := by decide +kernel
theorem dL_law_279 : decode cL_law 279 = .ok (.iconst 0, 1) := by decide +kernel
theorem dL_law_280 : decode cL_law 280 = .ok (.iaload, 1) := by decide +kernel
theorem dL_law_281 : decode cL_law 281 = .ok (.if_icmp .eq 5, 3) := by decide +kernel
theorem dL_law_284 : decode cL_law 284 = .ok (.iconst 0, 1) := by decide +kernel
theorem dL_law_285 : decode cL_law 285 = .ok (.ireturn, 1) := by decide +kernel
theorem dL_law_286 : decode cL_law 286 = .ok (.aload_n 2, 1) := by decide +kernel
theorem dL_law_287 : decode cL_law 287 = .ok (.iconst 0, 1) := by decide +kernel
theorem dL_law_288 : decode cL_law 288 = .ok (.iload 13, 2) := by decide +kernel
theorem dL_law_290 : decode cL_law 290 = .ok (.iastore, 1) := by decide +kernel
theorem dL_law_291 : decode cL_law 291 = .ok (.aload_n 2, 1) := by decide +kernel
theorem dL_law_292 : decode cL_law 292 = .ok (.iconst 2, 1) := by decide +kernel
theorem dL_law_293 : decode cL_law 293 = .ok (.bipush (-6), 2) := by decide +kernel
theorem dL_law_295 : decode cL_law 295 = .ok (.iastore, 1) := by decide +kernel
theorem dL_law_296 : decode cL_law 296 = .ok (.aload_n 2, 1) := by decide +kernel
theorem dL_law_297 : decode cL_law 297 = .ok (.iconst 3, 1) := by decide +kernel
theorem dL_law_298 : decode cL_law 298 = .ok (.bipush (-6), 2) := by decide +kernel
theorem dL_law_300 : decode cL_law 300 = .ok (.iastore, 1) := by decide +kernel
theorem dL_law_301 : decode cL_law 301 = .ok (.aload_n 2, 1) := by decide +kernel
theorem dL_law_302 : decode cL_law 302 = .ok (.iconst 4, 1) := by decide +kernel
theorem dL_law_303 : decode cL_law 303 = .ok (.bipush (-6), 2) := by decide +kernel
theorem dL_law_305 : decode cL_law 305 = .ok (.iastore, 1) := by decide +kernel
theorem dL_law_306 : decode cL_law 306 = .ok (.aload_n 2, 1) := by decide +kernel
theorem dL_law_307 : decode cL_law 307 = .ok (.aload 6, 2) := by decide +kernel
theorem dL_law_309 : decode cL_law 309 = .ok (.invokestatic 30, 3) := by decide +kernel
theorem dL_law_312 : decode cL_law 312 = .ok (.iconst 0, 1) := by decide +kernel
theorem dL_law_313 : decode cL_law 313 = .ok (.istore 14, 2) := by decide +kernel
theorem dL_law_315 : decode cL_law 315 = .ok (.iload 14, 2) := by decide +kernel
theorem dL_law_317 : decode cL_law 317 = .ok (.bipush 20, 2) := by decide +kernel
theorem dL_law_319 : decode cL_law 319 = .ok (.if_icmp .ge 40, 3) := by decide +kernel
theorem dL_law_322 : decode cL_law 322 = .ok (.aload_n 3, 1) := by decide +kernel
theorem dL_law_323 : decode cL_law 323 = .ok (.iload 14, 2) := by decide +kernel
theorem dL_law_325 : decode cL_law 325 = .ok (.iconst 0, 1) := by decide +kernel
theorem dL_law_326 : decode cL_law 326 = .ok (.iload 14, 2) := by decide +kernel
theorem dL_law_328 : decode cL_law 328 = .ok (.aload_n 2, 1) := by decide +kernel
theorem dL_law_329 : decode cL_law 329 = .ok (.bipush 10, 2) := by decide +kernel
theorem dL_law_331 : decode cL_law 331 = .ok (.aload_n 2, 1) := by decide +kernel
theorem dL_law_332 : decode cL_law 332 = .ok (.iconst 1, 1) := by decide +kernel
theorem dL_law_333 : decode cL_law 333 = .ok (.iaload, 1) := by decide +kernel
theorem dL_law_334 : decode cL_law 334 = .ok (.iadd, 1) := by decide +kernel
theorem dL_law_335 : decode cL_law 335 = .ok (.iaload, 1) := by decide +kernel
theorem dL_law_336 : decode cL_law 336 = .ok (.invokestatic 26, 3) := by decide +kernel
theorem dL_law_339 : decode cL_law 339 = .ok (.iastore, 1) := by decide +kernel
theorem dL_law_340 : decode cL_law 340 = .ok (.aload 4, 2) := by decide +kernel
theorem dL_law_342 : decode cL_law 342 = .ok (.iload 14, 2) := by decide +kernel
theorem dL_law_344 : decode cL_law 344 = .ok (.bipush (-6), 2) := by decide +kernel
theorem dL_law_346 : decode cL_law 346 = .ok (.iastore, 1) := by decide +kernel
theorem dL_law_347 : decode cL_law 347 = .ok (.aload 5, 2) := by decide +kernel
theorem dL_law_349 : decode cL_law 349 = .ok (.iload 14, 2) := by decide +kernel
theorem dL_law_351 : decode cL_law 351 = .ok (.iconst 0, 1) := by decide +kernel
theorem dL_law_352 : decode cL_law 352 = .ok (.iastore, 1) := by decide +kernel
theorem dL_law_353 : decode cL_law 353 = .ok (.iinc 14 1, 3) := by decide +kernel
theorem dL_law_356 : decode cL_law 356 = .ok (.goto (-41), 3) := by decide +kernel
theorem dL_law_359 : decode cL_law 359 = .ok (.goto 1028, 3) := by decide +kernel
theorem dL_law_362 : decode cL_law 362 = .ok (.iload 10, 2) := by decide +kernel
theorem dL_law_364 : decode cL_law 364 = .ok (.iconst 1, 1) := by decide +kernel
theorem dL_law_365 : decode cL_law 365 = .ok (.if_icmp .ne 134, 3) := by decide +kernel
theorem dL_law_368 : decode cL_law 368 = .ok (.iconst 1, 1) := by decide +kernel
theorem dL_law_369 : decode cL_law 369 = .ok (.iload 9, 2) := by decide +kernel
theorem dL_law_371 : decode cL_law 371 = .ok (.iconst 4, 1) := by decide +kernel
theorem dL_law_372 : decode cL_law 372 = .ok (.ishr, 1) := by decide +kernel
theorem dL_law_373 : decode cL_law 373 = .ok (.iconst 5, 1) := by decide +kernel
theorem dL_law_374 : decode cL_law 374 = .ok (.invokestatic 80, 3) := by decide +kernel
