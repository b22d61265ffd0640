theorem dL_law_0 : decode cL_law 0 = .ok (.new 29, 3) := by decide +kernel
theorem dL_law_3 : decode cL_law 3 = .ok (.dup, 1) := by decide +kernel
theorem dL_law_4 : decode cL_law 4 = .ok (.invokespecial 72, 3) := by decide +kernel
theorem dL_law_7 : decode cL_law 7 = .ok (.astore_n 1, 1) := by decide +kernel
theorem dL_law_8 : decode cL_law 8 = .ok (.aload_n 1, 1) := by decide +kernel
theorem dL_law_9 : decode cL_law 9 = .ok (.aload_n 0, 1) := by decide +kernel
theorem dL_law_10 : decode cL_law 10 = .ok (.invokestatic 73, 3) := by decide +kernel
theorem dL_law_13 : decode cL_law 13 = .ok (.astore_n 2, 1) := by decide +kernel
theorem dL_law_14 : decode cL_law 14 = .ok (.aload_n 2, 1) := by decide +kernel
theorem dL_law_15 : decode cL_law 15 = .ok (.ifnonnull 5, 3) := by decide +kernel
theorem dL_law_18 : decode cL_law 18 = .ok (.iconst 0, 1) := by decide +kernel
theorem dL_law_19 : decode cL_law 19 = .ok (.ireturn, 1) := by decide +kernel
theorem dL_law_20 : decode cL_law 20 = .ok (.iconst 0, 1) := by decide +kernel
theorem dL_law_21 : decode cL_law 21 = .ok (.istore_n 3, 1) := by decide +kernel
theorem dL_law_22 : decode cL_law 22 = .ok (.iload_n 3, 1) := by decide +kernel
theorem dL_law_23 : decode cL_law 23 = .ok (.bipush 30, 2) := by decide +kernel
theorem dL_law_25 : decode cL_law 25 = .ok (.if_icmp .ge 907, 3) := by decide +kernel
theorem dL_law_28 : decode cL_law 28 = .ok (.aload_n 0, 1) := by decide +kernel
theorem dL_law_29 : decode cL_law 29 = .ok (.iload_n 3, 1) := by decide +kernel
theorem dL_law_30 : decode cL_law 30 = .ok (.bipush 16, 2) := by decide +kernel
theorem dL_law_32 : decode cL_law 32 = .ok (.irem, 1) := by decide +kernel
theorem dL_law_33 : decode cL_law 33 = .ok (.invokestatic 64, 3) := by decide +kernel
theorem dL_law_36 : decode cL_law 36 = .ok (.iload_n 3, 1) := by decide +kernel
theorem dL_law_37 : decode cL_law 37 = .ok (.bipush 16, 2) := by decide +kernel
theorem dL_law_39 : decode cL_law 39 = .ok (.idiv, 1) := by decide +kernel
theorem dL_law_40 : decode cL_law 40 = .ok (.iconst 3, 1) := by decide +kernel
theorem dL_law_41 : decode cL_law 41 = .ok (.imul, 1) := by decide +kernel
theorem dL_law_42 : decode cL_law 42 = .ok (.ishr, 1) := by decide +kernel
theorem dL_law_43 : decode cL_law 43 = .ok (.sipush 683, 3) := by decide +kernel
theorem dL_law_46 : decode cL_law 46 = .ok (.iload_n 3, 1) := by decide +kernel
theorem dL_law_47 : decode cL_law 47 = .ok (.imul, 1) := by decide +kernel
theorem dL_law_48 : decode cL_law 48 = .ok (.iadd, 1) := by decide +kernel
theorem dL_law_49 : decode cL_law 49 = .ok (.istore 4, 2) := by decide +kernel
theorem dL_law_51 : decode cL_law 51 = .ok (.aload_n 1, 1) := by decide +kernel
theorem dL_law_52 : decode cL_law 52 = .ok (.aload_n 2, 1) := by decide +kernel
theorem dL_law_53 : decode cL_law 53 = .ok (.iload 4, 2) := by decide +kernel
theorem dL_law_55 : decode cL_law 55 = .ok (.invokestatic 68, 3) := by decide +kernel
theorem dL_law_58 : decode cL_law 58 = .ok (.ifCond .ne 5, 3) := by decide +kernel
theorem dL_law_61 : decode cL_law 61 = .ok (.iconst 0, 1) := by decide +kernel
theorem dL_law_62 : decode cL_law 62 = .ok (.ireturn, 1) := by decide +kernel
theorem dL_law_63 : decode cL_law 63 = .ok (.aload_n 1, 1) := by decide +kernel
theorem dL_law_64 : decode cL_law 64 = .ok (.invokevirtual 77, 3) := by decide +kernel
theorem dL_law_67 : decode cL_law 67 = .ok (.istore 5, 2) := by decide +kernel
theorem dL_law_69 : decode cL_law 69 = .ok (.aload_n 1, 1) := by decide +kernel
theorem dL_law_70 : decode cL_law 70 = .ok (.invokevirtual 80, 3) := by decide +kernel
theorem dL_law_73 : decode cL_law 73 = .ok (.istore 6, 2) := by decide +kernel
theorem dL_law_75 : decode cL_law 75 = .ok (.iconst 1, 1) := by decide +kernel
theorem dL_law_76 : decode cL_law 76 = .ok (.iload 4, 2) := by decide +kernel
theorem dL_law_78 : decode cL_law 78 = .ok (.iconst 2, 1) := by decide +kernel
theorem dL_law_79 : decode cL_law 79 = .ok (.ishr, 1) := by decide +kernel
theorem dL_law_80 : decode cL_law 80 = .ok (.sipush 200, 3) := by decide +kernel
theorem dL_law_83 : decode cL_law 83 = .ok (.invokestatic 18, 3) := by decide +kernel
theorem dL_law_86 : decode cL_law 86 = .ok (.iadd, 1) := by decide +kernel
theorem dL_law_87 : decode cL_law 87 = .ok (.istore 7, 2) := by decide +kernel
theorem dL_law_89 : decode cL_law 89 = .ok (.aload_n 1, 1) := by decide +kernel
theorem dL_law_90 : decode cL_law 90 = .ok (.aload_n 1, 1) := by decide +kernel
theorem dL_law_91 : decode cL_law 91 = .ok (.invokevirtual 82, 3) := by decide +kernel
theorem dL_law_94 : decode cL_law 94 = .ok (.invokevirtual 84, 3) := by decide +kernel
theorem dL_law_97 : decode cL_law 97 = .ok (.lconst 1, 1) := by decide +kernel
theorem dL_law_98 : decode cL_law 98 = .ok (.lcmp, 1) := by decide +kernel
theorem dL_law_99 : decode cL_law 99 = .ok (.ifCond .ne 16, 3) := by decide +kernel
theorem dL_law_102 : decode cL_law 102 = .ok (.aload_n 1, 1) := by decide +kernel
theorem dL_law_103 : decode cL_law 103 = .ok (.aload_n 1, 1) := by decide +kernel
theorem dL_law_104 : decode cL_law 104 = .ok (.invokevirtual 82, 3) := by decide +kernel
theorem dL_law_107 : decode cL_law 107 = .ok (.invokevirtual 88, 3) := by decide +kernel
theorem dL_law_110 : decode cL_law 110 = .ok (.lconst 1, 1) := by decide +kernel
theorem dL_law_111 : decode cL_law 111 = .ok (.lcmp, 1) := by decide +kernel
theorem dL_law_112 : decode cL_law 112 = .ok (.ifCond .eq 5, 3) := by decide +kernel
theorem dL_law_115 : decode cL_law 115 = .ok (.iconst 0, 1) := by decide +kernel
theorem dL_law_116 : decode cL_law 116 = .ok (.ireturn, 1) := by decide +kernel
theorem dL_law_117 : decode cL_law 117 = .ok (.iload 4, 2) := by decide +kernel
theorem dL_law_119 : decode cL_law 119 = .ok (.iload 5, 2) := by decide +kernel
theorem dL_law_121 : decode cL_law 121 = .ok (.invokestatic 18, 3) := by decide +kernel
theorem dL_law_124 : decode cL_law 124 = .ok (.istore 8, 2) := by decide +kernel
theorem dL_law_126 : decode cL_law 126 = .ok (.iconst 0, 1) := by decide +kernel
theorem dL_law_127 : decode cL_law 127 = .ok (.istore 9, 2) := by decide +kernel
theorem dL_law_129 : decode cL_law 129 = .ok (.iload 9, 2) := by decide +kernel
theorem dL_law_131 : decode cL_law 131 = .ok (.iload 5, 2) := by decide +kernel
theorem dL_law_133 : decode cL_law 133 = .ok (.if_icmp .ge 316, 3) := by decide +kernel
theorem dL_law_136 : decode cL_law 136 = .ok (.aload_n 1, 1) := by decide +kernel
theorem dL_law_137 : decode cL_law 137 = .ok (.iload 9, 2) := by decide +kernel
theorem dL_law_139 : decode cL_law 139 = .ok (.invokevirtual 84, 3) := by decide +kernel
theorem dL_law_142 : decode cL_law 142 = .ok (.lstore 10, 2) := by decide +kernel
theorem dL_law_144 : decode cL_law 144 = .ok (.aload_n 1, 1) := by decide +kernel
theorem dL_law_145 : decode cL_law 145 = .ok (.iload 9, 2) := by decide +kernel
theorem dL_law_147 : decode cL_law 147 = .ok (.invokevirtual 88, 3) := by decide +kernel
theorem dL_law_150 : decode cL_law 150 = .ok (.lstore 12, 2) := by decide +kernel
theorem dL_law_152 : decode cL_law 152 = .ok (.aload_n 1, 1) := by decide +kernel
theorem dL_law_153 : decode cL_law 153 = .ok (.iload 8, 2) := by decide +kernel
theorem dL_law_155 : decode cL_law 155 = .ok (.iload 9, 2) := by decide +kernel
theorem dL_law_157 : decode cL_law 157 = .ok (.invokevirtual 91, 3) := by decide +kernel
theorem dL_law_160 : decode cL_law 160 = .ok (.istore 14, 2) := by decide +kernel
theorem dL_law_162 : decode cL_law 162 = .ok (.aload_n 1, 1) := by decide +kernel
theorem dL_law_163 : decode cL_law 163 = .ok (.iload 9, 2) := by decide +kernel
theorem dL_law_165 : decode cL_law 165 = .ok (.iload 8, 2) := by decide +kernel
theorem dL_law_167 : decode cL_law 167 = .ok (.invokevirtual 91, 3) := by decide +kernel
theorem dL_law_170 : decode cL_law 170 = .ok (.istore 15, 2) := by decide +kernel
theorem dL_law_172 : decode cL_law 172 = .ok (.lload 10, 2) := by decide +kernel
theorem dL_law_174 : decode cL_law 174 = .ok (.lconst 1, 1) := by decide +kernel
theorem dL_law_175 : decode cL_law 175 = .ok (.lcmp, 1) := by decide +kernel
theorem dL_law_176 : decode cL_law 176 = .ok (.ifCond .lt 126, 3) := by decide +kernel
theorem dL_law_179 : decode cL_law 179 = .ok (.lload 12, 2) := by decide +kernel
theorem dL_law_181 : decode cL_law 181 = .ok (.lconst 1, 1) := by decide +kernel
theorem dL_law_182 : decode cL_law 182 = .ok (.lcmp, 1) := by decide +kernel
theorem dL_law_183 : decode cL_law 183 = .ok (.ifCond .lt 119, 3) := by decide +kernel
theorem dL_law_186 : decode cL_law 186 = .ok (.lload 10, 2) := by decide +kernel
theorem dL_law_188 : decode cL_law 188 = .ok (.lload 12, 2) := by decide +kernel
theorem dL_law_190 : decode cL_law 190 = .ok (.invokestatic 95, 3) := by decide +kernel
theorem dL_law_193 : decode cL_law 193 = .ok (.lconst 1, 1) := by decide +kernel
theorem dL_law_194 : decode cL_law 194 = .ok (.lcmp, 1) := by decide +kernel
theorem dL_law_195 : decode cL_law 195 = .ok (.ifCond .ne 107, 3) := by decide +kernel
theorem dL_law_198 : decode cL_law 198 = .ok (.iload 14, 2) := by decide +kernel
theorem dL_law_200 : decode cL_law 200 = .ok (.ifCond .eq 8, 3) := by decide +kernel
theorem dL_law_203 : decode cL_law 203 = .ok (.iload 15, 2) := by decide +kernel
theorem dL_law_205 : decode cL_law 205 = .ok (.ifCond .ne 97, 3) := by decide +kernel
theorem dL_law_208 : decode cL_law 208 = .ok (.aload_n 1, 1) := by decide +kernel
theorem dL_law_209 : decode cL_law 209 = .ok (.iload 9, 2) := by decide +kernel
theorem dL_law_211 : decode cL_law 211 = .ok (.aload_n 1, 1) := by decide +kernel
theorem dL_law_212 : decode cL_law 212 = .ok (.invokevirtual 99, 3) := by decide +kernel
theorem dL_law_215 : decode cL_law 215 = .ok (.invokevirtual 91, 3) := by decide +kernel
theorem dL_law_218 : decode cL_law 218 = .ok (.ifCond .ne 84, 3) := by decide +kernel
theorem dL_law_221 : decode cL_law 221 = .ok (.aload_n 1, 1) := by decide +kernel
theorem dL_law_222 : decode cL_law 222 = .ok (.aload_n 1, 1) := by decide +kernel
theorem dL_law_223 : decode cL_law 223 = .ok (.invokevirtual 102, 3) := by decide +kernel
theorem dL_law_226 : decode cL_law 226 = .ok (.iload 9, 2) := by decide +kernel
theorem dL_law_228 : decode cL_law 228 = .ok (.invokevirtual 91, 3) := by decide +kernel
theorem dL_law_231 : decode cL_law 231 = .ok (.ifCond .ne 71, 3) := by decide +kernel
theorem dL_law_234 : decode cL_law 234 = .ok (.iload 9, 2) := by decide +kernel
theorem dL_law_236 : decode cL_law 236 = .ok (.ifCond .le 7, 3) := by decide +kernel
theorem dL_law_239 : decode cL_law 239 = .ok (.iconst 1, 1) := by decide +kernel
theorem dL_law_240 : decode cL_law 240 = .ok (.goto 4, 3) := by decide +kernel
theorem dL_law_243 : decode cL_law 243 = .ok (.iconst 0, 1) := by decide +kernel
theorem dL_law_244 : decode cL_law 244 = .ok (.aload_n 1, 1) := by decide +kernel
theorem dL_law_245 : decode cL_law 245 = .ok (.iload 9, 2) := by decide +kernel
theorem dL_law_247 : decode cL_law 247 = .ok (.invokevirtual 105, 3) := by decide +kernel
theorem dL_law_250 : decode cL_law 250 = .ok (.ifCond .lt 7, 3) := by decide +kernel
theorem dL_law_253 : decode cL_law 253 = .ok (.iconst 1, 1) := by decide +kernel
theorem dL_law_254 : decode cL_law 254 = .ok (.goto 4, 3) := by decide +kernel
theorem dL_law_257 : decode cL_law 257 = .ok (.iconst 0, 1) := by decide +kernel
theorem dL_law_258 : decode cL_law 258 = .ok (.if_icmp .ne 44, 3) := by decide +kernel
theorem dL_law_261 : decode cL_law 261 = .ok (.aload_n 1, 1) := by decide +kernel
theorem dL_law_262 : decode cL_law 262 = .ok (.iload 9, 2) := by decide +kernel
theorem dL_law_264 : decode cL_law 264 = .ok (.invokevirtual 105, 3) := by decide +kernel
theorem dL_law_267 : decode cL_law 267 = .ok (.iload 9, 2) := by decide +kernel
theorem dL_law_269 : decode cL_law 269 = .ok (.if_icmp .ge 33, 3) := by decide +kernel
theorem dL_law_272 : decode cL_law 272 = .ok (.aload_n 1, 1) := by decide +kernel
theorem dL_law_273 : decode cL_law 273 = .ok (.iload 9, 2) := by decide +kernel
theorem dL_law_275 : decode cL_law 275 = .ok (.invokevirtual 108, 3) := by decide +kernel
theorem dL_law_278 : decode cL_law 278 = .ok (.iload 9, 2) := by decide +kernel
theorem dL_law_280 : decode cL_law 280 = .ok (.ifCond .ne 7, 3) := by decide +kernel
theorem dL_law_283 : decode cL_law 283 = .ok (.iconst 0, 1) := by decide +kernel
theorem dL_law_284 : decode cL_law 284 = .ok (.goto 15, 3) := by decide +kernel
theorem dL_law_287 : decode cL_law 287 = .ok (.iconst 1, 1) := by decide +kernel
theorem dL_law_288 : decode cL_law 288 = .ok (.aload_n 1, 1) := by decide +kernel
theorem dL_law_289 : decode cL_law 289 = .ok (.aload_n 1, 1) := by decide +kernel
theorem dL_law_290 : decode cL_law 290 = .ok (.iload 9, 2) := by decide +kernel
theorem dL_law_292 : decode cL_law 292 = .ok (.invokevirtual 105, 3) := by decide +kernel
theorem dL_law_295 : decode cL_law 295 = .ok (.invokevirtual 108, 3) := by decide +kernel
theorem dL_law_298 : decode cL_law 298 = .ok (.iadd, 1) := by decide +kernel
theorem dL_law_299 : decode cL_law 299 = .ok (.if_icmp .eq 5, 3) := by decide +kernel
theorem dL_law_302 : decode cL_law 302 = .ok (.iconst 0, 1) := by decide +kernel
theorem dL_law_303 : decode cL_law 303 = .ok (.ireturn, 1) := by decide +kernel
theorem dL_law_304 : decode cL_law 304 = .ok (.aload_n 1, 1) := by decide +kernel
theorem dL_law_305 : decode cL_law 305 = .ok (.iload 7, 2) := by decide +kernel
theorem dL_law_307 : decode cL_law 307 = .ok (.iload 8, 2) := by decide +kernel
theorem dL_law_309 : decode cL_law 309 = .ok (.iload 9, 2) := by decide +kernel
theorem dL_law_311 : decode cL_law 311 = .ok (.invokevirtual 111, 3) := by decide +kernel
theorem dL_law_314 : decode cL_law 314 = .ok (.lstore 16, 2) := by decide +kernel
theorem dL_law_316 : decode cL_law 316 = .ok (.lload 16, 2) := by decide +kernel
theorem dL_law_318 : decode cL_law 318 = .ok (.lconst 0, 1) := by decide +kernel
theorem dL_law_319 : decode cL_law 319 = .ok (.lcmp, 1) := by decide +kernel
theorem dL_law_320 : decode cL_law 320 = .ok (.ifCond .lt 85, 3) := by decide +kernel
theorem dL_law_323 : decode cL_law 323 = .ok (.iload 14, 2) := by decide +kernel
theorem dL_law_325 : decode cL_law 325 = .ok (.ifCond .eq 12, 3) := by decide +kernel
theorem dL_law_328 : decode cL_law 328 = .ok (.lload 16, 2) := by decide +kernel
theorem dL_law_330 : decode cL_law 330 = .ok (.iload 7, 2) := by decide +kernel
theorem dL_law_332 : decode cL_law 332 = .ok (.i2l, 1) := by decide +kernel
theorem dL_law_333 : decode cL_law 333 = .ok (.lcmp, 1) := by decide +kernel
theorem dL_law_334 : decode cL_law 334 = .ok (.ifCond .lt 71, 3) := by decide +kernel
theorem dL_law_337 : decode cL_law 337 = .ok (.iload 15, 2) := by decide +kernel
theorem dL_law_339 : decode cL_law 339 = .ok (.ifCond .eq 12, 3) := by decide +kernel
theorem dL_law_342 : decode cL_law 342 = .ok (.lload 16, 2) := by decide +kernel
theorem dL_law_344 : decode cL_law 344 = .ok (.iload 7, 2) := by decide +kernel
theorem dL_law_346 : decode cL_law 346 = .ok (.i2l, 1) := by decide +kernel
theorem dL_law_347 : decode cL_law 347 = .ok (.lcmp, 1) := by decide +kernel
theorem dL_law_348 : decode cL_law 348 = .ok (.ifCond .gt 57, 3) := by decide +kernel
theorem dL_law_351 : decode cL_law 351 = .ok (.iload 14, 2) := by decide +kernel
theorem dL_law_353 : decode cL_law 353 = .ok (.ifCond .ne 17, 3) := by decide +kernel
theorem dL_law_356 : decode cL_law 356 = .ok (.iload 15, 2) := by decide +kernel
theorem dL_law_358 : decode cL_law 358 = .ok (.ifCond .ne 12, 3) := by decide +kernel
theorem dL_law_361 : decode cL_law 361 = .ok (.lload 16, 2) := by decide +kernel
theorem dL_law_363 : decode cL_law 363 = .ok (.iload 7, 2) := by decide +kernel
theorem dL_law_365 : decode cL_law 365 = .ok (.i2l, 1) := by decide +kernel
theorem dL_law_366 : decode cL_law 366 = .ok (.lcmp, 1) := by decide +kernel
theorem dL_law_367 : decode cL_law 367 = .ok (.ifCond .ne 38, 3) := by decide +kernel
theorem dL_law_370 : decode cL_law 370 = .ok (.aload_n 1, 1) := by decide +kernel
theorem dL_law_371 : decode cL_law 371 = .ok (.iload 7, 2) := by decide +kernel
theorem dL_law_373 : decode cL_law 373 = .ok (.iload 8, 2) := by decide +kernel
theorem dL_law_375 : decode cL_law 375 = .ok (.iload 9, 2) := by decide +kernel
theorem dL_law_377 : decode cL_law 377 = .ok (.invokevirtual 115, 3) := by decide +kernel
theorem dL_law_380 : decode cL_law 380 = .ok (.iload 7, 2) := by decide +kernel
theorem dL_law_382 : decode cL_law 382 = .ok (.i2l, 1) := by decide +kernel
theorem dL_law_383 : decode cL_law 383 = .ok (.aload_n 1, 1) := by decide +kernel
theorem dL_law_384 : decode cL_law 384 = .ok (.iload 8, 2) := by decide +kernel
theorem dL_law_386 : decode cL_law 386 = .ok (.iload 9, 2) := by decide +kernel
theorem dL_law_388 : decode cL_law 388 = .ok (.invokevirtual 119, 3) := by decide +kernel
theorem dL_law_391 : decode cL_law 391 = .ok (.lrem, 1) := by decide +kernel
theorem dL_law_392 : decode cL_law 392 = .ok (.lconst 0, 1) := by decide +kernel
theorem dL_law_393 : decode cL_law 393 = .ok (.lcmp, 1) := by decide +kernel
theorem dL_law_394 : decode cL_law 394 = .ok (.ifCond .ne 7, 3) := by decide +kernel
theorem dL_law_397 : decode cL_law 397 = .ok (.iconst 1, 1) := by decide +kernel
theorem dL_law_398 : decode cL_law 398 = .ok (.goto 4, 3) := by decide +kernel
theorem dL_law_401 : decode cL_law 401 = .ok (.iconst 0, 1) := by decide +kernel
theorem dL_law_402 : decode cL_law 402 = .ok (.if_icmp .eq 5, 3) := by decide +kernel
theorem dL_law_405 : decode cL_law 405 = .ok (.iconst 0, 1) := by decide +kernel
theorem dL_law_406 : decode cL_law 406 = .ok (.ireturn, 1) := by decide +kernel
theorem dL_law_407 : decode cL_law 407 = .ok (.lload 16, 2) := by decide +kernel
theorem dL_law_409 : decode cL_law 409 = .ok (.lconst 1, 1) := by decide +kernel
theorem dL_law_410 : decode cL_law 410 = .ok (.lcmp, 1) := by decide +kernel
theorem dL_law_411 : decode cL_law 411 = .ok (.ifCond .lt 32, 3) := by decide +kernel
theorem dL_law_414 : decode cL_law 414 = .ok (.lload 16, 2) := by decide +kernel
theorem dL_law_416 : decode cL_law 416 = .ok (.ldc2_w 123, 3) := by decide +kernel
theorem dL_law_419 : decode cL_law 419 = .ok (.lcmp, 1) := by decide +kernel
theorem dL_law_420 : decode cL_law 420 = .ok (.ifCond .gt 23, 3) := by decide +kernel
theorem dL_law_423 : decode cL_law 423 = .ok (.aload_n 1, 1) := by decide +kernel
theorem dL_law_424 : decode cL_law 424 = .ok (.lload 16, 2) := by decide +kernel
theorem dL_law_426 : decode cL_law 426 = .ok (.l2i, 1) := by decide +kernel
theorem dL_law_427 : decode cL_law 427 = .ok (.iload 9, 2) := by decide +kernel
theorem dL_law_429 : decode cL_law 429 = .ok (.iload 8, 2) := by decide +kernel
theorem dL_law_431 : decode cL_law 431 = .ok (.invokevirtual 111, 3) := by decide +kernel
theorem dL_law_434 : decode cL_law 434 = .ok (.iload 7, 2) := by decide +kernel
theorem dL_law_436 : decode cL_law 436 = .ok (.i2l, 1) := by decide +kernel
theorem dL_law_437 : decode cL_law 437 = .ok (.lcmp, 1) := by decide +kernel
theorem dL_law_438 : decode cL_law 438 = .ok (.ifCond .le 5, 3) := by decide +kernel
theorem dL_law_441 : decode cL_law 441 = .ok (.iconst 0, 1) := by decide +kernel
theorem dL_law_442 : decode cL_law 442 = .ok (.ireturn, 1) := by decide +kernel
theorem dL_law_443 : decode cL_law 443 = .ok (.iinc 9 1, 3) := by decide +kernel
theorem dL_law_446 : decode cL_law 446 = .ok (.goto (-317), 3) := by decide +kernel
theorem dL_law_449 : decode cL_law 449 = .ok (.sipush 999, 3) := by decide +kernel
theorem dL_law_452 : decode cL_law 452 = .ok (.istore 9, 2) := by decide +kernel
theorem dL_law_454 : decode cL_law 454 = .ok (.sipush (-999), 3) := by decide +kernel
theorem dL_law_457 : decode cL_law 457 = .ok (.istore 10, 2) := by decide +kernel
theorem dL_law_459 : decode cL_law 459 = .ok (.iload 6, 2) := by decide +kernel
theorem dL_law_461 : decode cL_law 461 = .ok (.newarray .int, 2) := by decide +kernel
theorem dL_law_463 : decode cL_law 463 = .ok (.astore 11, 2) := by decide +kernel
theorem dL_law_465 : decode cL_law 465 = .ok (.iconst 0, 1) := by decide +kernel
theorem dL_law_466 : decode cL_law 466 = .ok (.istore 12, 2) := by decide +kernel
theorem dL_law_468 : decode cL_law 468 = .ok (.iload 12, 2) := by decide +kernel
theorem dL_law_470 : decode cL_law 470 = .ok (.iload 6, 2) := by decide +kernel
theorem dL_law_472 : decode cL_law 472 = .ok (.if_icmp .ge 206, 3) := by decide +kernel
theorem dL_law_475 : decode cL_law 475 = .ok (.aload 11, 2) := by decide +kernel
theorem dL_law_477 : decode cL_law 477 = .ok (.iload 12, 2) := by decide +kernel
theorem dL_law_479 : decode cL_law 479 = .ok (.aload_n 1, 1) := by decide +kernel
theorem dL_law_480 : decode cL_law 480 = .ok (.iload 12, 2) := by decide +kernel
theorem dL_law_482 : decode cL_law 482 = .ok (.invokevirtual 125, 3) := by decide +kernel
theorem dL_law_485 : decode cL_law 485 = .ok (.iastore, 1) := by decide +kernel
theorem dL_law_486 : decode cL_law 486 = .ok (.iload 9, 2) := by decide +kernel
theorem dL_law_488 : decode cL_law 488 = .ok (.aload 11, 2) := by decide +kernel
theorem dL_law_490 : decode cL_law 490 = .ok (.iload 12, 2) := by decide +kernel
theorem dL_law_492 : decode cL_law 492 = .ok (.iaload, 1) := by decide +kernel
theorem dL_law_493 : decode cL_law 493 = .ok (.invokestatic 128, 3) := by decide +kernel
theorem dL_law_496 : decode cL_law 496 = .ok (.invokestatic 133, 3) := by decide +kernel
theorem dL_law_499 : decode cL_law 499 = .ok (.istore 9, 2) := by decide +kernel
theorem dL_law_501 : decode cL_law 501 = .ok (.iload 10, 2) := by decide +kernel
theorem dL_law_503 : decode cL_law 503 = .ok (.aload 11, 2) := by decide +kernel
theorem dL_law_505 : decode cL_law 505 = .ok (.iload 12, 2) := by decide +kernel
theorem dL_law_507 : decode cL_law 507 = .ok (.iaload, 1) := by decide +kernel
theorem dL_law_508 : decode cL_law 508 = .ok (.invokestatic 136, 3) := by decide +kernel
theorem dL_law_511 : decode cL_law 511 = .ok (.istore 10, 2) := by decide +kernel
theorem dL_law_513 : decode cL_law 513 = .ok (.aload_n 1, 1) := by decide +kernel
theorem dL_law_514 : decode cL_law 514 = .ok (.iload 12, 2) := by decide +kernel
theorem dL_law_516 : decode cL_law 516 = .ok (.iload 7, 2) := by decide +kernel
theorem dL_law_518 : decode cL_law 518 = .ok (.iload 8, 2) := by decide +kernel
theorem dL_law_520 : decode cL_law 520 = .ok (.invokevirtual 139, 3) := by decide +kernel
theorem dL_law_523 : decode cL_law 523 = .ok (.lstore 13, 2) := by decide +kernel
theorem dL_law_525 : decode cL_law 525 = .ok (.aload_n 1, 1) := by decide +kernel
theorem dL_law_526 : decode cL_law 526 = .ok (.iload 12, 2) := by decide +kernel
theorem dL_law_528 : decode cL_law 528 = .ok (.iload 7, 2) := by decide +kernel
theorem dL_law_530 : decode cL_law 530 = .ok (.iload 8, 2) := by decide +kernel
theorem dL_law_532 : decode cL_law 532 = .ok (.invokevirtual 142, 3) := by decide +kernel
theorem dL_law_535 : decode cL_law 535 = .ok (.lstore 15, 2) := by decide +kernel
theorem dL_law_537 : decode cL_law 537 = .ok (.aload 11, 2) := by decide +kernel
theorem dL_law_539 : decode cL_law 539 = .ok (.iload 12, 2) := by decide +kernel
theorem dL_law_541 : decode cL_law 541 = .ok (.iaload, 1) := by decide +kernel
theorem dL_law_542 : decode cL_law 542 = .ok (.sipush (-300), 3) := by decide +kernel
theorem dL_law_545 : decode cL_law 545 = .ok (.if_icmp .lt 125, 3) := by decide +kernel
theorem dL_law_548 : decode cL_law 548 = .ok (.aload 11, 2) := by decide +kernel
theorem dL_law_550 : decode cL_law 550 = .ok (.iload 12, 2) := by decide +kernel
theorem dL_law_552 : decode cL_law 552 = .ok (.iaload, 1) := by decide +kernel
theorem dL_law_553 : decode cL_law 553 = .ok (.sipush 300, 3) := by decide +kernel
theorem dL_law_556 : decode cL_law 556 = .ok (.if_icmp .gt 114, 3) := by decide +kernel
theorem dL_law_559 : decode cL_law 559 = .ok (.aload_n 1, 1) := by decide +kernel
theorem dL_law_560 : decode cL_law 560 = .ok (.iload 12, 2) := by decide +kernel
theorem dL_law_562 : decode cL_law 562 = .ok (.invokevirtual 145, 3) := by decide +kernel
theorem dL_law_565 : decode cL_law 565 = .ok (.aload 11, 2) := by decide +kernel
theorem dL_law_567 : decode cL_law 567 = .ok (.iload 12, 2) := by decide +kernel
theorem dL_law_569 : decode cL_law 569 = .ok (.iaload, 1) := by decide +kernel
theorem dL_law_570 : decode cL_law 570 = .ok (.invokestatic 128, 3) := by decide +kernel
theorem dL_law_573 : decode cL_law 573 = .ok (.aload_n 1, 1) := by decide +kernel
theorem dL_law_574 : decode cL_law 574 = .ok (.invokevirtual 149, 3) := by decide +kernel
theorem dL_law_577 : decode cL_law 577 = .ok (.if_icmp .gt 7, 3) := by decide +kernel
theorem dL_law_580 : decode cL_law 580 = .ok (.iconst 1, 1) := by decide +kernel
theorem dL_law_581 : decode cL_law 581 = .ok (.goto 4, 3) := by decide +kernel
theorem dL_law_584 : decode cL_law 584 = .ok (.iconst 0, 1) := by decide +kernel
theorem dL_law_585 : decode cL_law 585 = .ok (.if_icmp .ne 85, 3) := by decide +kernel
theorem dL_law_588 : decode cL_law 588 = .ok (.aload_n 1, 1) := by decide +kernel
theorem dL_law_589 : decode cL_law 589 = .ok (.iload 12, 2) := by decide +kernel
theorem dL_law_591 : decode cL_law 591 = .ok (.invokevirtual 151, 3) := by decide +kernel
theorem dL_law_594 : decode cL_law 594 = .ok (.bipush (-9), 2) := by decide +kernel
theorem dL_law_596 : decode cL_law 596 = .ok (.if_icmp .lt 74, 3) := by decide +kernel
theorem dL_law_599 : decode cL_law 599 = .ok (.aload_n 1, 1) := by decide +kernel
theorem dL_law_600 : decode cL_law 600 = .ok (.iload 12, 2) := by decide +kernel
theorem dL_law_602 : decode cL_law 602 = .ok (.invokevirtual 151, 3) := by decide +kernel
theorem dL_law_605 : decode cL_law 605 = .ok (.bipush 9, 2) := by decide +kernel
theorem dL_law_607 : decode cL_law 607 = .ok (.if_icmp .gt 63, 3) := by decide +kernel
theorem dL_law_610 : decode cL_law 610 = .ok (.lload 13, 2) := by decide +kernel
theorem dL_law_612 : decode cL_law 612 = .ok (.lload 15, 2) := by decide +kernel
theorem dL_law_614 : decode cL_law 614 = .ok (.ladd, 1) := by decide +kernel
theorem dL_law_615 : decode cL_law 615 = .ok (.iload 7, 2) := by decide +kernel
theorem dL_law_617 : decode cL_law 617 = .ok (.i2l, 1) := by decide +kernel
theorem dL_law_618 : decode cL_law 618 = .ok (.ldc2_w 154, 3) := by decide +kernel
theorem dL_law_621 : decode cL_law 621 = .ok (.lmul, 1) := by decide +kernel
theorem dL_law_622 : decode cL_law 622 = .ok (.aload_n 1, 1) := by decide +kernel
theorem dL_law_623 : decode cL_law 623 = .ok (.iload 8, 2) := by decide +kernel
theorem dL_law_625 : decode cL_law 625 = .ok (.invokevirtual 84, 3) := by decide +kernel
theorem dL_law_628 : decode cL_law 628 = .ok (.lmul, 1) := by decide +kernel
theorem dL_law_629 : decode cL_law 629 = .ok (.aload_n 1, 1) := by decide +kernel
theorem dL_law_630 : decode cL_law 630 = .ok (.iload 8, 2) := by decide +kernel
theorem dL_law_632 : decode cL_law 632 = .ok (.invokevirtual 88, 3) := by decide +kernel
theorem dL_law_635 : decode cL_law 635 = .ok (.ldiv, 1) := by decide +kernel
theorem dL_law_636 : decode cL_law 636 = .ok (.lcmp, 1) := by decide +kernel
theorem dL_law_637 : decode cL_law 637 = .ok (.ifCond .ne 33, 3) := by decide +kernel
theorem dL_law_640 : decode cL_law 640 = .ok (.lload 15, 2) := by decide +kernel
theorem dL_law_642 : decode cL_law 642 = .ok (.lconst 0, 1) := by decide +kernel
theorem dL_law_643 : decode cL_law 643 = .ok (.lcmp, 1) := by decide +kernel
theorem dL_law_644 : decode cL_law 644 = .ok (.ifCond .ge 11, 3) := by decide +kernel
theorem dL_law_647 : decode cL_law 647 = .ok (.aload 11, 2) := by decide +kernel
theorem dL_law_649 : decode cL_law 649 = .ok (.iload 12, 2) := by decide +kernel
theorem dL_law_651 : decode cL_law 651 = .ok (.iaload, 1) := by decide +kernel
theorem dL_law_652 : decode cL_law 652 = .ok (.ifCond .le 18, 3) := by decide +kernel
theorem dL_law_655 : decode cL_law 655 = .ok (.lload 15, 2) := by decide +kernel
theorem dL_law_657 : decode cL_law 657 = .ok (.lconst 0, 1) := by decide +kernel
theorem dL_law_658 : decode cL_law 658 = .ok (.lcmp, 1) := by decide +kernel
theorem dL_law_659 : decode cL_law 659 = .ok (.ifCond .le 13, 3) := by decide +kernel
theorem dL_law_662 : decode cL_law 662 = .ok (.aload 11, 2) := by decide +kernel
theorem dL_law_664 : decode cL_law 664 = .ok (.iload 12, 2) := by decide +kernel
theorem dL_law_666 : decode cL_law 666 = .ok (.iaload, 1) := by decide +kernel
theorem dL_law_667 : decode cL_law 667 = .ok (.ifCond .lt 5, 3) := by decide +kernel
theorem dL_law_670 : decode cL_law 670 = .ok (.iconst 0, 1) := by decide +kernel
theorem dL_law_671 : decode cL_law 671 = .ok (.ireturn, 1) := by decide +kernel
theorem dL_law_672 : decode cL_law 672 = .ok (.iinc 12 1, 3) := by decide +kernel
theorem dL_law_675 : decode cL_law 675 = .ok (.goto (-207), 3) := by decide +kernel
theorem dL_law_678 : decode cL_law 678 = .ok (.iload 6, 2) := by decide +kernel
theorem dL_law_680 : decode cL_law 680 = .ok (.ifCond .le 32, 3) := by decide +kernel
theorem dL_law_683 : decode cL_law 683 = .ok (.aload_n 1, 1) := by decide +kernel
theorem dL_law_684 : decode cL_law 684 = .ok (.aload_n 1, 1) := by decide +kernel
theorem dL_law_685 : decode cL_law 685 = .ok (.invokevirtual 156, 3) := by decide +kernel
theorem dL_law_688 : decode cL_law 688 = .ok (.invokevirtual 125, 3) := by decide +kernel
theorem dL_law_691 : decode cL_law 691 = .ok (.invokestatic 128, 3) := by decide +kernel
theorem dL_law_694 : decode cL_law 694 = .ok (.iload 9, 2) := by decide +kernel
theorem dL_law_696 : decode cL_law 696 = .ok (.if_icmp .ne 41, 3) := by decide +kernel
theorem dL_law_699 : decode cL_law 699 = .ok (.aload_n 1, 1) := by decide +kernel
theorem dL_law_700 : decode cL_law 700 = .ok (.aload_n 1, 1) := by decide +kernel
theorem dL_law_701 : decode cL_law 701 = .ok (.invokevirtual 159, 3) := by decide +kernel
theorem dL_law_704 : decode cL_law 704 = .ok (.invokevirtual 125, 3) := by decide +kernel
theorem dL_law_707 : decode cL_law 707 = .ok (.iload 10, 2) := by decide +kernel
theorem dL_law_709 : decode cL_law 709 = .ok (.if_icmp .ne 28, 3) := by decide +kernel
theorem dL_law_712 : decode cL_law 712 = .ok (.aload_n 1, 1) := by decide +kernel
theorem dL_law_713 : decode cL_law 713 = .ok (.invokevirtual 156, 3) := by decide +kernel
theorem dL_law_716 : decode cL_law 716 = .ok (.ifCond .ge 7, 3) := by decide +kernel
theorem dL_law_719 : decode cL_law 719 = .ok (.iconst 1, 1) := by decide +kernel
theorem dL_law_720 : decode cL_law 720 = .ok (.goto 4, 3) := by decide +kernel
theorem dL_law_723 : decode cL_law 723 = .ok (.iconst 0, 1) := by decide +kernel
theorem dL_law_724 : decode cL_law 724 = .ok (.iload 6, 2) := by decide +kernel
theorem dL_law_726 : decode cL_law 726 = .ok (.ifCond .ne 7, 3) := by decide +kernel
theorem dL_law_729 : decode cL_law 729 = .ok (.iconst 1, 1) := by decide +kernel
theorem dL_law_730 : decode cL_law 730 = .ok (.goto 4, 3) := by decide +kernel
theorem dL_law_733 : decode cL_law 733 = .ok (.iconst 0, 1) := by decide +kernel
theorem dL_law_734 : decode cL_law 734 = .ok (.if_icmp .eq 5, 3) := by decide +kernel
theorem dL_law_737 : decode cL_law 737 = .ok (.iconst 0, 1) := by decide +kernel
theorem dL_law_738 : decode cL_law 738 = .ok (.ireturn, 1) := by decide +kernel
theorem dL_law_739 : decode cL_law 739 = .ok (.aload_n 1, 1) := by decide +kernel
theorem dL_law_740 : decode cL_law 740 = .ok (.invokevirtual 162, 3) := by decide +kernel
theorem dL_law_743 : decode cL_law 743 = .ok (.istore 12, 2) := by decide +kernel
theorem dL_law_745 : decode cL_law 745 = .ok (.aload_n 1, 1) := by decide +kernel
theorem dL_law_746 : decode cL_law 746 = .ok (.invokevirtual 165, 3) := by decide +kernel
theorem dL_law_749 : decode cL_law 749 = .ok (.istore 13, 2) := by decide +kernel
theorem dL_law_751 : decode cL_law 751 = .ok (.aload_n 1, 1) := by decide +kernel
theorem dL_law_752 : decode cL_law 752 = .ok (.iconst 1, 1) := by decide +kernel
theorem dL_law_753 : decode cL_law 753 = .ok (.invokevirtual 57, 3) := by decide +kernel
theorem dL_law_756 : decode cL_law 756 = .ok (.istore 14, 2) := by decide +kernel
theorem dL_law_758 : decode cL_law 758 = .ok (.aload_n 2, 1) := by decide +kernel
theorem dL_law_759 : decode cL_law 759 = .ok (.invokevirtual 168, 3) := by decide +kernel
theorem dL_law_762 : decode cL_law 762 = .ok (.pop, 1) := by decide +kernel
theorem dL_law_763 : decode cL_law 763 = .ok (.iconst 0, 1) := by decide +kernel
theorem dL_law_764 : decode cL_law 764 = .ok (.istore 15, 2) := by decide +kernel
theorem dL_law_766 : decode cL_law 766 = .ok (.iload 15, 2) := by decide +kernel
theorem dL_law_768 : decode cL_law 768 = .ok (.iload 6, 2) := by decide +kernel
theorem dL_law_770 : decode cL_law 770 = .ok (.if_icmp .ge 121, 3) := by decide +kernel
theorem dL_law_773 : decode cL_law 773 = .ok (.sipush (-300), 3) := by decide +kernel
theorem dL_law_776 : decode cL_law 776 = .ok (.sipush 300, 3) := by decide +kernel
theorem dL_law_779 : decode cL_law 779 = .ok (.aload 11, 2) := by decide +kernel
theorem dL_law_781 : decode cL_law 781 = .ok (.iload 15, 2) := by decide +kernel
theorem dL_law_783 : decode cL_law 783 = .ok (.iaload, 1) := by decide +kernel
theorem dL_law_784 : decode cL_law 784 = .ok (.aload_n 1, 1) := by decide +kernel
theorem dL_law_785 : decode cL_law 785 = .ok (.iload 15, 2) := by decide +kernel
theorem dL_law_787 : decode cL_law 787 = .ok (.invokevirtual 151, 3) := by decide +kernel
theorem dL_law_790 : decode cL_law 790 = .ok (.iadd, 1) := by decide +kernel
theorem dL_law_791 : decode cL_law 791 = .ok (.invokestatic 133, 3) := by decide +kernel
theorem dL_law_794 : decode cL_law 794 = .ok (.invokestatic 136, 3) := by decide +kernel
theorem dL_law_797 : decode cL_law 797 = .ok (.istore 16, 2) := by decide +kernel
theorem dL_law_799 : decode cL_law 799 = .ok (.iload 12, 2) := by decide +kernel
theorem dL_law_801 : decode cL_law 801 = .ok (.iload 6, 2) := by decide +kernel
theorem dL_law_803 : decode cL_law 803 = .ok (.irem, 1) := by decide +kernel
theorem dL_law_804 : decode cL_law 804 = .ok (.iload 15, 2) := by decide +kernel
theorem dL_law_806 : decode cL_law 806 = .ok (.if_icmp .ne 19, 3) := by decide +kernel
theorem dL_law_809 : decode cL_law 809 = .ok (.iload 16, 2) := by decide +kernel
theorem dL_law_811 : decode cL_law 811 = .ok (.invokestatic 128, 3) := by decide +kernel
theorem dL_law_814 : decode cL_law 814 = .ok (.aload_n 1, 1) := by decide +kernel
theorem dL_law_815 : decode cL_law 815 = .ok (.invokevirtual 149, 3) := by decide +kernel
theorem dL_law_818 : decode cL_law 818 = .ok (.if_icmp .le 7, 3) := by decide +kernel
theorem dL_law_821 : decode cL_law 821 = .ok (.iconst 1, 1) := by decide +kernel
theorem dL_law_822 : decode cL_law 822 = .ok (.goto 4, 3) := by decide +kernel
theorem dL_law_825 : decode cL_law 825 = .ok (.iconst 0, 1) := by decide +kernel
theorem dL_law_826 : decode cL_law 826 = .ok (.istore 17, 2) := by decide +kernel
theorem dL_law_828 : decode cL_law 828 = .ok (.aload_n 1, 1) := by decide +kernel
theorem dL_law_829 : decode cL_law 829 = .ok (.iload 15, 2) := by decide +kernel
theorem dL_law_831 : decode cL_law 831 = .ok (.invokevirtual 125, 3) := by decide +kernel
theorem dL_law_834 : decode cL_law 834 = .ok (.iload 17, 2) := by decide +kernel
theorem dL_law_836 : decode cL_law 836 = .ok (.ifCond .eq 7, 3) := by decide +kernel
theorem dL_law_839 : decode cL_law 839 = .ok (.iconst 0, 1) := by decide +kernel
theorem dL_law_840 : decode cL_law 840 = .ok (.goto 5, 3) := by decide +kernel
theorem dL_law_843 : decode cL_law 843 = .ok (.iload 16, 2) := by decide +kernel
theorem dL_law_845 : decode cL_law 845 = .ok (.if_icmp .ne 38, 3) := by decide +kernel
theorem dL_law_848 : decode cL_law 848 = .ok (.iload 17, 2) := by decide +kernel
theorem dL_law_850 : decode cL_law 850 = .ok (.ifCond .eq 13, 3) := by decide +kernel
theorem dL_law_853 : decode cL_law 853 = .ok (.iload 14, 2) := by decide +kernel
theorem dL_law_855 : decode cL_law 855 = .ok (.iload 16, 2) := by decide +kernel
theorem dL_law_857 : decode cL_law 857 = .ok (.invokestatic 128, 3) := by decide +kernel
theorem dL_law_860 : decode cL_law 860 = .ok (.if_icmp .ne 23, 3) := by decide +kernel
theorem dL_law_863 : decode cL_law 863 = .ok (.iload 12, 2) := by decide +kernel
theorem dL_law_865 : decode cL_law 865 = .ok (.iload 6, 2) := by decide +kernel
theorem dL_law_867 : decode cL_law 867 = .ok (.irem, 1) := by decide +kernel
theorem dL_law_868 : decode cL_law 868 = .ok (.iload 15, 2) := by decide +kernel
theorem dL_law_870 : decode cL_law 870 = .ok (.if_icmp .ne 15, 3) := by decide +kernel
theorem dL_law_873 : decode cL_law 873 = .ok (.iload 17, 2) := by decide +kernel
theorem dL_law_875 : decode cL_law 875 = .ok (.ifCond .ne 10, 3) := by decide +kernel
theorem dL_law_878 : decode cL_law 878 = .ok (.iload 14, 2) := by decide +kernel
theorem dL_law_880 : decode cL_law 880 = .ok (.ifCond .eq 5, 3) := by decide +kernel
theorem dL_law_883 : decode cL_law 883 = .ok (.iconst 0, 1) := by decide +kernel
theorem dL_law_884 : decode cL_law 884 = .ok (.ireturn, 1) := by decide +kernel
theorem dL_law_885 : decode cL_law 885 = .ok (.iinc 15 1, 3) := by decide +kernel
theorem dL_law_888 : decode cL_law 888 = .ok (.goto (-122), 3) := by decide +kernel
theorem dL_law_891 : decode cL_law 891 = .ok (.aload_n 1, 1) := by decide +kernel
theorem dL_law_892 : decode cL_law 892 = .ok (.invokevirtual 162, 3) := by decide +kernel
theorem dL_law_895 : decode cL_law 895 = .ok (.iload 12, 2) := by decide +kernel
theorem dL_law_897 : decode cL_law 897 = .ok (.iconst 1, 1) := by decide +kernel
theorem dL_law_898 : decode cL_law 898 = .ok (.iadd, 1) := by decide +kernel
theorem dL_law_899 : decode cL_law 899 = .ok (.if_icmp .ne 25, 3) := by decide +kernel
theorem dL_law_902 : decode cL_law 902 = .ok (.aload_n 1, 1) := by decide +kernel
theorem dL_law_903 : decode cL_law 903 = .ok (.invokevirtual 165, 3) := by decide +kernel
theorem dL_law_906 : decode cL_law 906 = .ok (.iload 13, 2) := by decide +kernel
theorem dL_law_908 : decode cL_law 908 = .ok (.iload 14, 2) := by decide +kernel
theorem dL_law_910 : decode cL_law 910 = .ok (.iadd, 1) := by decide +kernel
theorem dL_law_911 : decode cL_law 911 = .ok (.if_icmp .ne 13, 3) := by decide +kernel
theorem dL_law_914 : decode cL_law 914 = .ok (.iload 6, 2) := by decide +kernel
theorem dL_law_916 : decode cL_law 916 = .ok (.ifCond .ne 10, 3) := by decide +kernel
theorem dL_law_919 : decode cL_law 919 = .ok (.iload 14, 2) := by decide +kernel
theorem dL_law_921 : decode cL_law 921 = .ok (.ifCond .eq 5, 3) := by decide +kernel
theorem dL_law_924 : decode cL_law 924 = .ok (.iconst 0, 1) := by decide +kernel
theorem dL_law_925 : decode cL_law 925 = .ok (.ireturn, 1) := by decide +kernel
theorem dL_law_926 : decode cL_law 926 = .ok (.iinc 3 1, 3) := by decide +kernel
theorem dL_law_929 : decode cL_law 929 = .ok (.goto (-907), 3) := by decide +kernel
theorem dL_law_932 : decode cL_law 932 = .ok (.aload_n 2, 1) := by decide +kernel
theorem dL_law_933 : decode cL_law 933 = .ok (.aload_n 1, 1) := by decide +kernel
theorem dL_law_934 : decode cL_law 934 = .ok (.invokevirtual 171, 3) := by decide +kernel
theorem dL_law_937 : decode cL_law 937 = .ok (.ireturn, 1) := by decide +kernel
