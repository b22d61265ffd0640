theorem dL_below_0 : decode cL_below 0 = .ok (.iload_n 0, 1) := by decide +kernel
theorem dL_below_1 : decode cL_below 1 = .ok (.ldc 7, 2) := by decide +kernel
theorem dL_below_3 : decode cL_below 3 = .ok (.iand, 1) := by decide +kernel
theorem dL_below_4 : decode cL_below 4 = .ok (.iload_n 1, 1) := by decide +kernel
theorem dL_below_5 : decode cL_below 5 = .ok (.irem, 1) := by decide +kernel
theorem dL_below_6 : decode cL_below 6 = .ok (.ireturn, 1) := by decide +kernel
theorem dL_cell_0 : decode cL_cell 0 = .ok (.iload_n 1, 1) := by decide +kernel
theorem dL_cell_1 : decode cL_cell 1 = .ok (.aload_n 0, 1) := by decide +kernel
theorem dL_cell_2 : decode cL_cell 2 = .ok (.arraylength, 1) := by decide +kernel
theorem dL_cell_3 : decode cL_cell 3 = .ok (.if_icmp .ge 9, 3) := by decide +kernel
theorem dL_cell_6 : decode cL_cell 6 = .ok (.aload_n 0, 1) := by decide +kernel
theorem dL_cell_7 : decode cL_cell 7 = .ok (.iload_n 1, 1) := by decide +kernel
theorem dL_cell_8 : decode cL_cell 8 = .ok (.iaload, 1) := by decide +kernel
theorem dL_cell_9 : decode cL_cell 9 = .ok (.goto 9, 3) := by decide +kernel
theorem dL_cell_12 : decode cL_cell 12 = .ok (.ldc 8, 2) := by decide +kernel
theorem dL_cell_14 : decode cL_cell 14 = .ok (.iload_n 1, 1) := by decide +kernel
theorem dL_cell_15 : decode cL_cell 15 = .ok (.iconst 3, 1) := by decide +kernel
theorem dL_cell_16 : decode cL_cell 16 = .ok (.iadd, 1) := by decide +kernel
theorem dL_cell_17 : decode cL_cell 17 = .ok (.imul, 1) := by decide +kernel
theorem dL_cell_18 : decode cL_cell 18 = .ok (.ireturn, 1) := by decide +kernel
theorem dL_act_0 : decode cL_act 0 = .ok (.aload_n 1, 1) := by decide +kernel
theorem dL_act_1 : decode cL_act 1 = .ok (.getfield 9, 3) := by decide +kernel
theorem dL_act_4 : decode cL_act 4 = .ok (.arraylength, 1) := by decide +kernel
theorem dL_act_5 : decode cL_act 5 = .ok (.istore_n 3, 1) := by decide +kernel
theorem dL_act_6 : decode cL_act 6 = .ok (.aload_n 1, 1) := by decide +kernel
theorem dL_act_7 : decode cL_act 7 = .ok (.getfield 15, 3) := by decide +kernel
theorem dL_act_10 : decode cL_act 10 = .ok (.arraylength, 1) := by decide +kernel
theorem dL_act_11 : decode cL_act 11 = .ok (.istore 4, 2) := by decide +kernel
theorem dL_act_13 : decode cL_act 13 = .ok (.iload_n 2, 1) := by decide +kernel
theorem dL_act_14 : decode cL_act 14 = .ok (.bipush 9, 2) := by decide +kernel
theorem dL_act_16 : decode cL_act 16 = .ok (.ishr, 1) := by decide +kernel
theorem dL_act_17 : decode cL_act 17 = .ok (.bipush 14, 2) := by decide +kernel
theorem dL_act_19 : decode cL_act 19 = .ok (.invokestatic 18, 3) := by decide +kernel
theorem dL_act_22 : decode cL_act 22 = .ok (.tableswitch 418 0 8 #[50, 50, 50, 139, 175, 175, 242, 312, 368], 50) := by decide +kernel
theorem dL_act_72 : decode cL_act 72 = .ok (.iload_n 3, 1) := by decide +kernel
theorem dL_act_73 : decode cL_act 73 = .ok (.bipush 8, 2) := by decide +kernel
theorem dL_act_75 : decode cL_act 75 = .ok (.if_icmp .ne 5, 3) := by decide +kernel
theorem dL_act_78 : decode cL_act 78 = .ok (.iconst 1, 1) := by decide +kernel
theorem dL_act_79 : decode cL_act 79 = .ok (.ireturn, 1) := by decide +kernel
theorem dL_act_80 : decode cL_act 80 = .ok (.iconst 3, 1) := by decide +kernel
theorem dL_act_81 : decode cL_act 81 = .ok (.newarray .int, 2) := by decide +kernel
theorem dL_act_83 : decode cL_act 83 = .ok (.dup, 1) := by decide +kernel
theorem dL_act_84 : decode cL_act 84 = .ok (.iconst 0, 1) := by decide +kernel
theorem dL_act_85 : decode cL_act 85 = .ok (.iload_n 2, 1) := by decide +kernel
theorem dL_act_86 : decode cL_act 86 = .ok (.iconst 1, 1) := by decide +kernel
theorem dL_act_87 : decode cL_act 87 = .ok (.ishr, 1) := by decide +kernel
theorem dL_act_88 : decode cL_act 88 = .ok (.iload_n 3, 1) := by decide +kernel
theorem dL_act_89 : decode cL_act 89 = .ok (.invokestatic 18, 3) := by decide +kernel
theorem dL_act_92 : decode cL_act 92 = .ok (.iastore, 1) := by decide +kernel
theorem dL_act_93 : decode cL_act 93 = .ok (.dup, 1) := by decide +kernel
theorem dL_act_94 : decode cL_act 94 = .ok (.iconst 1, 1) := by decide +kernel
theorem dL_act_95 : decode cL_act 95 = .ok (.iconst 1, 1) := by decide +kernel
theorem dL_act_96 : decode cL_act 96 = .ok (.iload_n 2, 1) := by decide +kernel
theorem dL_act_97 : decode cL_act 97 = .ok (.iconst 3, 1) := by decide +kernel
theorem dL_act_98 : decode cL_act 98 = .ok (.ishr, 1) := by decide +kernel
theorem dL_act_99 : decode cL_act 99 = .ok (.bipush 9, 2) := by decide +kernel
theorem dL_act_101 : decode cL_act 101 = .ok (.invokestatic 18, 3) := by decide +kernel
theorem dL_act_104 : decode cL_act 104 = .ok (.iadd, 1) := by decide +kernel
theorem dL_act_105 : decode cL_act 105 = .ok (.iastore, 1) := by decide +kernel
theorem dL_act_106 : decode cL_act 106 = .ok (.dup, 1) := by decide +kernel
theorem dL_act_107 : decode cL_act 107 = .ok (.iconst 2, 1) := by decide +kernel
theorem dL_act_108 : decode cL_act 108 = .ok (.iconst 1, 1) := by decide +kernel
theorem dL_act_109 : decode cL_act 109 = .ok (.iload_n 2, 1) := by decide +kernel
theorem dL_act_110 : decode cL_act 110 = .ok (.bipush 6, 2) := by decide +kernel
theorem dL_act_112 : decode cL_act 112 = .ok (.ishr, 1) := by decide +kernel
theorem dL_act_113 : decode cL_act 113 = .ok (.bipush 9, 2) := by decide +kernel
theorem dL_act_115 : decode cL_act 115 = .ok (.invokestatic 18, 3) := by decide +kernel
theorem dL_act_118 : decode cL_act 118 = .ok (.iadd, 1) := by decide +kernel
theorem dL_act_119 : decode cL_act 119 = .ok (.iastore, 1) := by decide +kernel
theorem dL_act_120 : decode cL_act 120 = .ok (.astore 5, 2) := by decide +kernel
theorem dL_act_122 : decode cL_act 122 = .ok (.aload_n 1, 1) := by decide +kernel
theorem dL_act_123 : decode cL_act 123 = .ok (.aload_n 1, 1) := by decide +kernel
theorem dL_act_124 : decode cL_act 124 = .ok (.getfield 9, 3) := by decide +kernel
theorem dL_act_127 : decode cL_act 127 = .ok (.aload 5, 2) := by decide +kernel
theorem dL_act_129 : decode cL_act 129 = .ok (.invokestatic 24, 3) := by decide +kernel
theorem dL_act_132 : decode cL_act 132 = .ok (.putfield 9, 3) := by decide +kernel
theorem dL_act_135 : decode cL_act 135 = .ok (.aload_n 0, 1) := by decide +kernel
theorem dL_act_136 : decode cL_act 136 = .ok (.aload 5, 2) := by decide +kernel
theorem dL_act_138 : decode cL_act 138 = .ok (.iconst 0, 1) := by decide +kernel
theorem dL_act_139 : decode cL_act 139 = .ok (.iaload, 1) := by decide +kernel
theorem dL_act_140 : decode cL_act 140 = .ok (.aload 5, 2) := by decide +kernel
theorem dL_act_142 : decode cL_act 142 = .ok (.iconst 1, 1) := by decide +kernel
theorem dL_act_143 : decode cL_act 143 = .ok (.iaload, 1) := by decide +kernel
theorem dL_act_144 : decode cL_act 144 = .ok (.aload 5, 2) := by decide +kernel
theorem dL_act_146 : decode cL_act 146 = .ok (.iconst 2, 1) := by decide +kernel
theorem dL_act_147 : decode cL_act 147 = .ok (.iaload, 1) := by decide +kernel
theorem dL_act_148 : decode cL_act 148 = .ok (.invokevirtual 28, 3) := by decide +kernel
theorem dL_act_151 : decode cL_act 151 = .ok (.iload_n 3, 1) := by decide +kernel
theorem dL_act_152 : decode cL_act 152 = .ok (.if_icmp .ne 7, 3) := by decide +kernel
theorem dL_act_155 : decode cL_act 155 = .ok (.iconst 1, 1) := by decide +kernel
theorem dL_act_156 : decode cL_act 156 = .ok (.goto 4, 3) := by decide +kernel
theorem dL_act_159 : decode cL_act 159 = .ok (.iconst 0, 1) := by decide +kernel
theorem dL_act_160 : decode cL_act 160 = .ok (.ireturn, 1) := by decide +kernel
theorem dL_act_161 : decode cL_act 161 = .ok (.aload_n 1, 1) := by decide +kernel
theorem dL_act_162 : decode cL_act 162 = .ok (.getfield 34, 3) := by decide +kernel
theorem dL_act_165 : decode cL_act 165 = .ok (.istore 6, 2) := by decide +kernel
theorem dL_act_167 : decode cL_act 167 = .ok (.aload_n 1, 1) := by decide +kernel
theorem dL_act_168 : decode cL_act 168 = .ok (.iload_n 2, 1) := by decide +kernel
theorem dL_act_169 : decode cL_act 169 = .ok (.iconst 2, 1) := by decide +kernel
theorem dL_act_170 : decode cL_act 170 = .ok (.ishr, 1) := by decide +kernel
theorem dL_act_171 : decode cL_act 171 = .ok (.iload_n 3, 1) := by decide +kernel
theorem dL_act_172 : decode cL_act 172 = .ok (.invokestatic 18, 3) := by decide +kernel
theorem dL_act_175 : decode cL_act 175 = .ok (.putfield 34, 3) := by decide +kernel
theorem dL_act_178 : decode cL_act 178 = .ok (.aload_n 0, 1) := by decide +kernel
theorem dL_act_179 : decode cL_act 179 = .ok (.aload_n 1, 1) := by decide +kernel
theorem dL_act_180 : decode cL_act 180 = .ok (.getfield 34, 3) := by decide +kernel
theorem dL_act_183 : decode cL_act 183 = .ok (.invokevirtual 38, 3) := by decide +kernel
theorem dL_act_186 : decode cL_act 186 = .ok (.iload 6, 2) := by decide +kernel
theorem dL_act_188 : decode cL_act 188 = .ok (.if_icmp .ne 7, 3) := by decide +kernel
theorem dL_act_191 : decode cL_act 191 = .ok (.iconst 1, 1) := by decide +kernel
theorem dL_act_192 : decode cL_act 192 = .ok (.goto 4, 3) := by decide +kernel
theorem dL_act_195 : decode cL_act 195 = .ok (.iconst 0, 1) := by decide +kernel
theorem dL_act_196 : decode cL_act 196 = .ok (.ireturn, 1) := by decide +kernel
theorem dL_act_197 : decode cL_act 197 = .ok (.iload 4, 2) := by decide +kernel
theorem dL_act_199 : decode cL_act 199 = .ok (.bipush 6, 2) := by decide +kernel
theorem dL_act_201 : decode cL_act 201 = .ok (.if_icmp .ne 5, 3) := by decide +kernel
theorem dL_act_204 : decode cL_act 204 = .ok (.iconst 1, 1) := by decide +kernel
theorem dL_act_205 : decode cL_act 205 = .ok (.ireturn, 1) := by decide +kernel
theorem dL_act_206 : decode cL_act 206 = .ok (.aload_n 1, 1) := by decide +kernel
theorem dL_act_207 : decode cL_act 207 = .ok (.aload_n 1, 1) := by decide +kernel
theorem dL_act_208 : decode cL_act 208 = .ok (.getfield 15, 3) := by decide +kernel
theorem dL_act_211 : decode cL_act 211 = .ok (.iconst 2, 1) := by decide +kernel
theorem dL_act_212 : decode cL_act 212 = .ok (.newarray .int, 2) := by decide +kernel
theorem dL_act_214 : decode cL_act 214 = .ok (.dup, 1) := by decide +kernel
theorem dL_act_215 : decode cL_act 215 = .ok (.iconst 0, 1) := by decide +kernel
theorem dL_act_216 : decode cL_act 216 = .ok (.iload_n 2, 1) := by decide +kernel
theorem dL_act_217 : decode cL_act 217 = .ok (.iconst 2, 1) := by decide +kernel
theorem dL_act_218 : decode cL_act 218 = .ok (.ishr, 1) := by decide +kernel
theorem dL_act_219 : decode cL_act 219 = .ok (.bipush 19, 2) := by decide +kernel
theorem dL_act_221 : decode cL_act 221 = .ok (.invokestatic 18, 3) := by decide +kernel
theorem dL_act_224 : decode cL_act 224 = .ok (.bipush 9, 2) := by decide +kernel
theorem dL_act_226 : decode cL_act 226 = .ok (.isub, 1) := by decide +kernel
theorem dL_act_227 : decode cL_act 227 = .ok (.iastore, 1) := by decide +kernel
theorem dL_act_228 : decode cL_act 228 = .ok (.dup, 1) := by decide +kernel
theorem dL_act_229 : decode cL_act 229 = .ok (.iconst 1, 1) := by decide +kernel
theorem dL_act_230 : decode cL_act 230 = .ok (.iconst 0, 1) := by decide +kernel
theorem dL_act_231 : decode cL_act 231 = .ok (.iastore, 1) := by decide +kernel
theorem dL_act_232 : decode cL_act 232 = .ok (.invokestatic 24, 3) := by decide +kernel
theorem dL_act_235 : decode cL_act 235 = .ok (.putfield 15, 3) := by decide +kernel
theorem dL_act_238 : decode cL_act 238 = .ok (.aload_n 0, 1) := by decide +kernel
theorem dL_act_239 : decode cL_act 239 = .ok (.iload_n 2, 1) := by decide +kernel
theorem dL_act_240 : decode cL_act 240 = .ok (.iconst 2, 1) := by decide +kernel
theorem dL_act_241 : decode cL_act 241 = .ok (.ishr, 1) := by decide +kernel
theorem dL_act_242 : decode cL_act 242 = .ok (.bipush 19, 2) := by decide +kernel
theorem dL_act_244 : decode cL_act 244 = .ok (.invokestatic 18, 3) := by decide +kernel
theorem dL_act_247 : decode cL_act 247 = .ok (.bipush 9, 2) := by decide +kernel
theorem dL_act_249 : decode cL_act 249 = .ok (.isub, 1) := by decide +kernel
theorem dL_act_250 : decode cL_act 250 = .ok (.invokevirtual 42, 3) := by decide +kernel
theorem dL_act_253 : decode cL_act 253 = .ok (.iload 4, 2) := by decide +kernel
theorem dL_act_255 : decode cL_act 255 = .ok (.if_icmp .ne 7, 3) := by decide +kernel
theorem dL_act_258 : decode cL_act 258 = .ok (.iconst 1, 1) := by decide +kernel
theorem dL_act_259 : decode cL_act 259 = .ok (.goto 4, 3) := by decide +kernel
theorem dL_act_262 : decode cL_act 262 = .ok (.iconst 0, 1) := by decide +kernel
theorem dL_act_263 : decode cL_act 263 = .ok (.ireturn, 1) := by decide +kernel
theorem dL_act_264 : decode cL_act 264 = .ok (.iload 4, 2) := by decide +kernel
theorem dL_act_266 : decode cL_act 266 = .ok (.ifCond .ne 5, 3) := by decide +kernel
theorem dL_act_269 : decode cL_act 269 = .ok (.iconst 1, 1) := by decide +kernel
theorem dL_act_270 : decode cL_act 270 = .ok (.ireturn, 1) := by decide +kernel
theorem dL_act_271 : decode cL_act 271 = .ok (.aload_n 1, 1) := by decide +kernel
theorem dL_act_272 : decode cL_act 272 = .ok (.getfield 15, 3) := by decide +kernel
theorem dL_act_275 : decode cL_act 275 = .ok (.iload_n 2, 1) := by decide +kernel
theorem dL_act_276 : decode cL_act 276 = .ok (.iconst 1, 1) := by decide +kernel
theorem dL_act_277 : decode cL_act 277 = .ok (.ishr, 1) := by decide +kernel
theorem dL_act_278 : decode cL_act 278 = .ok (.iload 4, 2) := by decide +kernel
theorem dL_act_280 : decode cL_act 280 = .ok (.invokestatic 18, 3) := by decide +kernel
theorem dL_act_283 : decode cL_act 283 = .ok (.aaload, 1) := by decide +kernel
theorem dL_act_284 : decode cL_act 284 = .ok (.astore 7, 2) := by decide +kernel
theorem dL_act_286 : decode cL_act 286 = .ok (.aload 7, 2) := by decide +kernel
theorem dL_act_288 : decode cL_act 288 = .ok (.iconst 0, 1) := by decide +kernel
theorem dL_act_289 : decode cL_act 289 = .ok (.iaload, 1) := by decide +kernel
theorem dL_act_290 : decode cL_act 290 = .ok (.istore 8, 2) := by decide +kernel
theorem dL_act_292 : decode cL_act 292 = .ok (.aload 7, 2) := by decide +kernel
theorem dL_act_294 : decode cL_act 294 = .ok (.iconst 0, 1) := by decide +kernel
theorem dL_act_295 : decode cL_act 295 = .ok (.iload_n 2, 1) := by decide +kernel
theorem dL_act_296 : decode cL_act 296 = .ok (.iconst 4, 1) := by decide +kernel
theorem dL_act_297 : decode cL_act 297 = .ok (.ishr, 1) := by decide +kernel
theorem dL_act_298 : decode cL_act 298 = .ok (.bipush 19, 2) := by decide +kernel
theorem dL_act_300 : decode cL_act 300 = .ok (.invokestatic 18, 3) := by decide +kernel
theorem dL_act_303 : decode cL_act 303 = .ok (.bipush 9, 2) := by decide +kernel
theorem dL_act_305 : decode cL_act 305 = .ok (.isub, 1) := by decide +kernel
theorem dL_act_306 : decode cL_act 306 = .ok (.iastore, 1) := by decide +kernel
theorem dL_act_307 : decode cL_act 307 = .ok (.aload_n 0, 1) := by decide +kernel
theorem dL_act_308 : decode cL_act 308 = .ok (.iload_n 2, 1) := by decide +kernel
theorem dL_act_309 : decode cL_act 309 = .ok (.iconst 1, 1) := by decide +kernel
theorem dL_act_310 : decode cL_act 310 = .ok (.ishr, 1) := by decide +kernel
theorem dL_act_311 : decode cL_act 311 = .ok (.iload 4, 2) := by decide +kernel
theorem dL_act_313 : decode cL_act 313 = .ok (.invokestatic 18, 3) := by decide +kernel
theorem dL_act_316 : decode cL_act 316 = .ok (.aload 7, 2) := by decide +kernel
theorem dL_act_318 : decode cL_act 318 = .ok (.iconst 0, 1) := by decide +kernel
theorem dL_act_319 : decode cL_act 319 = .ok (.iaload, 1) := by decide +kernel
theorem dL_act_320 : decode cL_act 320 = .ok (.invokevirtual 45, 3) := by decide +kernel
theorem dL_act_323 : decode cL_act 323 = .ok (.iload 8, 2) := by decide +kernel
theorem dL_act_325 : decode cL_act 325 = .ok (.if_icmp .ne 7, 3) := by decide +kernel
theorem dL_act_328 : decode cL_act 328 = .ok (.iconst 1, 1) := by decide +kernel
theorem dL_act_329 : decode cL_act 329 = .ok (.goto 4, 3) := by decide +kernel
theorem dL_act_332 : decode cL_act 332 = .ok (.iconst 0, 1) := by decide +kernel
theorem dL_act_333 : decode cL_act 333 = .ok (.ireturn, 1) := by decide +kernel
theorem dL_act_334 : decode cL_act 334 = .ok (.iload 4, 2) := by decide +kernel
theorem dL_act_336 : decode cL_act 336 = .ok (.ifCond .ne 5, 3) := by decide +kernel
theorem dL_act_339 : decode cL_act 339 = .ok (.iconst 1, 1) := by decide +kernel
theorem dL_act_340 : decode cL_act 340 = .ok (.ireturn, 1) := by decide +kernel
theorem dL_act_341 : decode cL_act 341 = .ok (.aload_n 1, 1) := by decide +kernel
theorem dL_act_342 : decode cL_act 342 = .ok (.getfield 15, 3) := by decide +kernel
theorem dL_act_345 : decode cL_act 345 = .ok (.iload_n 2, 1) := by decide +kernel
theorem dL_act_346 : decode cL_act 346 = .ok (.iconst 1, 1) := by decide +kernel
theorem dL_act_347 : decode cL_act 347 = .ok (.ishr, 1) := by decide +kernel
theorem dL_act_348 : decode cL_act 348 = .ok (.iload 4, 2) := by decide +kernel
theorem dL_act_350 : decode cL_act 350 = .ok (.invokestatic 18, 3) := by decide +kernel
theorem dL_act_353 : decode cL_act 353 = .ok (.aaload, 1) := by decide +kernel
theorem dL_act_354 : decode cL_act 354 = .ok (.astore 9, 2) := by decide +kernel
theorem dL_act_356 : decode cL_act 356 = .ok (.aload 9, 2) := by decide +kernel
theorem dL_act_358 : decode cL_act 358 = .ok (.iconst 1, 1) := by decide +kernel
theorem dL_act_359 : decode cL_act 359 = .ok (.iaload, 1) := by decide +kernel
theorem dL_act_360 : decode cL_act 360 = .ok (.istore 10, 2) := by decide +kernel
theorem dL_act_362 : decode cL_act 362 = .ok (.aload 9, 2) := by decide +kernel
theorem dL_act_364 : decode cL_act 364 = .ok (.iconst 1, 1) := by decide +kernel
theorem dL_act_365 : decode cL_act 365 = .ok (.iconst 0, 1) := by decide +kernel
theorem dL_act_366 : decode cL_act 366 = .ok (.iastore, 1) := by decide +kernel
theorem dL_act_367 : decode cL_act 367 = .ok (.aload_n 0, 1) := by decide +kernel
theorem dL_act_368 : decode cL_act 368 = .ok (.iload_n 2, 1) := by decide +kernel
theorem dL_act_369 : decode cL_act 369 = .ok (.iconst 1, 1) := by decide +kernel
theorem dL_act_370 : decode cL_act 370 = .ok (.ishr, 1) := by decide +kernel
theorem dL_act_371 : decode cL_act 371 = .ok (.iload 4, 2) := by decide +kernel
theorem dL_act_373 : decode cL_act 373 = .ok (.invokestatic 18, 3) := by decide +kernel
theorem dL_act_376 : decode cL_act 376 = .ok (.invokevirtual 48, 3) := by decide +kernel
theorem dL_act_379 : decode cL_act 379 = .ok (.iload 10, 2) := by decide +kernel
theorem dL_act_381 : decode cL_act 381 = .ok (.if_icmp .ne 7, 3) := by decide +kernel
theorem dL_act_384 : decode cL_act 384 = .ok (.iconst 1, 1) := by decide +kernel
theorem dL_act_385 : decode cL_act 385 = .ok (.goto 4, 3) := by decide +kernel
theorem dL_act_388 : decode cL_act 388 = .ok (.iconst 0, 1) := by decide +kernel
theorem dL_act_389 : decode cL_act 389 = .ok (.ireturn, 1) := by decide +kernel
theorem dL_act_390 : decode cL_act 390 = .ok (.aload_n 1, 1) := by decide +kernel
theorem dL_act_391 : decode cL_act 391 = .ok (.getfield 51, 3) := by decide +kernel
theorem dL_act_394 : decode cL_act 394 = .ok (.istore 11, 2) := by decide +kernel
theorem dL_act_396 : decode cL_act 396 = .ok (.aload_n 1, 1) := by decide +kernel
theorem dL_act_397 : decode cL_act 397 = .ok (.iload_n 2, 1) := by decide +kernel
theorem dL_act_398 : decode cL_act 398 = .ok (.iconst 2, 1) := by decide +kernel
theorem dL_act_399 : decode cL_act 399 = .ok (.ishr, 1) := by decide +kernel
theorem dL_act_400 : decode cL_act 400 = .ok (.iload_n 2, 1) := by decide +kernel
theorem dL_act_401 : decode cL_act 401 = .ok (.iconst 2, 1) := by decide +kernel
theorem dL_act_402 : decode cL_act 402 = .ok (.invokestatic 18, 3) := by decide +kernel
theorem dL_act_405 : decode cL_act 405 = .ok (.ifCond .ne 8, 3) := by decide +kernel
theorem dL_act_408 : decode cL_act 408 = .ok (.bipush 101, 2) := by decide +kernel
theorem dL_act_410 : decode cL_act 410 = .ok (.goto 5, 3) := by decide +kernel
theorem dL_act_413 : decode cL_act 413 = .ok (.bipush 20, 2) := by decide +kernel
theorem dL_act_415 : decode cL_act 415 = .ok (.invokestatic 18, 3) := by decide +kernel
theorem dL_act_418 : decode cL_act 418 = .ok (.putfield 51, 3) := by decide +kernel
theorem dL_act_421 : decode cL_act 421 = .ok (.aload_n 0, 1) := by decide +kernel
theorem dL_act_422 : decode cL_act 422 = .ok (.aload_n 1, 1) := by decide +kernel
theorem dL_act_423 : decode cL_act 423 = .ok (.getfield 51, 3) := by decide +kernel
theorem dL_act_426 : decode cL_act 426 = .ok (.invokevirtual 54, 3) := by decide +kernel
theorem dL_act_429 : decode cL_act 429 = .ok (.iload 11, 2) := by decide +kernel
theorem dL_act_431 : decode cL_act 431 = .ok (.if_icmp .ne 7, 3) := by decide +kernel
theorem dL_act_434 : decode cL_act 434 = .ok (.iconst 1, 1) := by decide +kernel
theorem dL_act_435 : decode cL_act 435 = .ok (.goto 4, 3) := by decide +kernel
theorem dL_act_438 : decode cL_act 438 = .ok (.iconst 0, 1) := by decide +kernel
theorem dL_act_439 : decode cL_act 439 = .ok (.ireturn, 1) := by decide +kernel
theorem dL_act_440 : decode cL_act 440 = .ok (.iconst 1, 1) := by decide +kernel
theorem dL_act_441 : decode cL_act 441 = .ok (.iload_n 2, 1) := by decide +kernel
theorem dL_act_442 : decode cL_act 442 = .ok (.iconst 2, 1) := by decide +kernel
theorem dL_act_443 : decode cL_act 443 = .ok (.ishr, 1) := by decide +kernel
theorem dL_act_444 : decode cL_act 444 = .ok (.iload_n 2, 1) := by decide +kernel
theorem dL_act_445 : decode cL_act 445 = .ok (.iconst 4, 1) := by decide +kernel
theorem dL_act_446 : decode cL_act 446 = .ok (.invokestatic 18, 3) := by decide +kernel
theorem dL_act_449 : decode cL_act 449 = .ok (.ifCond .ne 8, 3) := by decide +kernel
theorem dL_act_452 : decode cL_act 452 = .ok (.bipush 60, 2) := by decide +kernel
theorem dL_act_454 : decode cL_act 454 = .ok (.goto 4, 3) := by decide +kernel
theorem dL_act_457 : decode cL_act 457 = .ok (.iconst 4, 1) := by decide +kernel
theorem dL_act_458 : decode cL_act 458 = .ok (.invokestatic 18, 3) := by decide +kernel
theorem dL_act_461 : decode cL_act 461 = .ok (.iadd, 1) := by decide +kernel
theorem dL_act_462 : decode cL_act 462 = .ok (.istore 12, 2) := by decide +kernel
theorem dL_act_464 : decode cL_act 464 = .ok (.aload_n 0, 1) := by decide +kernel
theorem dL_act_465 : decode cL_act 465 = .ok (.iload 12, 2) := by decide +kernel
theorem dL_act_467 : decode cL_act 467 = .ok (.invokevirtual 57, 3) := by decide +kernel
theorem dL_act_470 : decode cL_act 470 = .ok (.aload_n 1, 1) := by decide +kernel
theorem dL_act_471 : decode cL_act 471 = .ok (.iload 12, 2) := by decide +kernel
theorem dL_act_473 : decode cL_act 473 = .ok (.invokevirtual 60, 3) := by decide +kernel
theorem dL_act_476 : decode cL_act 476 = .ok (.if_icmp .ne 7, 3) := by decide +kernel
theorem dL_act_479 : decode cL_act 479 = .ok (.iconst 1, 1) := by decide +kernel
theorem dL_act_480 : decode cL_act 480 = .ok (.goto 4, 3) := by decide +kernel
theorem dL_act_483 : decode cL_act 483 = .ok (.iconst 0, 1) := by decide +kernel
theorem dL_act_484 : decode cL_act 484 = .ok (.ireturn, 1) := by decide +kernel
theorem dL_build_0 : decode cL_build 0 = .ok (.new 10, 3) := by decide +kernel
theorem dL_build_3 : decode cL_build 3 = .ok (.dup, 1) := by decide +kernel
theorem dL_build_4 : decode cL_build 4 = .ok (.invokespecial 63, 3) := by decide +kernel
theorem dL_build_7 : decode cL_build 7 = .ok (.astore_n 2, 1) := by decide +kernel
theorem dL_build_8 : decode cL_build 8 = .ok (.bipush 6, 2) := by decide +kernel
theorem dL_build_10 : decode cL_build 10 = .ok (.aload_n 1, 1) := by decide +kernel
theorem dL_build_11 : decode cL_build 11 = .ok (.iconst 0, 1) := by decide +kernel
theorem dL_build_12 : decode cL_build 12 = .ok (.invokestatic 64, 3) := by decide +kernel
theorem dL_build_15 : decode cL_build 15 = .ok (.bipush 40, 2) := by decide +kernel
theorem dL_build_17 : decode cL_build 17 = .ok (.invokestatic 18, 3) := by decide +kernel
theorem dL_build_20 : decode cL_build 20 = .ok (.iadd, 1) := by decide +kernel
theorem dL_build_21 : decode cL_build 21 = .ok (.istore_n 3, 1) := by decide +kernel
theorem dL_build_22 : decode cL_build 22 = .ok (.iconst 0, 1) := by decide +kernel
theorem dL_build_23 : decode cL_build 23 = .ok (.istore 4, 2) := by decide +kernel
theorem dL_build_25 : decode cL_build 25 = .ok (.iload 4, 2) := by decide +kernel
theorem dL_build_27 : decode cL_build 27 = .ok (.iload_n 3, 1) := by decide +kernel
theorem dL_build_28 : decode cL_build 28 = .ok (.if_icmp .ge 43, 3) := by decide +kernel
theorem dL_build_31 : decode cL_build 31 = .ok (.aload_n 0, 1) := by decide +kernel
theorem dL_build_32 : decode cL_build 32 = .ok (.aload_n 2, 1) := by decide +kernel
theorem dL_build_33 : decode cL_build 33 = .ok (.aload_n 1, 1) := by decide +kernel
theorem dL_build_34 : decode cL_build 34 = .ok (.iload 4, 2) := by decide +kernel
theorem dL_build_36 : decode cL_build 36 = .ok (.bipush 16, 2) := by decide +kernel
theorem dL_build_38 : decode cL_build 38 = .ok (.irem, 1) := by decide +kernel
theorem dL_build_39 : decode cL_build 39 = .ok (.invokestatic 64, 3) := by decide +kernel
theorem dL_build_42 : decode cL_build 42 = .ok (.iload 4, 2) := by decide +kernel
theorem dL_build_44 : decode cL_build 44 = .ok (.bipush 16, 2) := by decide +kernel
theorem dL_build_46 : decode cL_build 46 = .ok (.idiv, 1) := by decide +kernel
theorem dL_build_47 : decode cL_build 47 = .ok (.iconst 3, 1) := by decide +kernel
theorem dL_build_48 : decode cL_build 48 = .ok (.imul, 1) := by decide +kernel
theorem dL_build_49 : decode cL_build 49 = .ok (.ishr, 1) := by decide +kernel
theorem dL_build_50 : decode cL_build 50 = .ok (.sipush 683, 3) := by decide +kernel
theorem dL_build_53 : decode cL_build 53 = .ok (.iload 4, 2) := by decide +kernel
theorem dL_build_55 : decode cL_build 55 = .ok (.imul, 1) := by decide +kernel
theorem dL_build_56 : decode cL_build 56 = .ok (.iadd, 1) := by decide +kernel
theorem dL_build_57 : decode cL_build 57 = .ok (.invokestatic 68, 3) := by decide +kernel
theorem dL_build_60 : decode cL_build 60 = .ok (.ifCond .ne 5, 3) := by decide +kernel
theorem dL_build_63 : decode cL_build 63 = .ok (.aconst_null, 1) := by decide +kernel
theorem dL_build_64 : decode cL_build 64 = .ok (.areturn, 1) := by decide +kernel
theorem dL_build_65 : decode cL_build 65 = .ok (.iinc 4 1, 3) := by decide +kernel
theorem dL_build_68 : decode cL_build 68 = .ok (.goto (-43), 3) := by decide +kernel
theorem dL_build_71 : decode cL_build 71 = .ok (.aload_n 2, 1) := by decide +kernel
theorem dL_build_72 : decode cL_build 72 = .ok (.areturn, 1) := by decide +kernel
