theorem dL_cell_7 : decode cL_cell 7 = .ok (.iload_n 1, 1) := by decide +kernel
theorem dL_cell_8 : decode cL_cell 8 = .ok (.iaload, 1) := by decide +kernel
theorem dL_cell_9 : decode cL_cell 9 = .ok (.goto 10, 3) := by decide +kernel
theorem dL_cell_12 : decode cL_cell 12 = .ok (.ldc 7, 2) := by decide +kernel
theorem dL_cell_14 : decode cL_cell 14 = .ok (.iload_n 1, 1) := by decide +kernel
theorem dL_cell_15 : decode cL_cell 15 = .ok (.bipush 41, 2) := by decide +kernel
theorem dL_cell_17 : decode cL_cell 17 = .ok (.iadd, 1) := by decide +kernel
theorem dL_cell_18 : decode cL_cell 18 = .ok (.imul, 1) := by decide +kernel
theorem dL_cell_19 : decode cL_cell 19 = .ok (.ldc 8, 2) := by decide +kernel
theorem dL_cell_21 : decode cL_cell 21 = .ok (.iand, 1) := by decide +kernel
theorem dL_cell_22 : decode cL_cell 22 = .ok (.ireturn, 1) := by decide +kernel
theorem dL_holds_0 : decode cL_holds 0 = .ok (.aload_n 0, 1) := by decide +kernel
theorem dL_holds_1 : decode cL_holds 1 = .ok (.iconst 0, 1) := by decide +kernel
theorem dL_holds_2 : decode cL_holds 2 = .ok (.invokevirtual 9, 3) := by decide +kernel
theorem dL_holds_5 : decode cL_holds 5 = .ok (.istore_n 1, 1) := by decide +kernel
theorem dL_holds_6 : decode cL_holds 6 = .ok (.iload_n 1, 1) := by decide +kernel
theorem dL_holds_7 : decode cL_holds 7 = .ok (.iconst 1, 1) := by decide +kernel
theorem dL_holds_8 : decode cL_holds 8 = .ok (.if_icmp .eq 8, 3) := by decide +kernel
theorem dL_holds_11 : decode cL_holds 11 = .ok (.iload_n 1, 1) := by decide +kernel
theorem dL_holds_12 : decode cL_holds 12 = .ok (.iconst 2, 1) := by decide +kernel
theorem dL_holds_13 : decode cL_holds 13 = .ok (.if_icmp .ne 7, 3) := by decide +kernel
theorem dL_holds_16 : decode cL_holds 16 = .ok (.iconst 1, 1) := by decide +kernel
theorem dL_holds_17 : decode cL_holds 17 = .ok (.goto 4, 3) := by decide +kernel
theorem dL_holds_20 : decode cL_holds 20 = .ok (.iconst 0, 1) := by decide +kernel
theorem dL_holds_21 : decode cL_holds 21 = .ok (.istore_n 2, 1) := by decide +kernel
theorem dL_holds_22 : decode cL_holds 22 = .ok (.iconst 0, 1) := by decide +kernel
theorem dL_holds_23 : decode cL_holds 23 = .ok (.istore_n 3, 1) := by decide +kernel
theorem dL_holds_24 : decode cL_holds 24 = .ok (.iconst 0, 1) := by decide +kernel
theorem dL_holds_25 : decode cL_holds 25 = .ok (.istore 4, 2) := by decide +kernel
theorem dL_holds_27 : decode cL_holds 27 = .ok (.iconst 0, 1) := by decide +kernel
theorem dL_holds_28 : decode cL_holds 28 = .ok (.istore 5, 2) := by decide +kernel
theorem dL_holds_30 : decode cL_holds 30 = .ok (.iconst 0, 1) := by decide +kernel
theorem dL_holds_31 : decode cL_holds 31 = .ok (.istore 6, 2) := by decide +kernel
theorem dL_holds_33 : decode cL_holds 33 = .ok (.aload_n 0, 1) := by decide +kernel
theorem dL_holds_34 : decode cL_holds 34 = .ok (.iconst 2, 1) := by decide +kernel
theorem dL_holds_35 : decode cL_holds 35 = .ok (.invokevirtual 9, 3) := by decide +kernel
theorem dL_holds_38 : decode cL_holds 38 = .ok (.ifCond .lt 7, 3) := by decide +kernel
theorem dL_holds_41 : decode cL_holds 41 = .ok (.iconst 1, 1) := by decide +kernel
theorem dL_holds_42 : decode cL_holds 42 = .ok (.goto 4, 3) := by decide +kernel
theorem dL_holds_45 : decode cL_holds 45 = .ok (.iconst 0, 1) := by decide +kernel
theorem dL_holds_46 : decode cL_holds 46 = .ok (.iload_n 1, 1) := by decide +kernel
theorem dL_holds_47 : decode cL_holds 47 = .ok (.iconst 1, 1) := by decide +kernel
theorem dL_holds_48 : decode cL_holds 48 = .ok (.if_icmp .ne 7, 3) := by decide +kernel
theorem dL_holds_51 : decode cL_holds 51 = .ok (.iconst 1, 1) := by decide +kernel
theorem dL_holds_52 : decode cL_holds 52 = .ok (.goto 4, 3) := by decide +kernel
theorem dL_holds_55 : decode cL_holds 55 = .ok (.iconst 0, 1) := by decide +kernel
theorem dL_holds_56 : decode cL_holds 56 = .ok (.if_icmp .ne 49, 3) := by decide +kernel
theorem dL_holds_59 : decode cL_holds 59 = .ok (.aload_n 0, 1) := by decide +kernel
theorem dL_holds_60 : decode cL_holds 60 = .ok (.iconst 3, 1) := by decide +kernel
theorem dL_holds_61 : decode cL_holds 61 = .ok (.invokevirtual 9, 3) := by decide +kernel
theorem dL_holds_64 : decode cL_holds 64 = .ok (.ifCond .lt 41, 3) := by decide +kernel
theorem dL_holds_67 : decode cL_holds 67 = .ok (.aload_n 0, 1) := by decide +kernel
theorem dL_holds_68 : decode cL_holds 68 = .ok (.iconst 3, 1) := by decide +kernel
theorem dL_holds_69 : decode cL_holds 69 = .ok (.invokevirtual 9, 3) := by decide +kernel
theorem dL_holds_72 : decode cL_holds 72 = .ok (.iload_n 2, 1) := by decide +kernel
theorem dL_holds_73 : decode cL_holds 73 = .ok (.ifCond .eq 8, 3) := by decide +kernel
theorem dL_holds_76 : decode cL_holds 76 = .ok (.bipush 8, 2) := by decide +kernel
theorem dL_holds_78 : decode cL_holds 78 = .ok (.goto 4, 3) := by decide +kernel
theorem dL_holds_81 : decode cL_holds 81 = .ok (.iconst 0, 1) := by decide +kernel
theorem dL_holds_82 : decode cL_holds 82 = .ok (.if_icmp .gt 23, 3) := by decide +kernel
theorem dL_holds_85 : decode cL_holds 85 = .ok (.aload_n 0, 1) := by decide +kernel
theorem dL_holds_86 : decode cL_holds 86 = .ok (.invokevirtual 15, 3) := by decide +kernel
theorem dL_holds_89 : decode cL_holds 89 = .ok (.ifCond .lt 7, 3) := by decide +kernel
theorem dL_holds_92 : decode cL_holds 92 = .ok (.iconst 1, 1) := by decide +kernel
theorem dL_holds_93 : decode cL_holds 93 = .ok (.goto 4, 3) := by decide +kernel
theorem dL_holds_96 : decode cL_holds 96 = .ok (.iconst 0, 1) := by decide +kernel
theorem dL_holds_97 : decode cL_holds 97 = .ok (.iload_n 2, 1) := by decide +kernel
theorem dL_holds_98 : decode cL_holds 98 = .ok (.if_icmp .ne 7, 3) := by decide +kernel
theorem dL_holds_101 : decode cL_holds 101 = .ok (.iconst 1, 1) := by decide +kernel
theorem dL_holds_102 : decode cL_holds 102 = .ok (.goto 4, 3) := by decide +kernel
theorem dL_holds_105 : decode cL_holds 105 = .ok (.iconst 0, 1) := by decide +kernel
theorem dL_holds_106 : decode cL_holds 106 = .ok (.istore 7, 2) := by decide +kernel
theorem dL_holds_108 : decode cL_holds 108 = .ok (.iconst 0, 1) := by decide +kernel
theorem dL_holds_109 : decode cL_holds 109 = .ok (.istore 8, 2) := by decide +kernel
theorem dL_holds_111 : decode cL_holds 111 = .ok (.iload 8, 2) := by decide +kernel
theorem dL_holds_113 : decode cL_holds 113 = .ok (.bipush 31, 2) := by decide +kernel
theorem dL_holds_115 : decode cL_holds 115 = .ok (.if_icmp .ge 338, 3) := by decide +kernel
theorem dL_holds_118 : decode cL_holds 118 = .ok (.iload 7, 2) := by decide +kernel
theorem dL_holds_120 : decode cL_holds 120 = .ok (.ifCond .eq 333, 3) := by decide +kernel
theorem dL_holds_123 : decode cL_holds 123 = .ok (.aload_n 0, 1) := by decide +kernel
theorem dL_holds_124 : decode cL_holds 124 = .ok (.iload 8, 2) := by decide +kernel
theorem dL_holds_126 : decode cL_holds 126 = .ok (.iconst 0, 1) := by decide +kernel
theorem dL_holds_127 : decode cL_holds 127 = .ok (.iconst 0, 1) := by decide +kernel
theorem dL_holds_128 : decode cL_holds 128 = .ok (.invokevirtual 19, 3) := by decide +kernel
theorem dL_holds_131 : decode cL_holds 131 = .ok (.istore 9, 2) := by decide +kernel
theorem dL_holds_133 : decode cL_holds 133 = .ok (.aload_n 0, 1) := by decide +kernel
theorem dL_holds_134 : decode cL_holds 134 = .ok (.iload 8, 2) := by decide +kernel
theorem dL_holds_136 : decode cL_holds 136 = .ok (.iconst 1, 1) := by decide +kernel
theorem dL_holds_137 : decode cL_holds 137 = .ok (.iconst 0, 1) := by decide +kernel
theorem dL_holds_138 : decode cL_holds 138 = .ok (.invokevirtual 19, 3) := by decide +kernel
theorem dL_holds_141 : decode cL_holds 141 = .ok (.istore 10, 2) := by decide +kernel
theorem dL_holds_143 : decode cL_holds 143 = .ok (.iload 9, 2) := by decide +kernel
theorem dL_holds_145 : decode cL_holds 145 = .ok (.ifCond .lt 7, 3) := by decide +kernel
theorem dL_holds_148 : decode cL_holds 148 = .ok (.iconst 1, 1) := by decide +kernel
theorem dL_holds_149 : decode cL_holds 149 = .ok (.goto 4, 3) := by decide +kernel
theorem dL_holds_152 : decode cL_holds 152 = .ok (.iconst 0, 1) := by decide +kernel
theorem dL_holds_153 : decode cL_holds 153 = .ok (.iload_n 1, 1) := by decide +kernel
theorem dL_holds_154 : decode cL_holds 154 = .ok (.iconst 3, 1) := by decide +kernel
theorem dL_holds_155 : decode cL_holds 155 = .ok (.if_icmp .ge 7, 3) := by decide +kernel
theorem dL_holds_158 : decode cL_holds 158 = .ok (.iconst 1, 1) := by decide +kernel
theorem dL_holds_159 : decode cL_holds 159 = .ok (.goto 4, 3) := by decide +kernel
theorem dL_holds_162 : decode cL_holds 162 = .ok (.iconst 0, 1) := by decide +kernel
theorem dL_holds_163 : decode cL_holds 163 = .ok (.if_icmp .ne 49, 3) := by decide +kernel
theorem dL_holds_166 : decode cL_holds 166 = .ok (.iload 10, 2) := by decide +kernel
theorem dL_holds_168 : decode cL_holds 168 = .ok (.ifCond .lt 7, 3) := by decide +kernel
theorem dL_holds_171 : decode cL_holds 171 = .ok (.iconst 1, 1) := by decide +kernel
theorem dL_holds_172 : decode cL_holds 172 = .ok (.goto 4, 3) := by decide +kernel
theorem dL_holds_175 : decode cL_holds 175 = .ok (.iconst 0, 1) := by decide +kernel
theorem dL_holds_176 : decode cL_holds 176 = .ok (.iload_n 1, 1) := by decide +kernel
theorem dL_holds_177 : decode cL_holds 177 = .ok (.ifCond .le 7, 3) := by decide +kernel
theorem dL_holds_180 : decode cL_holds 180 = .ok (.iconst 1, 1) := by decide +kernel
theorem dL_holds_181 : decode cL_holds 181 = .ok (.goto 4, 3) := by decide +kernel
theorem dL_holds_184 : decode cL_holds 184 = .ok (.iconst 0, 1) := by decide +kernel
theorem dL_holds_185 : decode cL_holds 185 = .ok (.if_icmp .ne 27, 3) := by decide +kernel
theorem dL_holds_188 : decode cL_holds 188 = .ok (.iload 9, 2) := by decide +kernel
theorem dL_holds_190 : decode cL_holds 190 = .ok (.aload_n 0, 1) := by decide +kernel
theorem dL_holds_191 : decode cL_holds 191 = .ok (.iconst 1, 1) := by decide +kernel
theorem dL_holds_192 : decode cL_holds 192 = .ok (.invokevirtual 9, 3) := by decide +kernel
theorem dL_holds_195 : decode cL_holds 195 = .ok (.if_icmp .gt 17, 3) := by decide +kernel
theorem dL_holds_198 : decode cL_holds 198 = .ok (.iload 10, 2) := by decide +kernel
theorem dL_holds_200 : decode cL_holds 200 = .ok (.aload_n 0, 1) := by decide +kernel
theorem dL_holds_201 : decode cL_holds 201 = .ok (.iconst 1, 1) := by decide +kernel
theorem dL_holds_202 : decode cL_holds 202 = .ok (.invokevirtual 9, 3) := by decide +kernel
theorem dL_holds_205 : decode cL_holds 205 = .ok (.if_icmp .gt 7, 3) := by decide +kernel
theorem dL_holds_208 : decode cL_holds 208 = .ok (.iconst 1, 1) := by decide +kernel
theorem dL_holds_209 : decode cL_holds 209 = .ok (.goto 4, 3) := by decide +kernel
theorem dL_holds_212 : decode cL_holds 212 = .ok (.iconst 0, 1) := by decide +kernel
theorem dL_holds_213 : decode cL_holds 213 = .ok (.istore 7, 2) := by decide +kernel
theorem dL_holds_215 : decode cL_holds 215 = .ok (.iload 9, 2) := by decide +kernel
theorem dL_holds_217 : decode cL_holds 217 = .ok (.ifCond .lt 100, 3) := by decide +kernel
theorem dL_holds_220 : decode cL_holds 220 = .ok (.aload_n 0, 1) := by decide +kernel
theorem dL_holds_221 : decode cL_holds 221 = .ok (.iload 8, 2) := by decide +kernel
theorem dL_holds_223 : decode cL_holds 223 = .ok (.iconst 0, 1) := by decide +kernel
theorem dL_holds_224 : decode cL_holds 224 = .ok (.iconst 1, 1) := by decide +kernel
theorem dL_holds_225 : decode cL_holds 225 = .ok (.invokevirtual 19, 3) := by decide +kernel
theorem dL_holds_228 : decode cL_holds 228 = .ok (.istore 11, 2) := by decide +kernel
theorem dL_holds_230 : decode cL_holds 230 = .ok (.iload_n 3, 1) := by decide +kernel
theorem dL_holds_231 : decode cL_holds 231 = .ok (.iload 11, 2) := by decide +kernel
theorem dL_holds_233 : decode cL_holds 233 = .ok (.iadd, 1) := by decide +kernel
theorem dL_holds_234 : decode cL_holds 234 = .ok (.istore_n 3, 1) := by decide +kernel
theorem dL_holds_235 : decode cL_holds 235 = .ok (.iload 7, 2) := by decide +kernel
theorem dL_holds_237 : decode cL_holds 237 = .ok (.ifCond .eq 77, 3) := by decide +kernel
theorem dL_holds_240 : decode cL_holds 240 = .ok (.iload 11, 2) := by decide +kernel
theorem dL_holds_242 : decode cL_holds 242 = .ok (.ifCond .eq 8, 3) := by decide +kernel
theorem dL_holds_245 : decode cL_holds 245 = .ok (.iload 9, 2) := by decide +kernel
theorem dL_holds_247 : decode cL_holds 247 = .ok (.ifCond .le 67, 3) := by decide +kernel
theorem dL_holds_250 : decode cL_holds 250 = .ok (.aload_n 0, 1) := by decide +kernel
theorem dL_holds_251 : decode cL_holds 251 = .ok (.iload 8, 2) := by decide +kernel
theorem dL_holds_253 : decode cL_holds 253 = .ok (.iconst 0, 1) := by decide +kernel
theorem dL_holds_254 : decode cL_holds 254 = .ok (.iconst 2, 1) := by decide +kernel
theorem dL_holds_255 : decode cL_holds 255 = .ok (.invokevirtual 19, 3) := by decide +kernel
theorem dL_holds_258 : decode cL_holds 258 = .ok (.ifCond .lt 7, 3) := by decide +kernel
theorem dL_holds_261 : decode cL_holds 261 = .ok (.iconst 1, 1) := by decide +kernel
theorem dL_holds_262 : decode cL_holds 262 = .ok (.goto 4, 3) := by decide +kernel
theorem dL_holds_265 : decode cL_holds 265 = .ok (.iconst 0, 1) := by decide +kernel
theorem dL_holds_266 : decode cL_holds 266 = .ok (.iload 11, 2) := by decide +kernel
theorem dL_holds_268 : decode cL_holds 268 = .ok (.iconst 1, 1) := by decide +kernel
theorem dL_holds_269 : decode cL_holds 269 = .ok (.if_icmp .ne 7, 3) := by decide +kernel
theorem dL_holds_272 : decode cL_holds 272 = .ok (.iconst 1, 1) := by decide +kernel
theorem dL_holds_273 : decode cL_holds 273 = .ok (.goto 4, 3) := by decide +kernel
theorem dL_holds_276 : decode cL_holds 276 = .ok (.iconst 0, 1) := by decide +kernel
theorem dL_holds_277 : decode cL_holds 277 = .ok (.if_icmp .ne 37, 3) := by decide +kernel
theorem dL_holds_280 : decode cL_holds 280 = .ok (.iload 11, 2) := by decide +kernel
theorem dL_holds_282 : decode cL_holds 282 = .ok (.ifCond .eq 28, 3) := by decide +kernel
theorem dL_holds_285 : decode cL_holds 285 = .ok (.aload_n 0, 1) := by decide +kernel
theorem dL_holds_286 : decode cL_holds 286 = .ok (.iload 8, 2) := by decide +kernel
theorem dL_holds_288 : decode cL_holds 288 = .ok (.iconst 0, 1) := by decide +kernel
theorem dL_holds_289 : decode cL_holds 289 = .ok (.iconst 3, 1) := by decide +kernel
theorem dL_holds_290 : decode cL_holds 290 = .ok (.invokevirtual 19, 3) := by decide +kernel
theorem dL_holds_293 : decode cL_holds 293 = .ok (.bipush 9, 2) := by decide +kernel
theorem dL_holds_295 : decode cL_holds 295 = .ok (.if_icmp .gt 19, 3) := by decide +kernel
theorem dL_holds_298 : decode cL_holds 298 = .ok (.aload_n 0, 1) := by decide +kernel
theorem dL_holds_299 : decode cL_holds 299 = .ok (.iload 8, 2) := by decide +kernel
theorem dL_holds_301 : decode cL_holds 301 = .ok (.iconst 0, 1) := by decide +kernel
theorem dL_holds_302 : decode cL_holds 302 = .ok (.iconst 4, 1) := by decide +kernel
theorem dL_holds_303 : decode cL_holds 303 = .ok (.invokevirtual 19, 3) := by decide +kernel
theorem dL_holds_306 : decode cL_holds 306 = .ok (.iconst 1, 1) := by decide +kernel
theorem dL_holds_307 : decode cL_holds 307 = .ok (.if_icmp .gt 7, 3) := by decide +kernel
theorem dL_holds_310 : decode cL_holds 310 = .ok (.iconst 1, 1) := by decide +kernel
theorem dL_holds_311 : decode cL_holds 311 = .ok (.goto 4, 3) := by decide +kernel
theorem dL_holds_314 : decode cL_holds 314 = .ok (.iconst 0, 1) := by decide +kernel
theorem dL_holds_315 : decode cL_holds 315 = .ok (.istore 7, 2) := by decide +kernel
theorem dL_holds_317 : decode cL_holds 317 = .ok (.iload 10, 2) := by decide +kernel
theorem dL_holds_319 : decode cL_holds 319 = .ok (.ifCond .lt 128, 3) := by decide +kernel
theorem dL_holds_322 : decode cL_holds 322 = .ok (.aload_n 0, 1) := by decide +kernel
theorem dL_holds_323 : decode cL_holds 323 = .ok (.iload 8, 2) := by decide +kernel
theorem dL_holds_325 : decode cL_holds 325 = .ok (.iconst 1, 1) := by decide +kernel
theorem dL_holds_326 : decode cL_holds 326 = .ok (.iconst 1, 1) := by decide +kernel
theorem dL_holds_327 : decode cL_holds 327 = .ok (.invokevirtual 19, 3) := by decide +kernel
theorem dL_holds_330 : decode cL_holds 330 = .ok (.istore 11, 2) := by decide +kernel
theorem dL_holds_332 : decode cL_holds 332 = .ok (.iload 4, 2) := by decide +kernel
theorem dL_holds_334 : decode cL_holds 334 = .ok (.iload 11, 2) := by decide +kernel
theorem dL_holds_336 : decode cL_holds 336 = .ok (.iadd, 1) := by decide +kernel
theorem dL_holds_337 : decode cL_holds 337 = .ok (.istore 4, 2) := by decide +kernel
theorem dL_holds_339 : decode cL_holds 339 = .ok (.iload 6, 2) := by decide +kernel
theorem dL_holds_341 : decode cL_holds 341 = .ok (.iload 10, 2) := by decide +kernel
theorem dL_holds_343 : decode cL_holds 343 = .ok (.ifCond .le 7, 3) := by decide +kernel
theorem dL_holds_346 : decode cL_holds 346 = .ok (.iconst 1, 1) := by decide +kernel
theorem dL_holds_347 : decode cL_holds 347 = .ok (.goto 4, 3) := by decide +kernel
theorem dL_holds_350 : decode cL_holds 350 = .ok (.iconst 0, 1) := by decide +kernel
theorem dL_holds_351 : decode cL_holds 351 = .ok (.iadd, 1) := by decide +kernel
theorem dL_holds_352 : decode cL_holds 352 = .ok (.istore 6, 2) := by decide +kernel
theorem dL_holds_354 : decode cL_holds 354 = .ok (.iload 5, 2) := by decide +kernel
theorem dL_holds_356 : decode cL_holds 356 = .ok (.iload 11, 2) := by decide +kernel
theorem dL_holds_358 : decode cL_holds 358 = .ok (.iconst 1, 1) := by decide +kernel
theorem dL_holds_359 : decode cL_holds 359 = .ok (.if_icmp .ne 19, 3) := by decide +kernel
theorem dL_holds_362 : decode cL_holds 362 = .ok (.aload_n 0, 1) := by decide +kernel
theorem dL_holds_363 : decode cL_holds 363 = .ok (.iload 8, 2) := by decide +kernel
theorem dL_holds_365 : decode cL_holds 365 = .ok (.iconst 1, 1) := by decide +kernel
theorem dL_holds_366 : decode cL_holds 366 = .ok (.iconst 3, 1) := by decide +kernel
theorem dL_holds_367 : decode cL_holds 367 = .ok (.invokevirtual 19, 3) := by decide +kernel
theorem dL_holds_370 : decode cL_holds 370 = .ok (.iconst 1, 1) := by decide +kernel
theorem dL_holds_371 : decode cL_holds 371 = .ok (.if_icmp .le 7, 3) := by decide +kernel
theorem dL_holds_374 : decode cL_holds 374 = .ok (.iconst 1, 1) := by decide +kernel
theorem dL_holds_375 : decode cL_holds 375 = .ok (.goto 4, 3) := by decide +kernel
theorem dL_holds_378 : decode cL_holds 378 = .ok (.iconst 0, 1) := by decide +kernel
theorem dL_holds_379 : decode cL_holds 379 = .ok (.iadd, 1) := by decide +kernel
theorem dL_holds_380 : decode cL_holds 380 = .ok (.istore 5, 2) := by decide +kernel
theorem dL_holds_382 : decode cL_holds 382 = .ok (.iload 7, 2) := by decide +kernel
theorem dL_holds_384 : decode cL_holds 384 = .ok (.ifCond .eq 60, 3) := by decide +kernel
theorem dL_holds_387 : decode cL_holds 387 = .ok (.iload 11, 2) := by decide +kernel
theorem dL_holds_389 : decode cL_holds 389 = .ok (.ifCond .eq 8, 3) := by decide +kernel
theorem dL_holds_392 : decode cL_holds 392 = .ok (.iload 10, 2) := by decide +kernel
theorem dL_holds_394 : decode cL_holds 394 = .ok (.ifCond .le 50, 3) := by decide +kernel
theorem dL_holds_397 : decode cL_holds 397 = .ok (.aload_n 0, 1) := by decide +kernel
theorem dL_holds_398 : decode cL_holds 398 = .ok (.iload 8, 2) := by decide +kernel
theorem dL_holds_400 : decode cL_holds 400 = .ok (.iconst 1, 1) := by decide +kernel
theorem dL_holds_401 : decode cL_holds 401 = .ok (.iconst 4, 1) := by decide +kernel
theorem dL_holds_402 : decode cL_holds 402 = .ok (.invokevirtual 19, 3) := by decide +kernel
theorem dL_holds_405 : decode cL_holds 405 = .ok (.ldc 23, 2) := by decide +kernel
theorem dL_holds_407 : decode cL_holds 407 = .ok (.if_icmp .ne 37, 3) := by decide +kernel
theorem dL_holds_410 : decode cL_holds 410 = .ok (.aload_n 0, 1) := by decide +kernel
theorem dL_holds_411 : decode cL_holds 411 = .ok (.iload 8, 2) := by decide +kernel
theorem dL_holds_413 : decode cL_holds 413 = .ok (.iconst 1, 1) := by decide +kernel
theorem dL_holds_414 : decode cL_holds 414 = .ok (.iconst 2, 1) := by decide +kernel
theorem dL_holds_415 : decode cL_holds 415 = .ok (.invokevirtual 19, 3) := by decide +kernel
theorem dL_holds_418 : decode cL_holds 418 = .ok (.ifCond .lt 7, 3) := by decide +kernel
theorem dL_holds_421 : decode cL_holds 421 = .ok (.iconst 1, 1) := by decide +kernel
theorem dL_holds_422 : decode cL_holds 422 = .ok (.goto 4, 3) := by decide +kernel
theorem dL_holds_425 : decode cL_holds 425 = .ok (.iconst 0, 1) := by decide +kernel
theorem dL_holds_426 : decode cL_holds 426 = .ok (.iload 11, 2) := by decide +kernel
theorem dL_holds_428 : decode cL_holds 428 = .ok (.iconst 1, 1) := by decide +kernel
theorem dL_holds_429 : decode cL_holds 429 = .ok (.if_icmp .ne 7, 3) := by decide +kernel
theorem dL_holds_432 : decode cL_holds 432 = .ok (.iconst 1, 1) := by decide +kernel
theorem dL_holds_433 : decode cL_holds 433 = .ok (.goto 4, 3) := by decide +kernel
theorem dL_holds_436 : decode cL_holds 436 = .ok (.iconst 0, 1) := by decide +kernel
theorem dL_holds_437 : decode cL_holds 437 = .ok (.if_icmp .ne 7, 3) := by decide +kernel
theorem dL_holds_440 : decode cL_holds 440 = .ok (.iconst 1, 1) := by decide +kernel
theorem dL_holds_441 : decode cL_holds 441 = .ok (.goto 4, 3) := by decide +kernel
theorem dL_holds_444 : decode cL_holds 444 = .ok (.iconst 0, 1) := by decide +kernel
theorem dL_holds_445 : decode cL_holds 445 = .ok (.istore 7, 2) := by decide +kernel
theorem dL_holds_447 : decode cL_holds 447 = .ok (.iinc 8 1, 3) := by decide +kernel
theorem dL_holds_450 : decode cL_holds 450 = .ok (.goto (-339), 3) := by decide +kernel
theorem dL_holds_453 : decode cL_holds 453 = .ok (.iload_n 1, 1) := by decide +kernel
theorem dL_holds_454 : decode cL_holds 454 = .ok (.iconst 1, 1) := by decide +kernel
theorem dL_holds_455 : decode cL_holds 455 = .ok (.if_icmp .ne 32, 3) := by decide +kernel
theorem dL_holds_458 : decode cL_holds 458 = .ok (.aload_n 0, 1) := by decide +kernel
theorem dL_holds_459 : decode cL_holds 459 = .ok (.iconst 2, 1) := by decide +kernel
theorem dL_holds_460 : decode cL_holds 460 = .ok (.invokevirtual 9, 3) := by decide +kernel
theorem dL_holds_463 : decode cL_holds 463 = .ok (.bipush 31, 2) := by decide +kernel
theorem dL_holds_465 : decode cL_holds 465 = .ok (.if_icmp .ne 22, 3) := by decide +kernel
theorem dL_holds_468 : decode cL_holds 468 = .ok (.aload_n 0, 1) := by decide +kernel
theorem dL_holds_469 : decode cL_holds 469 = .ok (.iconst 3, 1) := by decide +kernel
theorem dL_holds_470 : decode cL_holds 470 = .ok (.invokevirtual 9, 3) := by decide +kernel
theorem dL_holds_473 : decode cL_holds 473 = .ok (.ifCond .ne 14, 3) := by decide +kernel
theorem dL_holds_476 : decode cL_holds 476 = .ok (.aload_n 0, 1) := by decide +kernel
theorem dL_holds_477 : decode cL_holds 477 = .ok (.invokevirtual 15, 3) := by decide +kernel
theorem dL_holds_480 : decode cL_holds 480 = .ok (.ifCond .ne 7, 3) := by decide +kernel
theorem dL_holds_483 : decode cL_holds 483 = .ok (.iconst 1, 1) := by decide +kernel
theorem dL_holds_484 : decode cL_holds 484 = .ok (.goto 4, 3) := by decide +kernel
theorem dL_holds_487 : decode cL_holds 487 = .ok (.iconst 0, 1) := by decide +kernel
theorem dL_holds_488 : decode cL_holds 488 = .ok (.istore 8, 2) := by decide +kernel
theorem dL_holds_490 : decode cL_holds 490 = .ok (.iload 7, 2) := by decide +kernel
theorem dL_holds_492 : decode cL_holds 492 = .ok (.ifCond .eq 79, 3) := by decide +kernel
theorem dL_holds_495 : decode cL_holds 495 = .ok (.aload_n 0, 1) := by decide +kernel
theorem dL_holds_496 : decode cL_holds 496 = .ok (.iconst 4, 1) := by decide +kernel
theorem dL_holds_497 : decode cL_holds 497 = .ok (.invokevirtual 9, 3) := by decide +kernel
theorem dL_holds_500 : decode cL_holds 500 = .ok (.iload_n 3, 1) := by decide +kernel
theorem dL_holds_501 : decode cL_holds 501 = .ok (.if_icmp .ne 70, 3) := by decide +kernel
theorem dL_holds_504 : decode cL_holds 504 = .ok (.aload_n 0, 1) := by decide +kernel
theorem dL_holds_505 : decode cL_holds 505 = .ok (.iconst 5, 1) := by decide +kernel
theorem dL_holds_506 : decode cL_holds 506 = .ok (.invokevirtual 9, 3) := by decide +kernel
theorem dL_holds_509 : decode cL_holds 509 = .ok (.iload 4, 2) := by decide +kernel
theorem dL_holds_511 : decode cL_holds 511 = .ok (.if_icmp .ne 60, 3) := by decide +kernel
theorem dL_holds_514 : decode cL_holds 514 = .ok (.aload_n 0, 1) := by decide +kernel
theorem dL_holds_515 : decode cL_holds 515 = .ok (.bipush 6, 2) := by decide +kernel
theorem dL_holds_517 : decode cL_holds 517 = .ok (.invokevirtual 9, 3) := by decide +kernel
theorem dL_holds_520 : decode cL_holds 520 = .ok (.iload 5, 2) := by decide +kernel
theorem dL_holds_522 : decode cL_holds 522 = .ok (.if_icmp .ne 49, 3) := by decide +kernel
theorem dL_holds_525 : decode cL_holds 525 = .ok (.aload_n 0, 1) := by decide +kernel
theorem dL_holds_526 : decode cL_holds 526 = .ok (.bipush 7, 2) := by decide +kernel
theorem dL_holds_528 : decode cL_holds 528 = .ok (.invokevirtual 9, 3) := by decide +kernel
theorem dL_holds_531 : decode cL_holds 531 = .ok (.iload 6, 2) := by decide +kernel
theorem dL_holds_533 : decode cL_holds 533 = .ok (.if_icmp .ne 38, 3) := by decide +kernel
theorem dL_holds_536 : decode cL_holds 536 = .ok (.aload_n 0, 1) := by decide +kernel
theorem dL_holds_537 : decode cL_holds 537 = .ok (.bipush 8, 2) := by decide +kernel
theorem dL_holds_539 : decode cL_holds 539 = .ok (.invokevirtual 9, 3) := by decide +kernel
theorem dL_holds_542 : decode cL_holds 542 = .ok (.iload 8, 2) := by decide +kernel
theorem dL_holds_544 : decode cL_holds 544 = .ok (.ifCond .eq 7, 3) := by decide +kernel
theorem dL_holds_547 : decode cL_holds 547 = .ok (.iconst 1, 1) := by decide +kernel
theorem dL_holds_548 : decode cL_holds 548 = .ok (.goto 4, 3) := by decide +kernel
theorem dL_holds_551 : decode cL_holds 551 = .ok (.iconst 0, 1) := by decide +kernel
theorem dL_holds_552 : decode cL_holds 552 = .ok (.if_icmp .ne 19, 3) := by decide +kernel
theorem dL_holds_555 : decode cL_holds 555 = .ok (.iload 8, 2) := by decide +kernel
theorem dL_holds_557 : decode cL_holds 557 = .ok (.ifCond .eq 10, 3) := by decide +kernel
theorem dL_holds_560 : decode cL_holds 560 = .ok (.aload_n 0, 1) := by decide +kernel
theorem dL_holds_561 : decode cL_holds 561 = .ok (.invokevirtual 24, 3) := by decide +kernel
theorem dL_holds_564 : decode cL_holds 564 = .ok (.ifCond .ne 7, 3) := by decide +kernel
theorem dL_holds_567 : decode cL_holds 567 = .ok (.iconst 1, 1) := by decide +kernel
theorem dL_holds_568 : decode cL_holds 568 = .ok (.goto 4, 3) := by decide +kernel
theorem dL_holds_571 : decode cL_holds 571 = .ok (.iconst 0, 1) := by decide +kernel
theorem dL_holds_572 : decode cL_holds 572 = .ok (.ireturn, 1) := by decide +kernel
theorem dL_writes_0 : decode cL_writes 0 = .ok (.aload_n 0, 1) := by decide +kernel
theorem dL_writes_1 : decode cL_writes 1 = .ok (.iconst 1, 1) := by decide +kernel
theorem dL_writes_2 : decode cL_writes 2 = .ok (.invokevirtual 9, 3) := by decide +kernel
theorem dL_writes_5 : decode cL_writes 5 = .ok (.istore_n 3, 1) := by decide +kernel
theorem dL_writes_6 : decode cL_writes 6 = .ok (.aload_n 0, 1) := by decide +kernel
theorem dL_writes_7 : decode cL_writes 7 = .ok (.iconst 3, 1) := by decide +kernel
theorem dL_writes_8 : decode cL_writes 8 = .ok (.invokevirtual 9, 3) := by decide +kernel
theorem dL_writes_11 : decode cL_writes 11 = .ok (.istore 4, 2) := by decide +kernel
theorem dL_writes_13 : decode cL_writes 13 = .ok (.aload_n 0, 1) := by decide +kernel
theorem dL_writes_14 : decode cL_writes 14 = .ok (.iconst 0, 1) := by decide +kernel
theorem dL_writes_15 : decode cL_writes 15 = .ok (.invokevirtual 9, 3) := by decide +kernel
theorem dL_writes_18 : decode cL_writes 18 = .ok (.iconst 1, 1) := by decide +kernel
theorem dL_writes_19 : decode cL_writes 19 = .ok (.if_icmp .eq 12, 3) := by decide +kernel
theorem dL_writes_22 : decode cL_writes 22 = .ok (.aload_n 0, 1) := by decide +kernel
theorem dL_writes_23 : decode cL_writes 23 = .ok (.iconst 0, 1) := by decide +kernel
theorem dL_writes_24 : decode cL_writes 24 = .ok (.invokevirtual 9, 3) := by decide +kernel
theorem dL_writes_27 : decode cL_writes 27 = .ok (.iconst 2, 1) := by decide +kernel
theorem dL_writes_28 : decode cL_writes 28 = .ok (.if_icmp .ne 7, 3) := by decide +kernel
theorem dL_writes_31 : decode cL_writes 31 = .ok (.iconst 1, 1) := by decide +kernel
theorem dL_writes_32 : decode cL_writes 32 = .ok (.goto 4, 3) := by decide +kernel
theorem dL_writes_35 : decode cL_writes 35 = .ok (.iconst 0, 1) := by decide +kernel
theorem dL_writes_36 : decode cL_writes 36 = .ok (.istore 5, 2) := by decide +kernel
theorem dL_writes_38 : decode cL_writes 38 = .ok (.iload_n 2, 1) := by decide +kernel
theorem dL_writes_39 : decode cL_writes 39 = .ok (.iconst 2, 1) := by decide +kernel
theorem dL_writes_40 : decode cL_writes 40 = .ok (.irem, 1) := by decide +kernel
theorem dL_writes_41 : decode cL_writes 41 = .ok (.iconst 1, 1) := by decide +kernel
theorem dL_writes_42 : decode cL_writes 42 = .ok (.if_icmp .ne 7, 3) := by decide +kernel
theorem dL_writes_45 : decode cL_writes 45 = .ok (.iconst 1, 1) := by decide +kernel
theorem dL_writes_46 : decode cL_writes 46 = .ok (.goto 4, 3) := by decide +kernel
theorem dL_writes_49 : decode cL_writes 49 = .ok (.iconst 0, 1) := by decide +kernel
theorem dL_writes_50 : decode cL_writes 50 = .ok (.istore 6, 2) := by decide +kernel
theorem dL_writes_52 : decode cL_writes 52 = .ok (.iload_n 2, 1) := by decide +kernel
theorem dL_writes_53 : decode cL_writes 53 = .ok (.iconst 2, 1) := by decide +kernel
theorem dL_writes_54 : decode cL_writes 54 = .ok (.idiv, 1) := by decide +kernel
theorem dL_writes_55 : decode cL_writes 55 = .ok (.sipush 1000, 3) := by decide +kernel
theorem dL_writes_58 : decode cL_writes 58 = .ok (.irem, 1) := by decide +kernel
theorem dL_writes_59 : decode cL_writes 59 = .ok (.istore 7, 2) := by decide +kernel
theorem dL_writes_61 : decode cL_writes 61 = .ok (.iload_n 2, 1) := by decide +kernel
theorem dL_writes_62 : decode cL_writes 62 = .ok (.sipush 2048, 3) := by decide +kernel
theorem dL_writes_65 : decode cL_writes 65 = .ok (.idiv, 1) := by decide +kernel
theorem dL_writes_66 : decode cL_writes 66 = .ok (.iconst 4, 1) := by decide +kernel
theorem dL_writes_67 : decode cL_writes 67 = .ok (.irem, 1) := by decide +kernel
theorem dL_writes_68 : decode cL_writes 68 = .ok (.istore 8, 2) := by decide +kernel
theorem dL_writes_70 : decode cL_writes 70 = .ok (.iload 6, 2) := by decide +kernel
theorem dL_writes_72 : decode cL_writes 72 = .ok (.ifCond .eq 15, 3) := by decide +kernel
theorem dL_writes_75 : decode cL_writes 75 = .ok (.aload_n 0, 1) := by decide +kernel
theorem dL_writes_76 : decode cL_writes 76 = .ok (.iload_n 1, 1) := by decide +kernel
theorem dL_writes_77 : decode cL_writes 77 = .ok (.iload 7, 2) := by decide +kernel
theorem dL_writes_79 : decode cL_writes 79 = .ok (.iload 8, 2) := by decide +kernel
theorem dL_writes_81 : decode cL_writes 81 = .ok (.invokevirtual 27, 3) := by decide +kernel
theorem dL_writes_84 : decode cL_writes 84 = .ok (.goto 22, 3) := by decide +kernel
theorem dL_writes_87 : decode cL_writes 87 = .ok (.aload_n 0, 1) := by decide +kernel
theorem dL_writes_88 : decode cL_writes 88 = .ok (.iload_n 1, 1) := by decide +kernel
theorem dL_writes_89 : decode cL_writes 89 = .ok (.iload 7, 2) := by decide +kernel
theorem dL_writes_91 : decode cL_writes 91 = .ok (.bipush 10, 2) := by decide +kernel
theorem dL_writes_93 : decode cL_writes 93 = .ok (.idiv, 1) := by decide +kernel
theorem dL_writes_94 : decode cL_writes 94 = .ok (.iload 7, 2) := by decide +kernel
theorem dL_writes_96 : decode cL_writes 96 = .ok (.bipush 10, 2) := by decide +kernel
theorem dL_writes_98 : decode cL_writes 98 = .ok (.irem, 1) := by decide +kernel
theorem dL_writes_99 : decode cL_writes 99 = .ok (.iload 8, 2) := by decide +kernel
theorem dL_writes_101 : decode cL_writes 101 = .ok (.iconst 2, 1) := by decide +kernel
theorem dL_writes_102 : decode cL_writes 102 = .ok (.irem, 1) := by decide +kernel
theorem dL_writes_103 : decode cL_writes 103 = .ok (.invokevirtual 30, 3) := by decide +kernel
theorem dL_writes_106 : decode cL_writes 106 = .ok (.istore 9, 2) := by decide +kernel
theorem dL_writes_108 : decode cL_writes 108 = .ok (.iload 9, 2) := by decide +kernel
theorem dL_writes_110 : decode cL_writes 110 = .ok (.ifCond .ge 37, 3) := by decide +kernel
theorem dL_writes_113 : decode cL_writes 113 = .ok (.iload 9, 2) := by decide +kernel
theorem dL_writes_115 : decode cL_writes 115 = .ok (.ldc 34, 2) := by decide +kernel
theorem dL_writes_117 : decode cL_writes 117 = .ok (.if_icmp .ne 28, 3) := by decide +kernel
theorem dL_writes_120 : decode cL_writes 120 = .ok (.iload 5, 2) := by decide +kernel
theorem dL_writes_122 : decode cL_writes 122 = .ok (.ifCond .eq 23, 3) := by decide +kernel
theorem dL_writes_125 : decode cL_writes 125 = .ok (.iload 4, 2) := by decide +kernel
theorem dL_writes_127 : decode cL_writes 127 = .ok (.bipush 8, 2) := by decide +kernel
theorem dL_writes_129 : decode cL_writes 129 = .ok (.if_icmp .ne 16, 3) := by decide +kernel
theorem dL_writes_132 : decode cL_writes 132 = .ok (.aload_n 0, 1) := by decide +kernel
theorem dL_writes_133 : decode cL_writes 133 = .ok (.iconst 1, 1) := by decide +kernel
theorem dL_writes_134 : decode cL_writes 134 = .ok (.invokevirtual 9, 3) := by decide +kernel
theorem dL_writes_137 : decode cL_writes 137 = .ok (.iload_n 3, 1) := by decide +kernel
theorem dL_writes_138 : decode cL_writes 138 = .ok (.if_icmp .ne 7, 3) := by decide +kernel
theorem dL_writes_141 : decode cL_writes 141 = .ok (.iconst 1, 1) := by decide +kernel
theorem dL_writes_142 : decode cL_writes 142 = .ok (.goto 4, 3) := by decide +kernel
theorem dL_writes_145 : decode cL_writes 145 = .ok (.iconst 0, 1) := by decide +kernel
theorem dL_writes_146 : decode cL_writes 146 = .ok (.ireturn, 1) := by decide +kernel
theorem dL_writes_147 : decode cL_writes 147 = .ok (.iload 9, 2) := by decide +kernel
theorem dL_writes_149 : decode cL_writes 149 = .ok (.iload_n 3, 1) := by decide +kernel
theorem dL_writes_150 : decode cL_writes 150 = .ok (.iconst 1, 1) := by decide +kernel
theorem dL_writes_151 : decode cL_writes 151 = .ok (.iadd, 1) := by decide +kernel
theorem dL_writes_152 : decode cL_writes 152 = .ok (.if_icmp .ne 28, 3) := by decide +kernel
theorem dL_writes_155 : decode cL_writes 155 = .ok (.aload_n 0, 1) := by decide +kernel
theorem dL_writes_156 : decode cL_writes 156 = .ok (.iconst 3, 1) := by decide +kernel
theorem dL_writes_157 : decode cL_writes 157 = .ok (.invokevirtual 9, 3) := by decide +kernel
theorem dL_writes_160 : decode cL_writes 160 = .ok (.iload 5, 2) := by decide +kernel
theorem dL_writes_162 : decode cL_writes 162 = .ok (.ifCond .eq 10, 3) := by decide +kernel
theorem dL_writes_165 : decode cL_writes 165 = .ok (.iload 4, 2) := by decide +kernel
theorem dL_writes_167 : decode cL_writes 167 = .ok (.iconst 1, 1) := by decide +kernel
theorem dL_writes_168 : decode cL_writes 168 = .ok (.iadd, 1) := by decide +kernel
theorem dL_writes_169 : decode cL_writes 169 = .ok (.goto 4, 3) := by decide +kernel
theorem dL_writes_172 : decode cL_writes 172 = .ok (.iconst 0, 1) := by decide +kernel
theorem dL_writes_173 : decode cL_writes 173 = .ok (.if_icmp .ne 7, 3) := by decide +kernel
theorem dL_writes_176 : decode cL_writes 176 = .ok (.iconst 1, 1) := by decide +kernel
theorem dL_writes_177 : decode cL_writes 177 = .ok (.goto 4, 3) := by decide +kernel
theorem dL_writes_180 : decode cL_writes 180 = .ok (.iconst 0, 1) := by decide +kernel
theorem dL_writes_181 : decode cL_writes 181 = .ok (.istore 10, 2) := by decide +kernel
theorem dL_writes_183 : decode cL_writes 183 = .ok (.iload 10, 2) := by decide +kernel
theorem dL_writes_185 : decode cL_writes 185 = .ok (.ifCond .eq 49, 3) := by decide +kernel
theorem dL_writes_188 : decode cL_writes 188 = .ok (.aload_n 0, 1) := by decide +kernel
theorem dL_writes_189 : decode cL_writes 189 = .ok (.iload_n 1, 1) := by decide +kernel
theorem dL_writes_190 : decode cL_writes 190 = .ok (.iconst 0, 1) := by decide +kernel
theorem dL_writes_191 : decode cL_writes 191 = .ok (.iconst 0, 1) := by decide +kernel
theorem dL_writes_192 : decode cL_writes 192 = .ok (.invokevirtual 35, 3) := by decide +kernel
theorem dL_writes_195 : decode cL_writes 195 = .ok (.iload 7, 2) := by decide +kernel
theorem dL_writes_197 : decode cL_writes 197 = .ok (.bipush 10, 2) := by decide +kernel
theorem dL_writes_199 : decode cL_writes 199 = .ok (.idiv, 1) := by decide +kernel
theorem dL_writes_200 : decode cL_writes 200 = .ok (.if_icmp .ne 34, 3) := by decide +kernel
theorem dL_writes_203 : decode cL_writes 203 = .ok (.aload_n 0, 1) := by decide +kernel
theorem dL_writes_204 : decode cL_writes 204 = .ok (.iload_n 1, 1) := by decide +kernel
theorem dL_writes_205 : decode cL_writes 205 = .ok (.iconst 0, 1) := by decide +kernel
theorem dL_writes_206 : decode cL_writes 206 = .ok (.iconst 1, 1) := by decide +kernel
theorem dL_writes_207 : decode cL_writes 207 = .ok (.invokevirtual 35, 3) := by decide +kernel
theorem dL_writes_210 : decode cL_writes 210 = .ok (.iload 7, 2) := by decide +kernel
theorem dL_writes_212 : decode cL_writes 212 = .ok (.bipush 10, 2) := by decide +kernel
theorem dL_writes_214 : decode cL_writes 214 = .ok (.irem, 1) := by decide +kernel
theorem dL_writes_215 : decode cL_writes 215 = .ok (.if_icmp .ne 19, 3) := by decide +kernel
theorem dL_writes_218 : decode cL_writes 218 = .ok (.aload_n 0, 1) := by decide +kernel
theorem dL_writes_219 : decode cL_writes 219 = .ok (.iload_n 1, 1) := by decide +kernel
theorem dL_writes_220 : decode cL_writes 220 = .ok (.iconst 1, 1) := by decide +kernel
theorem dL_writes_221 : decode cL_writes 221 = .ok (.iconst 0, 1) := by decide +kernel
theorem dL_writes_222 : decode cL_writes 222 = .ok (.invokevirtual 35, 3) := by decide +kernel
theorem dL_writes_225 : decode cL_writes 225 = .ok (.iload 7, 2) := by decide +kernel
theorem dL_writes_227 : decode cL_writes 227 = .ok (.if_icmp .ne 7, 3) := by decide +kernel
theorem dL_writes_230 : decode cL_writes 230 = .ok (.iconst 1, 1) := by decide +kernel
theorem dL_writes_231 : decode cL_writes 231 = .ok (.goto 4, 3) := by decide +kernel
theorem dL_writes_234 : decode cL_writes 234 = .ok (.iconst 0, 1) := by decide +kernel
theorem dL_writes_235 : decode cL_writes 235 = .ok (.istore 10, 2) := by decide +kernel
theorem dL_writes_237 : decode cL_writes 237 = .ok (.iload 6, 2) := by decide +kernel
theorem dL_writes_239 : decode cL_writes 239 = .ok (.ifCond .eq 16, 3) := by decide +kernel
theorem dL_writes_242 : decode cL_writes 242 = .ok (.iload 8, 2) := by decide +kernel
theorem dL_writes_244 : decode cL_writes 244 = .ok (.ifCond .le 7, 3) := by decide +kernel
theorem dL_writes_247 : decode cL_writes 247 = .ok (.iconst 1, 1) := by decide +kernel
theorem dL_writes_248 : decode cL_writes 248 = .ok (.goto 11, 3) := by decide +kernel
theorem dL_writes_251 : decode cL_writes 251 = .ok (.iconst 0, 1) := by decide +kernel
theorem dL_writes_252 : decode cL_writes 252 = .ok (.goto 7, 3) := by decide +kernel
theorem dL_writes_255 : decode cL_writes 255 = .ok (.iload 8, 2) := by decide +kernel
theorem dL_writes_257 : decode cL_writes 257 = .ok (.iconst 2, 1) := by decide +kernel
theorem dL_writes_258 : decode cL_writes 258 = .ok (.irem, 1) := by decide +kernel
theorem dL_writes_259 : decode cL_writes 259 = .ok (.istore 11, 2) := by decide +kernel
theorem dL_writes_261 : decode cL_writes 261 = .ok (.iload 6, 2) := by decide +kernel
theorem dL_writes_263 : decode cL_writes 263 = .ok (.ifCond .eq 17, 3) := by decide +kernel
theorem dL_writes_266 : decode cL_writes 266 = .ok (.iload 5, 2) := by decide +kernel
theorem dL_writes_268 : decode cL_writes 268 = .ok (.ifCond .ne 12, 3) := by decide +kernel
theorem dL_writes_271 : decode cL_writes 271 = .ok (.aload_n 0, 1) := by decide +kernel
theorem dL_writes_272 : decode cL_writes 272 = .ok (.iconst 0, 1) := by decide +kernel
theorem dL_writes_273 : decode cL_writes 273 = .ok (.invokevirtual 9, 3) := by decide +kernel
theorem dL_writes_276 : decode cL_writes 276 = .ok (.iconst 3, 1) := by decide +kernel
theorem dL_writes_277 : decode cL_writes 277 = .ok (.if_icmp .ne 7, 3) := by decide +kernel
theorem dL_writes_280 : decode cL_writes 280 = .ok (.iconst 1, 1) := by decide +kernel
theorem dL_writes_281 : decode cL_writes 281 = .ok (.goto 4, 3) := by decide +kernel
theorem dL_writes_284 : decode cL_writes 284 = .ok (.iconst 0, 1) := by decide +kernel
theorem dL_writes_285 : decode cL_writes 285 = .ok (.istore 12, 2) := by decide +kernel
theorem dL_writes_287 : decode cL_writes 287 = .ok (.iload 10, 2) := by decide +kernel
theorem dL_writes_289 : decode cL_writes 289 = .ok (.ifCond .eq 51, 3) := by decide +kernel
theorem dL_writes_292 : decode cL_writes 292 = .ok (.aload_n 0, 1) := by decide +kernel
theorem dL_writes_293 : decode cL_writes 293 = .ok (.iload_n 1, 1) := by decide +kernel
theorem dL_writes_294 : decode cL_writes 294 = .ok (.iconst 0, 1) := by decide +kernel
theorem dL_writes_295 : decode cL_writes 295 = .ok (.iconst 2, 1) := by decide +kernel
theorem dL_writes_296 : decode cL_writes 296 = .ok (.invokevirtual 35, 3) := by decide +kernel
theorem dL_writes_299 : decode cL_writes 299 = .ok (.iload 11, 2) := by decide +kernel
theorem dL_writes_301 : decode cL_writes 301 = .ok (.if_icmp .ne 39, 3) := by decide +kernel
theorem dL_writes_304 : decode cL_writes 304 = .ok (.aload_n 0, 1) := by decide +kernel
theorem dL_writes_305 : decode cL_writes 305 = .ok (.iload_n 1, 1) := by decide +kernel
theorem dL_writes_306 : decode cL_writes 306 = .ok (.iconst 1, 1) := by decide +kernel
theorem dL_writes_307 : decode cL_writes 307 = .ok (.iconst 1, 1) := by decide +kernel
theorem dL_writes_308 : decode cL_writes 308 = .ok (.invokevirtual 35, 3) := by decide +kernel
theorem dL_writes_311 : decode cL_writes 311 = .ok (.iload 12, 2) := by decide +kernel
theorem dL_writes_313 : decode cL_writes 313 = .ok (.ifCond .eq 18, 3) := by decide +kernel
theorem dL_writes_316 : decode cL_writes 316 = .ok (.iload 6, 2) := by decide +kernel
theorem dL_writes_318 : decode cL_writes 318 = .ok (.ifCond .eq 8, 3) := by decide +kernel
theorem dL_writes_321 : decode cL_writes 321 = .ok (.iload 8, 2) := by decide +kernel
theorem dL_writes_323 : decode cL_writes 323 = .ok (.goto 10, 3) := by decide +kernel
theorem dL_writes_326 : decode cL_writes 326 = .ok (.iload 11, 2) := by decide +kernel
theorem dL_writes_328 : decode cL_writes 328 = .ok (.goto 5, 3) := by decide +kernel
theorem dL_writes_331 : decode cL_writes 331 = .ok (.iload 11, 2) := by decide +kernel
theorem dL_writes_333 : decode cL_writes 333 = .ok (.if_icmp .ne 7, 3) := by decide +kernel
theorem dL_writes_336 : decode cL_writes 336 = .ok (.iconst 1, 1) := by decide +kernel
theorem dL_writes_337 : decode cL_writes 337 = .ok (.goto 4, 3) := by decide +kernel
theorem dL_writes_340 : decode cL_writes 340 = .ok (.iconst 0, 1) := by decide +kernel
theorem dL_writes_341 : decode cL_writes 341 = .ok (.ireturn, 1) := by decide +kernel
theorem dL_acts_0 : decode cL_acts 0 = .ok (.iload_n 1, 1) := by decide +kernel
theorem dL_acts_1 : decode cL_acts 1 = .ok (.bipush 16, 2) := by decide +kernel
theorem dL_acts_3 : decode cL_acts 3 = .ok (.idiv, 1) := by decide +kernel
theorem dL_acts_4 : decode cL_acts 4 = .ok (.istore_n 2, 1) := by decide +kernel
theorem dL_acts_5 : decode cL_acts 5 = .ok (.iload_n 2, 1) := by decide +kernel
theorem dL_acts_6 : decode cL_acts 6 = .ok (.bipush 7, 2) := by decide +kernel
theorem dL_acts_8 : decode cL_acts 8 = .ok (.irem, 1) := by decide +kernel
theorem dL_acts_9 : decode cL_acts 9 = .ok (.istore_n 3, 1) := by decide +kernel
theorem dL_acts_10 : decode cL_acts 10 = .ok (.aload_n 0, 1) := by decide +kernel
theorem dL_acts_11 : decode cL_acts 11 = .ok (.iconst 0, 1) := by decide +kernel
theorem dL_acts_12 : decode cL_acts 12 = .ok (.invokevirtual 9, 3) := by decide +kernel
theorem dL_acts_15 : decode cL_acts 15 = .ok (.istore 4, 2) := by decide +kernel
theorem dL_acts_17 : decode cL_acts 17 = .ok (.aload_n 0, 1) := by decide +kernel
theorem dL_acts_18 : decode cL_acts 18 = .ok (.iconst 3, 1) := by decide +kernel
theorem dL_acts_19 : decode cL_acts 19 = .ok (.invokevirtual 9, 3) := by decide +kernel
theorem dL_acts_22 : decode cL_acts 22 = .ok (.istore 5, 2) := by decide +kernel
theorem dL_acts_24 : decode cL_acts 24 = .ok (.iload_n 1, 1) := by decide +kernel
theorem dL_acts_25 : decode cL_acts 25 = .ok (.bipush 16, 2) := by decide +kernel
theorem dL_acts_27 : decode cL_acts 27 = .ok (.irem, 1) := by decide +kernel
theorem dL_acts_28 : decode cL_acts 28 = .ok (.tableswitch 766 0 14 #[76, 76, 76, 76, 86, 173, 173, 247, 247, 341, 419, 489, 545, 622, 705], 76) := by decide +kernel
theorem dL_acts_104 : decode cL_acts 104 = .ok (.aload_n 0, 1) := by decide +kernel
theorem dL_acts_105 : decode cL_acts 105 = .ok (.iload_n 3, 1) := by decide +kernel
theorem dL_acts_106 : decode cL_acts 106 = .ok (.iload_n 2, 1) := by decide +kernel
theorem dL_acts_107 : decode cL_acts 107 = .ok (.bipush 8, 2) := by decide +kernel
theorem dL_acts_109 : decode cL_acts 109 = .ok (.idiv, 1) := by decide +kernel
theorem dL_acts_110 : decode cL_acts 110 = .ok (.invokestatic 38, 3) := by decide +kernel
theorem dL_acts_113 : decode cL_acts 113 = .ok (.ireturn, 1) := by decide +kernel
theorem dL_acts_114 : decode cL_acts 114 = .ok (.aload_n 0, 1) := by decide +kernel
theorem dL_acts_115 : decode cL_acts 115 = .ok (.iconst 1, 1) := by decide +kernel
theorem dL_acts_116 : decode cL_acts 116 = .ok (.invokevirtual 9, 3) := by decide +kernel
theorem dL_acts_119 : decode cL_acts 119 = .ok (.istore 6, 2) := by decide +kernel
theorem dL_acts_121 : decode cL_acts 121 = .ok (.aload_n 0, 1) := by decide +kernel
theorem dL_acts_122 : decode cL_acts 122 = .ok (.iload_n 3, 1) := by decide +kernel
theorem dL_acts_123 : decode cL_acts 123 = .ok (.invokevirtual 44, 3) := by decide +kernel
theorem dL_acts_126 : decode cL_acts 126 = .ok (.istore 7, 2) := by decide +kernel
theorem dL_acts_128 : decode cL_acts 128 = .ok (.iload 7, 2) := by decide +kernel
theorem dL_acts_130 : decode cL_acts 130 = .ok (.ifCond .le 44, 3) := by decide +kernel
theorem dL_acts_133 : decode cL_acts 133 = .ok (.iload 7, 2) := by decide +kernel
theorem dL_acts_135 : decode cL_acts 135 = .ok (.iload 6, 2) := by decide +kernel
theorem dL_acts_137 : decode cL_acts 137 = .ok (.iconst 1, 1) := by decide +kernel
theorem dL_acts_138 : decode cL_acts 138 = .ok (.iadd, 1) := by decide +kernel
theorem dL_acts_139 : decode cL_acts 139 = .ok (.if_icmp .ne 31, 3) := by decide +kernel
theorem dL_acts_142 : decode cL_acts 142 = .ok (.aload_n 0, 1) := by decide +kernel
theorem dL_acts_143 : decode cL_acts 143 = .ok (.iload_n 3, 1) := by decide +kernel
theorem dL_acts_144 : decode cL_acts 144 = .ok (.iconst 0, 1) := by decide +kernel
theorem dL_acts_145 : decode cL_acts 145 = .ok (.iconst 0, 1) := by decide +kernel
theorem dL_acts_146 : decode cL_acts 146 = .ok (.invokevirtual 35, 3) := by decide +kernel
theorem dL_acts_149 : decode cL_acts 149 = .ok (.ldc 23, 2) := by decide +kernel
theorem dL_acts_151 : decode cL_acts 151 = .ok (.if_icmp .ne 19, 3) := by decide +kernel
theorem dL_acts_154 : decode cL_acts 154 = .ok (.aload_n 0, 1) := by decide +kernel
theorem dL_acts_155 : decode cL_acts 155 = .ok (.iload_n 3, 1) := by decide +kernel
theorem dL_acts_156 : decode cL_acts 156 = .ok (.iconst 1, 1) := by decide +kernel
theorem dL_acts_157 : decode cL_acts 157 = .ok (.iconst 0, 1) := by decide +kernel
theorem dL_acts_158 : decode cL_acts 158 = .ok (.invokevirtual 35, 3) := by decide +kernel
theorem dL_acts_161 : decode cL_acts 161 = .ok (.ldc 23, 2) := by decide +kernel
theorem dL_acts_163 : decode cL_acts 163 = .ok (.if_icmp .ne 7, 3) := by decide +kernel
theorem dL_acts_166 : decode cL_acts 166 = .ok (.iconst 1, 1) := by decide +kernel
theorem dL_acts_167 : decode cL_acts 167 = .ok (.goto 33, 3) := by decide +kernel
theorem dL_acts_170 : decode cL_acts 170 = .ok (.iconst 0, 1) := by decide +kernel
theorem dL_acts_171 : decode cL_acts 171 = .ok (.goto 29, 3) := by decide +kernel
theorem dL_acts_174 : decode cL_acts 174 = .ok (.iload 7, 2) := by decide +kernel
theorem dL_acts_176 : decode cL_acts 176 = .ok (.ldc 47, 2) := by decide +kernel
theorem dL_acts_178 : decode cL_acts 178 = .ok (.if_icmp .eq 17, 3) := by decide +kernel
theorem dL_acts_181 : decode cL_acts 181 = .ok (.iload 7, 2) := by decide +kernel
theorem dL_acts_183 : decode cL_acts 183 = .ok (.ldc 34, 2) := by decide +kernel
theorem dL_acts_185 : decode cL_acts 185 = .ok (.if_icmp .ne 14, 3) := by decide +kernel
theorem dL_acts_188 : decode cL_acts 188 = .ok (.iload 5, 2) := by decide +kernel
theorem dL_acts_190 : decode cL_acts 190 = .ok (.bipush 8, 2) := by decide +kernel
theorem dL_acts_192 : decode cL_acts 192 = .ok (.if_icmp .ne 7, 3) := by decide +kernel
theorem dL_acts_195 : decode cL_acts 195 = .ok (.iconst 1, 1) := by decide +kernel
theorem dL_acts_196 : decode cL_acts 196 = .ok (.goto 4, 3) := by decide +kernel
theorem dL_acts_199 : decode cL_acts 199 = .ok (.iconst 0, 1) := by decide +kernel
theorem dL_acts_200 : decode cL_acts 200 = .ok (.ireturn, 1) := by decide +kernel
theorem dL_acts_201 : decode cL_acts 201 = .ok (.aload_n 0, 1) := by decide +kernel
theorem dL_acts_202 : decode cL_acts 202 = .ok (.iconst 1, 1) := by decide +kernel
theorem dL_acts_203 : decode cL_acts 203 = .ok (.iload_n 2, 1) := by decide +kernel
theorem dL_acts_204 : decode cL_acts 204 = .ok (.iconst 4, 1) := by decide +kernel
theorem dL_acts_205 : decode cL_acts 205 = .ok (.irem, 1) := by decide +kernel
theorem dL_acts_206 : decode cL_acts 206 = .ok (.iadd, 1) := by decide +kernel
theorem dL_acts_207 : decode cL_acts 207 = .ok (.invokevirtual 48, 3) := by decide +kernel
theorem dL_acts_210 : decode cL_acts 210 = .ok (.istore 8, 2) := by decide +kernel
theorem dL_acts_212 : decode cL_acts 212 = .ok (.iload 5, 2) := by decide +kernel
theorem dL_acts_214 : decode cL_acts 214 = .ok (.ifCond .ne 18, 3) := by decide +kernel
theorem dL_acts_217 : decode cL_acts 217 = .ok (.iload 8, 2) := by decide +kernel
theorem dL_acts_219 : decode cL_acts 219 = .ok (.ldc 47, 2) := by decide +kernel
theorem dL_acts_221 : decode cL_acts 221 = .ok (.if_icmp .ne 7, 3) := by decide +kernel
theorem dL_acts_224 : decode cL_acts 224 = .ok (.iconst 1, 1) := by decide +kernel
theorem dL_acts_225 : decode cL_acts 225 = .ok (.goto 49, 3) := by decide +kernel
theorem dL_acts_228 : decode cL_acts 228 = .ok (.iconst 0, 1) := by decide +kernel
theorem dL_acts_229 : decode cL_acts 229 = .ok (.goto 45, 3) := by decide +kernel
theorem dL_acts_232 : decode cL_acts 232 = .ok (.iload 8, 2) := by decide +kernel
theorem dL_acts_234 : decode cL_acts 234 = .ok (.iload 5, 2) := by decide +kernel
theorem dL_acts_236 : decode cL_acts 236 = .ok (.iconst 1, 1) := by decide +kernel
theorem dL_acts_237 : decode cL_acts 237 = .ok (.iload_n 2, 1) := by decide +kernel
theorem dL_acts_238 : decode cL_acts 238 = .ok (.iconst 4, 1) := by decide +kernel
theorem dL_acts_239 : decode cL_acts 239 = .ok (.irem, 1) := by decide +kernel
theorem dL_acts_240 : decode cL_acts 240 = .ok (.iadd, 1) := by decide +kernel
theorem dL_acts_241 : decode cL_acts 241 = .ok (.if_icmp .le 14, 3) := by decide +kernel
theorem dL_acts_244 : decode cL_acts 244 = .ok (.iload 5, 2) := by decide +kernel
theorem dL_acts_246 : decode cL_acts 246 = .ok (.iconst 1, 1) := by decide +kernel
theorem dL_acts_247 : decode cL_acts 247 = .ok (.isub, 1) := by decide +kernel
theorem dL_acts_248 : decode cL_acts 248 = .ok (.iload_n 2, 1) := by decide +kernel
theorem dL_acts_249 : decode cL_acts 249 = .ok (.iconst 4, 1) := by decide +kernel
theorem dL_acts_250 : decode cL_acts 250 = .ok (.irem, 1) := by decide +kernel
theorem dL_acts_251 : decode cL_acts 251 = .ok (.isub, 1) := by decide +kernel
theorem dL_acts_252 : decode cL_acts 252 = .ok (.goto 4, 3) := by decide +kernel
theorem dL_acts_255 : decode cL_acts 255 = .ok (.iconst 0, 1) := by decide +kernel
theorem dL_acts_256 : decode cL_acts 256 = .ok (.if_icmp .ne 17, 3) := by decide +kernel
theorem dL_acts_259 : decode cL_acts 259 = .ok (.aload_n 0, 1) := by decide +kernel
theorem dL_acts_260 : decode cL_acts 260 = .ok (.iconst 3, 1) := by decide +kernel
theorem dL_acts_261 : decode cL_acts 261 = .ok (.invokevirtual 9, 3) := by decide +kernel
theorem dL_acts_264 : decode cL_acts 264 = .ok (.iload 8, 2) := by decide +kernel
theorem dL_acts_266 : decode cL_acts 266 = .ok (.if_icmp .ne 7, 3) := by decide +kernel
theorem dL_acts_269 : decode cL_acts 269 = .ok (.iconst 1, 1) := by decide +kernel
theorem dL_acts_270 : decode cL_acts 270 = .ok (.goto 4, 3) := by decide +kernel
theorem dL_acts_273 : decode cL_acts 273 = .ok (.iconst 0, 1) := by decide +kernel
theorem dL_acts_274 : decode cL_acts 274 = .ok (.ireturn, 1) := by decide +kernel
theorem dL_acts_275 : decode cL_acts 275 = .ok (.aload_n 0, 1) := by decide +kernel
theorem dL_acts_276 : decode cL_acts 276 = .ok (.iconst 2, 1) := by decide +kernel
theorem dL_acts_277 : decode cL_acts 277 = .ok (.invokevirtual 9, 3) := by decide +kernel
theorem dL_acts_280 : decode cL_acts 280 = .ok (.istore 9, 2) := by decide +kernel
theorem dL_acts_282 : decode cL_acts 282 = .ok (.aload_n 0, 1) := by decide +kernel
theorem dL_acts_283 : decode cL_acts 283 = .ok (.iconst 1, 1) := by decide +kernel
theorem dL_acts_284 : decode cL_acts 284 = .ok (.iload_n 2, 1) := by decide +kernel
theorem dL_acts_285 : decode cL_acts 285 = .ok (.bipush 31, 2) := by decide +kernel
theorem dL_acts_287 : decode cL_acts 287 = .ok (.irem, 1) := by decide +kernel
theorem dL_acts_288 : decode cL_acts 288 = .ok (.iadd, 1) := by decide +kernel
theorem dL_acts_289 : decode cL_acts 289 = .ok (.invokevirtual 51, 3) := by decide +kernel
theorem dL_acts_292 : decode cL_acts 292 = .ok (.istore 10, 2) := by decide +kernel
theorem dL_acts_294 : decode cL_acts 294 = .ok (.iload 10, 2) := by decide +kernel
theorem dL_acts_296 : decode cL_acts 296 = .ok (.ifCond .ge 31, 3) := by decide +kernel
theorem dL_acts_299 : decode cL_acts 299 = .ok (.iload 10, 2) := by decide +kernel
theorem dL_acts_301 : decode cL_acts 301 = .ok (.ldc 47, 2) := by decide +kernel
theorem dL_acts_303 : decode cL_acts 303 = .ok (.if_icmp .ne 20, 3) := by decide +kernel
theorem dL_acts_306 : decode cL_acts 306 = .ok (.iload 4, 2) := by decide +kernel
theorem dL_acts_308 : decode cL_acts 308 = .ok (.iconst 1, 1) := by decide +kernel
theorem dL_acts_309 : decode cL_acts 309 = .ok (.if_icmp .ne 10, 3) := by decide +kernel
theorem dL_acts_312 : decode cL_acts 312 = .ok (.iload 9, 2) := by decide +kernel
theorem dL_acts_314 : decode cL_acts 314 = .ok (.bipush 31, 2) := by decide +kernel
theorem dL_acts_316 : decode cL_acts 316 = .ok (.if_icmp .ne 7, 3) := by decide +kernel
theorem dL_acts_319 : decode cL_acts 319 = .ok (.iconst 1, 1) := by decide +kernel
theorem dL_acts_320 : decode cL_acts 320 = .ok (.goto 48, 3) := by decide +kernel
theorem dL_acts_323 : decode cL_acts 323 = .ok (.iconst 0, 1) := by decide +kernel
theorem dL_acts_324 : decode cL_acts 324 = .ok (.goto 44, 3) := by decide +kernel
theorem dL_acts_327 : decode cL_acts 327 = .ok (.aload_n 0, 1) := by decide +kernel
theorem dL_acts_328 : decode cL_acts 328 = .ok (.iconst 2, 1) := by decide +kernel
theorem dL_acts_329 : decode cL_acts 329 = .ok (.invokevirtual 9, 3) := by decide +kernel
theorem dL_acts_332 : decode cL_acts 332 = .ok (.iload 9, 2) := by decide +kernel
theorem dL_acts_334 : decode cL_acts 334 = .ok (.iconst 1, 1) := by decide +kernel
theorem dL_acts_335 : decode cL_acts 335 = .ok (.iadd, 1) := by decide +kernel
theorem dL_acts_336 : decode cL_acts 336 = .ok (.iload_n 2, 1) := by decide +kernel
theorem dL_acts_337 : decode cL_acts 337 = .ok (.bipush 31, 2) := by decide +kernel
theorem dL_acts_339 : decode cL_acts 339 = .ok (.irem, 1) := by decide +kernel
theorem dL_acts_340 : decode cL_acts 340 = .ok (.iadd, 1) := by decide +kernel
theorem dL_acts_341 : decode cL_acts 341 = .ok (.bipush 31, 2) := by decide +kernel
theorem dL_acts_343 : decode cL_acts 343 = .ok (.if_icmp .le 8, 3) := by decide +kernel
theorem dL_acts_346 : decode cL_acts 346 = .ok (.bipush 31, 2) := by decide +kernel
theorem dL_acts_348 : decode cL_acts 348 = .ok (.goto 12, 3) := by decide +kernel
theorem dL_acts_351 : decode cL_acts 351 = .ok (.iload 9, 2) := by decide +kernel
theorem dL_acts_353 : decode cL_acts 353 = .ok (.iconst 1, 1) := by decide +kernel
theorem dL_acts_354 : decode cL_acts 354 = .ok (.iadd, 1) := by decide +kernel
theorem dL_acts_355 : decode cL_acts 355 = .ok (.iload_n 2, 1) := by decide +kernel
theorem dL_acts_356 : decode cL_acts 356 = .ok (.bipush 31, 2) := by decide +kernel
theorem dL_acts_358 : decode cL_acts 358 = .ok (.irem, 1) := by decide +kernel
theorem dL_acts_359 : decode cL_acts 359 = .ok (.iadd, 1) := by decide +kernel
theorem dL_acts_360 : decode cL_acts 360 = .ok (.if_icmp .ne 7, 3) := by decide +kernel
theorem dL_acts_363 : decode cL_acts 363 = .ok (.iconst 1, 1) := by decide +kernel
theorem dL_acts_364 : decode cL_acts 364 = .ok (.goto 4, 3) := by decide +kernel
theorem dL_acts_367 : decode cL_acts 367 = .ok (.iconst 0, 1) := by decide +kernel
theorem dL_acts_368 : decode cL_acts 368 = .ok (.ireturn, 1) := by decide +kernel
theorem dL_acts_369 : decode cL_acts 369 = .ok (.aload_n 0, 1) := by decide +kernel
theorem dL_acts_370 : decode cL_acts 370 = .ok (.invokevirtual 54, 3) := by decide +kernel
theorem dL_acts_373 : decode cL_acts 373 = .ok (.istore 11, 2) := by decide +kernel
theorem dL_acts_375 : decode cL_acts 375 = .ok (.iload 11, 2) := by decide +kernel
theorem dL_acts_377 : decode cL_acts 377 = .ok (.ifCond .ge 23, 3) := by decide +kernel
theorem dL_acts_380 : decode cL_acts 380 = .ok (.iload 11, 2) := by decide +kernel
theorem dL_acts_382 : decode cL_acts 382 = .ok (.ldc 47, 2) := by decide +kernel
theorem dL_acts_384 : decode cL_acts 384 = .ok (.if_icmp .ne 12, 3) := by decide +kernel
theorem dL_acts_387 : decode cL_acts 387 = .ok (.iload 4, 2) := by decide +kernel
theorem dL_acts_389 : decode cL_acts 389 = .ok (.ifCond .le 7, 3) := by decide +kernel
theorem dL_acts_392 : decode cL_acts 392 = .ok (.iconst 1, 1) := by decide +kernel
theorem dL_acts_393 : decode cL_acts 393 = .ok (.goto 53, 3) := by decide +kernel
theorem dL_acts_396 : decode cL_acts 396 = .ok (.iconst 0, 1) := by decide +kernel
theorem dL_acts_397 : decode cL_acts 397 = .ok (.goto 49, 3) := by decide +kernel
theorem dL_acts_400 : decode cL_acts 400 = .ok (.iload 4, 2) := by decide +kernel
theorem dL_acts_402 : decode cL_acts 402 = .ok (.ifCond .ne 43, 3) := by decide +kernel
theorem dL_acts_405 : decode cL_acts 405 = .ok (.aload_n 0, 1) := by decide +kernel
theorem dL_acts_406 : decode cL_acts 406 = .ok (.iconst 0, 1) := by decide +kernel
theorem dL_acts_407 : decode cL_acts 407 = .ok (.invokevirtual 9, 3) := by decide +kernel
theorem dL_acts_410 : decode cL_acts 410 = .ok (.iconst 1, 1) := by decide +kernel
theorem dL_acts_411 : decode cL_acts 411 = .ok (.if_icmp .ne 34, 3) := by decide +kernel
theorem dL_acts_414 : decode cL_acts 414 = .ok (.aload_n 0, 1) := by decide +kernel
theorem dL_acts_415 : decode cL_acts 415 = .ok (.iconst 2, 1) := by decide +kernel
theorem dL_acts_416 : decode cL_acts 416 = .ok (.invokevirtual 9, 3) := by decide +kernel
theorem dL_acts_419 : decode cL_acts 419 = .ok (.ifCond .ne 26, 3) := by decide +kernel
theorem dL_acts_422 : decode cL_acts 422 = .ok (.aload_n 0, 1) := by decide +kernel
theorem dL_acts_423 : decode cL_acts 423 = .ok (.bipush 7, 2) := by decide +kernel
theorem dL_acts_425 : decode cL_acts 425 = .ok (.invokevirtual 9, 3) := by decide +kernel
theorem dL_acts_428 : decode cL_acts 428 = .ok (.ifCond .ne 17, 3) := by decide +kernel
theorem dL_acts_431 : decode cL_acts 431 = .ok (.iload 11, 2) := by decide +kernel
theorem dL_acts_433 : decode cL_acts 433 = .ok (.aload_n 0, 1) := by decide +kernel
theorem dL_acts_434 : decode cL_acts 434 = .ok (.iconst 4, 1) := by decide +kernel
theorem dL_acts_435 : decode cL_acts 435 = .ok (.invokevirtual 9, 3) := by decide +kernel
theorem dL_acts_438 : decode cL_acts 438 = .ok (.if_icmp .ne 7, 3) := by decide +kernel
theorem dL_acts_441 : decode cL_acts 441 = .ok (.iconst 1, 1) := by decide +kernel
theorem dL_acts_442 : decode cL_acts 442 = .ok (.goto 4, 3) := by decide +kernel
theorem dL_acts_445 : decode cL_acts 445 = .ok (.iconst 0, 1) := by decide +kernel
theorem dL_acts_446 : decode cL_acts 446 = .ok (.ireturn, 1) := by decide +kernel
theorem dL_acts_447 : decode cL_acts 447 = .ok (.aload_n 0, 1) := by decide +kernel
theorem dL_acts_448 : decode cL_acts 448 = .ok (.bipush 8, 2) := by decide +kernel
theorem dL_acts_450 : decode cL_acts 450 = .ok (.invokevirtual 9, 3) := by decide +kernel
theorem dL_acts_453 : decode cL_acts 453 = .ok (.istore 12, 2) := by decide +kernel
theorem dL_acts_455 : decode cL_acts 455 = .ok (.aload_n 0, 1) := by decide +kernel
theorem dL_acts_456 : decode cL_acts 456 = .ok (.invokevirtual 57, 3) := by decide +kernel
theorem dL_acts_459 : decode cL_acts 459 = .ok (.istore 13, 2) := by decide +kernel
theorem dL_acts_461 : decode cL_acts 461 = .ok (.iload 13, 2) := by decide +kernel
theorem dL_acts_463 : decode cL_acts 463 = .ok (.ifCond .ge 16, 3) := by decide +kernel
theorem dL_acts_466 : decode cL_acts 466 = .ok (.iload 12, 2) := by decide +kernel
theorem dL_acts_468 : decode cL_acts 468 = .ok (.ifCond .ne 7, 3) := by decide +kernel
theorem dL_acts_471 : decode cL_acts 471 = .ok (.iconst 1, 1) := by decide +kernel
theorem dL_acts_472 : decode cL_acts 472 = .ok (.goto 44, 3) := by decide +kernel
theorem dL_acts_475 : decode cL_acts 475 = .ok (.iconst 0, 1) := by decide +kernel
theorem dL_acts_476 : decode cL_acts 476 = .ok (.goto 40, 3) := by decide +kernel
theorem dL_acts_479 : decode cL_acts 479 = .ok (.iload 12, 2) := by decide +kernel
theorem dL_acts_481 : decode cL_acts 481 = .ok (.iconst 1, 1) := by decide +kernel
theorem dL_acts_482 : decode cL_acts 482 = .ok (.if_icmp .ne 33, 3) := by decide +kernel
theorem dL_acts_485 : decode cL_acts 485 = .ok (.aload_n 0, 1) := by decide +kernel
theorem dL_acts_486 : decode cL_acts 486 = .ok (.iconst 0, 1) := by decide +kernel
theorem dL_acts_487 : decode cL_acts 487 = .ok (.invokevirtual 9, 3) := by decide +kernel
theorem dL_acts_490 : decode cL_acts 490 = .ok (.iconst 2, 1) := by decide +kernel
theorem dL_acts_491 : decode cL_acts 491 = .ok (.if_icmp .ne 24, 3) := by decide +kernel
theorem dL_acts_494 : decode cL_acts 494 = .ok (.aload_n 0, 1) := by decide +kernel
theorem dL_acts_495 : decode cL_acts 495 = .ok (.invokevirtual 15, 3) := by decide +kernel
theorem dL_acts_498 : decode cL_acts 498 = .ok (.ifCond .ne 17, 3) := by decide +kernel
theorem dL_acts_501 : decode cL_acts 501 = .ok (.iload 13, 2) := by decide +kernel
theorem dL_acts_503 : decode cL_acts 503 = .ok (.aload_n 0, 1) := by decide +kernel
theorem dL_acts_504 : decode cL_acts 504 = .ok (.iconst 5, 1) := by decide +kernel
theorem dL_acts_505 : decode cL_acts 505 = .ok (.invokevirtual 9, 3) := by decide +kernel
theorem dL_acts_508 : decode cL_acts 508 = .ok (.if_icmp .ne 7, 3) := by decide +kernel
theorem dL_acts_511 : decode cL_acts 511 = .ok (.iconst 1, 1) := by decide +kernel
theorem dL_acts_512 : decode cL_acts 512 = .ok (.goto 4, 3) := by decide +kernel
theorem dL_acts_515 : decode cL_acts 515 = .ok (.iconst 0, 1) := by decide +kernel
theorem dL_acts_516 : decode cL_acts 516 = .ok (.ireturn, 1) := by decide +kernel
theorem dL_acts_517 : decode cL_acts 517 = .ok (.aload_n 0, 1) := by decide +kernel
theorem dL_acts_518 : decode cL_acts 518 = .ok (.invokevirtual 60, 3) := by decide +kernel
theorem dL_acts_521 : decode cL_acts 521 = .ok (.istore 14, 2) := by decide +kernel
theorem dL_acts_523 : decode cL_acts 523 = .ok (.iload 14, 2) := by decide +kernel
theorem dL_acts_525 : decode cL_acts 525 = .ok (.ifCond .ge 18, 3) := by decide +kernel
theorem dL_acts_528 : decode cL_acts 528 = .ok (.iload 14, 2) := by decide +kernel
theorem dL_acts_530 : decode cL_acts 530 = .ok (.ldc 47, 2) := by decide +kernel
theorem dL_acts_532 : decode cL_acts 532 = .ok (.if_icmp .ne 7, 3) := by decide +kernel
theorem dL_acts_535 : decode cL_acts 535 = .ok (.iconst 1, 1) := by decide +kernel
theorem dL_acts_536 : decode cL_acts 536 = .ok (.goto 36, 3) := by decide +kernel
theorem dL_acts_539 : decode cL_acts 539 = .ok (.iconst 0, 1) := by decide +kernel
theorem dL_acts_540 : decode cL_acts 540 = .ok (.goto 32, 3) := by decide +kernel
theorem dL_acts_543 : decode cL_acts 543 = .ok (.iload 5, 2) := by decide +kernel
theorem dL_acts_545 : decode cL_acts 545 = .ok (.ifCond .ne 26, 3) := by decide +kernel
theorem dL_acts_548 : decode cL_acts 548 = .ok (.iload 14, 2) := by decide +kernel
theorem dL_acts_550 : decode cL_acts 550 = .ok (.iload 4, 2) := by decide +kernel
theorem dL_acts_552 : decode cL_acts 552 = .ok (.iconst 1, 1) := by decide +kernel
theorem dL_acts_553 : decode cL_acts 553 = .ok (.isub, 1) := by decide +kernel
theorem dL_acts_554 : decode cL_acts 554 = .ok (.if_icmp .ne 17, 3) := by decide +kernel
theorem dL_acts_557 : decode cL_acts 557 = .ok (.aload_n 0, 1) := by decide +kernel
theorem dL_acts_558 : decode cL_acts 558 = .ok (.iconst 0, 1) := by decide +kernel
theorem dL_acts_559 : decode cL_acts 559 = .ok (.invokevirtual 9, 3) := by decide +kernel
theorem dL_acts_562 : decode cL_acts 562 = .ok (.iload 14, 2) := by decide +kernel
theorem dL_acts_564 : decode cL_acts 564 = .ok (.if_icmp .ne 7, 3) := by decide +kernel
theorem dL_acts_567 : decode cL_acts 567 = .ok (.iconst 1, 1) := by decide +kernel
theorem dL_acts_568 : decode cL_acts 568 = .ok (.goto 4, 3) := by decide +kernel
theorem dL_acts_571 : decode cL_acts 571 = .ok (.iconst 0, 1) := by decide +kernel
theorem dL_acts_572 : decode cL_acts 572 = .ok (.ireturn, 1) := by decide +kernel
theorem dL_acts_573 : decode cL_acts 573 = .ok (.iload_n 2, 1) := by decide +kernel
theorem dL_acts_574 : decode cL_acts 574 = .ok (.iconst 3, 1) := by decide +kernel
theorem dL_acts_575 : decode cL_acts 575 = .ok (.irem, 1) := by decide +kernel
theorem dL_acts_576 : decode cL_acts 576 = .ok (.ifCond .le 5, 3) := by decide +kernel
theorem dL_acts_579 : decode cL_acts 579 = .ok (.iconst 1, 1) := by decide +kernel
theorem dL_acts_580 : decode cL_acts 580 = .ok (.ireturn, 1) := by decide +kernel
theorem dL_acts_581 : decode cL_acts 581 = .ok (.aload_n 0, 1) := by decide +kernel
theorem dL_acts_582 : decode cL_acts 582 = .ok (.bipush 9, 2) := by decide +kernel
theorem dL_acts_584 : decode cL_acts 584 = .ok (.invokevirtual 9, 3) := by decide +kernel
theorem dL_acts_587 : decode cL_acts 587 = .ok (.istore 15, 2) := by decide +kernel
theorem dL_acts_589 : decode cL_acts 589 = .ok (.aload_n 0, 1) := by decide +kernel
theorem dL_acts_590 : decode cL_acts 590 = .ok (.invokevirtual 63, 3) := by decide +kernel
theorem dL_acts_593 : decode cL_acts 593 = .ok (.istore 16, 2) := by decide +kernel
theorem dL_acts_595 : decode cL_acts 595 = .ok (.iload 5, 2) := by decide +kernel
theorem dL_acts_597 : decode cL_acts 597 = .ok (.ifCond .ne 18, 3) := by decide +kernel
theorem dL_acts_600 : decode cL_acts 600 = .ok (.iload 16, 2) := by decide +kernel
theorem dL_acts_602 : decode cL_acts 602 = .ok (.ldc 47, 2) := by decide +kernel
theorem dL_acts_604 : decode cL_acts 604 = .ok (.if_icmp .ne 7, 3) := by decide +kernel
theorem dL_acts_607 : decode cL_acts 607 = .ok (.iconst 1, 1) := by decide +kernel
theorem dL_acts_608 : decode cL_acts 608 = .ok (.goto 41, 3) := by decide +kernel
theorem dL_acts_611 : decode cL_acts 611 = .ok (.iconst 0, 1) := by decide +kernel
theorem dL_acts_612 : decode cL_acts 612 = .ok (.goto 37, 3) := by decide +kernel
theorem dL_acts_615 : decode cL_acts 615 = .ok (.iload 16, 2) := by decide +kernel
theorem dL_acts_617 : decode cL_acts 617 = .ok (.iload 5, 2) := by decide +kernel
theorem dL_acts_619 : decode cL_acts 619 = .ok (.if_icmp .ne 29, 3) := by decide +kernel
theorem dL_acts_622 : decode cL_acts 622 = .ok (.aload_n 0, 1) := by decide +kernel
theorem dL_acts_623 : decode cL_acts 623 = .ok (.bipush 9, 2) := by decide +kernel
theorem dL_acts_625 : decode cL_acts 625 = .ok (.invokevirtual 9, 3) := by decide +kernel
theorem dL_acts_628 : decode cL_acts 628 = .ok (.iload 15, 2) := by decide +kernel
theorem dL_acts_630 : decode cL_acts 630 = .ok (.iload 16, 2) := by decide +kernel
theorem dL_acts_632 : decode cL_acts 632 = .ok (.iadd, 1) := by decide +kernel
theorem dL_acts_633 : decode cL_acts 633 = .ok (.if_icmp .ne 15, 3) := by decide +kernel
theorem dL_acts_636 : decode cL_acts 636 = .ok (.aload_n 0, 1) := by decide +kernel
theorem dL_acts_637 : decode cL_acts 637 = .ok (.iconst 3, 1) := by decide +kernel
theorem dL_acts_638 : decode cL_acts 638 = .ok (.invokevirtual 9, 3) := by decide +kernel
theorem dL_acts_641 : decode cL_acts 641 = .ok (.ifCond .ne 7, 3) := by decide +kernel
theorem dL_acts_644 : decode cL_acts 644 = .ok (.iconst 1, 1) := by decide +kernel
theorem dL_acts_645 : decode cL_acts 645 = .ok (.goto 4, 3) := by decide +kernel
theorem dL_acts_648 : decode cL_acts 648 = .ok (.iconst 0, 1) := by decide +kernel
theorem dL_acts_649 : decode cL_acts 649 = .ok (.ireturn, 1) := by decide +kernel
theorem dL_acts_650 : decode cL_acts 650 = .ok (.aload_n 0, 1) := by decide +kernel
theorem dL_acts_651 : decode cL_acts 651 = .ok (.bipush 6, 2) := by decide +kernel
theorem dL_acts_653 : decode cL_acts 653 = .ok (.invokevirtual 9, 3) := by decide +kernel
theorem dL_acts_656 : decode cL_acts 656 = .ok (.istore 17, 2) := by decide +kernel
theorem dL_acts_658 : decode cL_acts 658 = .ok (.iload_n 2, 1) := by decide +kernel
theorem dL_acts_659 : decode cL_acts 659 = .ok (.iconst 4, 1) := by decide +kernel
theorem dL_acts_660 : decode cL_acts 660 = .ok (.irem, 1) := by decide +kernel
theorem dL_acts_661 : decode cL_acts 661 = .ok (.ifCond .le 7, 3) := by decide +kernel
theorem dL_acts_664 : decode cL_acts 664 = .ok (.iconst (-1), 1) := by decide +kernel
theorem dL_acts_665 : decode cL_acts 665 = .ok (.goto 7, 3) := by decide +kernel
theorem dL_acts_668 : decode cL_acts 668 = .ok (.aload_n 0, 1) := by decide +kernel
theorem dL_acts_669 : decode cL_acts 669 = .ok (.invokevirtual 66, 3) := by decide +kernel
theorem dL_acts_672 : decode cL_acts 672 = .ok (.istore 18, 2) := by decide +kernel
theorem dL_acts_674 : decode cL_acts 674 = .ok (.iload 18, 2) := by decide +kernel
theorem dL_acts_676 : decode cL_acts 676 = .ok (.ifCond .ge 21, 3) := by decide +kernel
theorem dL_acts_679 : decode cL_acts 679 = .ok (.aload_n 0, 1) := by decide +kernel
theorem dL_acts_680 : decode cL_acts 680 = .ok (.iconst 0, 1) := by decide +kernel
theorem dL_acts_681 : decode cL_acts 681 = .ok (.invokevirtual 9, 3) := by decide +kernel
theorem dL_acts_684 : decode cL_acts 684 = .ok (.iload 4, 2) := by decide +kernel
theorem dL_acts_686 : decode cL_acts 686 = .ok (.if_icmp .ne 7, 3) := by decide +kernel
theorem dL_acts_689 : decode cL_acts 689 = .ok (.iconst 1, 1) := by decide +kernel
theorem dL_acts_690 : decode cL_acts 690 = .ok (.goto 42, 3) := by decide +kernel
theorem dL_acts_693 : decode cL_acts 693 = .ok (.iconst 0, 1) := by decide +kernel
theorem dL_acts_694 : decode cL_acts 694 = .ok (.goto 38, 3) := by decide +kernel
theorem dL_acts_697 : decode cL_acts 697 = .ok (.iload 4, 2) := by decide +kernel
theorem dL_acts_699 : decode cL_acts 699 = .ok (.iconst 2, 1) := by decide +kernel
theorem dL_acts_700 : decode cL_acts 700 = .ok (.if_icmp .ne 31, 3) := by decide +kernel
theorem dL_acts_703 : decode cL_acts 703 = .ok (.aload_n 0, 1) := by decide +kernel
theorem dL_acts_704 : decode cL_acts 704 = .ok (.iconst 0, 1) := by decide +kernel
theorem dL_acts_705 : decode cL_acts 705 = .ok (.invokevirtual 9, 3) := by decide +kernel
theorem dL_acts_708 : decode cL_acts 708 = .ok (.iconst 3, 1) := by decide +kernel
theorem dL_acts_709 : decode cL_acts 709 = .ok (.if_icmp .ne 22, 3) := by decide +kernel
theorem dL_acts_712 : decode cL_acts 712 = .ok (.iload 18, 2) := by decide +kernel
theorem dL_acts_714 : decode cL_acts 714 = .ok (.iload 17, 2) := by decide +kernel
theorem dL_acts_716 : decode cL_acts 716 = .ok (.if_icmp .ne 15, 3) := by decide +kernel
theorem dL_acts_719 : decode cL_acts 719 = .ok (.aload_n 0, 1) := by decide +kernel
theorem dL_acts_720 : decode cL_acts 720 = .ok (.iconst 4, 1) := by decide +kernel
theorem dL_acts_721 : decode cL_acts 721 = .ok (.invokevirtual 9, 3) := by decide +kernel
theorem dL_acts_724 : decode cL_acts 724 = .ok (.ifCond .ne 7, 3) := by decide +kernel
theorem dL_acts_727 : decode cL_acts 727 = .ok (.iconst 1, 1) := by decide +kernel
theorem dL_acts_728 : decode cL_acts 728 = .ok (.goto 4, 3) := by decide +kernel
theorem dL_acts_731 : decode cL_acts 731 = .ok (.iconst 0, 1) := by decide +kernel
theorem dL_acts_732 : decode cL_acts 732 = .ok (.ireturn, 1) := by decide +kernel
theorem dL_acts_733 : decode cL_acts 733 = .ok (.aload_n 0, 1) := by decide +kernel
theorem dL_acts_734 : decode cL_acts 734 = .ok (.invokevirtual 15, 3) := by decide +kernel
theorem dL_acts_737 : decode cL_acts 737 = .ok (.istore 19, 2) := by decide +kernel
theorem dL_acts_739 : decode cL_acts 739 = .ok (.aload_n 0, 1) := by decide +kernel
theorem dL_acts_740 : decode cL_acts 740 = .ok (.iload_n 3, 1) := by decide +kernel
theorem dL_acts_741 : decode cL_acts 741 = .ok (.invokevirtual 69, 3) := by decide +kernel
theorem dL_acts_744 : decode cL_acts 744 = .ok (.istore 20, 2) := by decide +kernel
theorem dL_acts_746 : decode cL_acts 746 = .ok (.iload 20, 2) := by decide +kernel
theorem dL_acts_748 : decode cL_acts 748 = .ok (.ifCond .ge 18, 3) := by decide +kernel
theorem dL_acts_751 : decode cL_acts 751 = .ok (.iload 20, 2) := by decide +kernel
theorem dL_acts_753 : decode cL_acts 753 = .ok (.ldc 47, 2) := by decide +kernel
theorem dL_acts_755 : decode cL_acts 755 = .ok (.if_icmp .ne 7, 3) := by decide +kernel
theorem dL_acts_758 : decode cL_acts 758 = .ok (.iconst 1, 1) := by decide +kernel
theorem dL_acts_759 : decode cL_acts 759 = .ok (.goto 34, 3) := by decide +kernel
theorem dL_acts_762 : decode cL_acts 762 = .ok (.iconst 0, 1) := by decide +kernel
theorem dL_acts_763 : decode cL_acts 763 = .ok (.goto 30, 3) := by decide +kernel
theorem dL_acts_766 : decode cL_acts 766 = .ok (.iload 20, 2) := by decide +kernel
theorem dL_acts_768 : decode cL_acts 768 = .ok (.iload 19, 2) := by decide +kernel
theorem dL_acts_770 : decode cL_acts 770 = .ok (.iload_n 3, 1) := by decide +kernel
theorem dL_acts_771 : decode cL_acts 771 = .ok (.ishr, 1) := by decide +kernel
theorem dL_acts_772 : decode cL_acts 772 = .ok (.iconst 1, 1) := by decide +kernel
theorem dL_acts_773 : decode cL_acts 773 = .ok (.iand, 1) := by decide +kernel
theorem dL_acts_774 : decode cL_acts 774 = .ok (.if_icmp .ne 18, 3) := by decide +kernel
theorem dL_acts_777 : decode cL_acts 777 = .ok (.aload_n 0, 1) := by decide +kernel
theorem dL_acts_778 : decode cL_acts 778 = .ok (.invokevirtual 15, 3) := by decide +kernel
theorem dL_acts_781 : decode cL_acts 781 = .ok (.iload_n 3, 1) := by decide +kernel
theorem dL_acts_782 : decode cL_acts 782 = .ok (.ishr, 1) := by decide +kernel
theorem dL_acts_783 : decode cL_acts 783 = .ok (.iconst 1, 1) := by decide +kernel
theorem dL_acts_784 : decode cL_acts 784 = .ok (.iand, 1) := by decide +kernel
theorem dL_acts_785 : decode cL_acts 785 = .ok (.ifCond .ne 7, 3) := by decide +kernel
theorem dL_acts_788 : decode cL_acts 788 = .ok (.iconst 1, 1) := by decide +kernel
theorem dL_acts_789 : decode cL_acts 789 = .ok (.goto 4, 3) := by decide +kernel
theorem dL_acts_792 : decode cL_acts 792 = .ok (.iconst 0, 1) := by decide +kernel
theorem dL_acts_793 : decode cL_acts 793 = .ok (.ireturn, 1) := by decide +kernel
theorem dL_acts_794 : decode cL_acts 794 = .ok (.iload_n 2, 1) := by decide +kernel
theorem dL_acts_795 : decode cL_acts 795 = .ok (.bipush 8, 2) := by decide +kernel
theorem dL_acts_797 : decode cL_acts 797 = .ok (.idiv, 1) := by decide +kernel
theorem dL_acts_798 : decode cL_acts 798 = .ok (.iconst 3, 1) := by decide +kernel
theorem dL_acts_799 : decode cL_acts 799 = .ok (.irem, 1) := by decide +kernel
theorem dL_acts_800 : decode cL_acts 800 = .ok (.istore 21, 2) := by decide +kernel
theorem dL_acts_802 : decode cL_acts 802 = .ok (.aload_n 0, 1) := by decide +kernel
theorem dL_acts_803 : decode cL_acts 803 = .ok (.iload 21, 2) := by decide +kernel
theorem dL_acts_805 : decode cL_acts 805 = .ok (.iload_n 2, 1) := by decide +kernel
theorem dL_acts_806 : decode cL_acts 806 = .ok (.iconst 2, 1) := by decide +kernel
theorem dL_acts_807 : decode cL_acts 807 = .ok (.irem, 1) := by decide +kernel
theorem dL_acts_808 : decode cL_acts 808 = .ok (.invokevirtual 72, 3) := by decide +kernel
theorem dL_acts_811 : decode cL_acts 811 = .ok (.istore 22, 2) := by decide +kernel
theorem dL_acts_813 : decode cL_acts 813 = .ok (.aload_n 0, 1) := by decide +kernel
theorem dL_acts_814 : decode cL_acts 814 = .ok (.iload 21, 2) := by decide +kernel
theorem dL_acts_816 : decode cL_acts 816 = .ok (.invokevirtual 76, 3) := by decide +kernel
theorem dL_acts_819 : decode cL_acts 819 = .ok (.istore 23, 2) := by decide +kernel
theorem dL_acts_821 : decode cL_acts 821 = .ok (.iload 22, 2) := by decide +kernel
theorem dL_acts_823 : decode cL_acts 823 = .ok (.ifCond .lt 63, 3) := by decide +kernel
theorem dL_acts_826 : decode cL_acts 826 = .ok (.iload 22, 2) := by decide +kernel
theorem dL_acts_828 : decode cL_acts 828 = .ok (.bipush 31, 2) := by decide +kernel
theorem dL_acts_830 : decode cL_acts 830 = .ok (.if_icmp .gt 56, 3) := by decide +kernel
theorem dL_acts_833 : decode cL_acts 833 = .ok (.iload 23, 2) := by decide +kernel
theorem dL_acts_835 : decode cL_acts 835 = .ok (.bipush 31, 2) := by decide +kernel
theorem dL_acts_837 : decode cL_acts 837 = .ok (.if_icmp .ne 7, 3) := by decide +kernel
theorem dL_acts_840 : decode cL_acts 840 = .ok (.iconst 1, 1) := by decide +kernel
theorem dL_acts_841 : decode cL_acts 841 = .ok (.goto 4, 3) := by decide +kernel
theorem dL_acts_844 : decode cL_acts 844 = .ok (.iconst 0, 1) := by decide +kernel
theorem dL_acts_845 : decode cL_acts 845 = .ok (.iload 22, 2) := by decide +kernel
theorem dL_acts_847 : decode cL_acts 847 = .ok (.ifCond .ne 7, 3) := by decide +kernel
theorem dL_acts_850 : decode cL_acts 850 = .ok (.iconst 1, 1) := by decide +kernel
theorem dL_acts_851 : decode cL_acts 851 = .ok (.goto 4, 3) := by decide +kernel
theorem dL_acts_854 : decode cL_acts 854 = .ok (.iconst 0, 1) := by decide +kernel
theorem dL_acts_855 : decode cL_acts 855 = .ok (.if_icmp .ne 31, 3) := by decide +kernel
theorem dL_acts_858 : decode cL_acts 858 = .ok (.iload 23, 2) := by decide +kernel
theorem dL_acts_860 : decode cL_acts 860 = .ok (.bipush 31, 2) := by decide +kernel
theorem dL_acts_862 : decode cL_acts 862 = .ok (.if_icmp .eq 20, 3) := by decide +kernel
theorem dL_acts_865 : decode cL_acts 865 = .ok (.aload_n 0, 1) := by decide +kernel
theorem dL_acts_866 : decode cL_acts 866 = .ok (.iload_n 2, 1) := by decide +kernel
theorem dL_acts_867 : decode cL_acts 867 = .ok (.iconst 2, 1) := by decide +kernel
theorem dL_acts_868 : decode cL_acts 868 = .ok (.irem, 1) := by decide +kernel
theorem dL_acts_869 : decode cL_acts 869 = .ok (.invokevirtual 79, 3) := by decide +kernel
theorem dL_acts_872 : decode cL_acts 872 = .ok (.iconst 1, 1) := by decide +kernel
theorem dL_acts_873 : decode cL_acts 873 = .ok (.iload 23, 2) := by decide +kernel
theorem dL_acts_875 : decode cL_acts 875 = .ok (.ishl, 1) := by decide +kernel
theorem dL_acts_876 : decode cL_acts 876 = .ok (.iconst 1, 1) := by decide +kernel
theorem dL_acts_877 : decode cL_acts 877 = .ok (.isub, 1) := by decide +kernel
theorem dL_acts_878 : decode cL_acts 878 = .ok (.iand, 1) := by decide +kernel
theorem dL_acts_879 : decode cL_acts 879 = .ok (.ifCond .ne 7, 3) := by decide +kernel
theorem dL_acts_882 : decode cL_acts 882 = .ok (.iconst 1, 1) := by decide +kernel
theorem dL_acts_883 : decode cL_acts 883 = .ok (.goto 4, 3) := by decide +kernel
theorem dL_acts_886 : decode cL_acts 886 = .ok (.iconst 0, 1) := by decide +kernel
theorem dL_acts_887 : decode cL_acts 887 = .ok (.ireturn, 1) := by decide +kernel
theorem dL_law_0 : decode cL_law 0 = .ok (.new 10, 3) := by decide +kernel
theorem dL_law_3 : decode cL_law 3 = .ok (.dup, 1) := by decide +kernel
theorem dL_law_4 : decode cL_law 4 = .ok (.invokespecial 82, 3) := by decide +kernel
theorem dL_law_7 : decode cL_law 7 = .ok (.astore_n 1, 1) := by decide +kernel
theorem dL_law_8 : decode cL_law 8 = .ok (.aload_n 1, 1) := by decide +kernel
theorem dL_law_9 : decode cL_law 9 = .ok (.invokestatic 83, 3) := by decide +kernel
theorem dL_law_12 : decode cL_law 12 = .ok (.istore_n 2, 1) := by decide +kernel
theorem dL_law_13 : decode cL_law 13 = .ok (.iconst 0, 1) := by decide +kernel
theorem dL_law_14 : decode cL_law 14 = .ok (.istore_n 3, 1) := by decide +kernel
theorem dL_law_15 : decode cL_law 15 = .ok (.iload_n 3, 1) := by decide +kernel
theorem dL_law_16 : decode cL_law 16 = .ok (.bipush 36, 2) := by decide +kernel
theorem dL_law_18 : decode cL_law 18 = .ok (.if_icmp .ge 61, 3) := by decide +kernel
theorem dL_law_21 : decode cL_law 21 = .ok (.iload_n 2, 1) := by decide +kernel
theorem dL_law_22 : decode cL_law 22 = .ok (.ifCond .eq 57, 3) := by decide +kernel
theorem dL_law_25 : decode cL_law 25 = .ok (.aload_n 0, 1) := by decide +kernel
theorem dL_law_26 : decode cL_law 26 = .ok (.iload_n 3, 1) := by decide +kernel
theorem dL_law_27 : decode cL_law 27 = .ok (.invokestatic 87, 3) := by decide +kernel
theorem dL_law_30 : decode cL_law 30 = .ok (.istore 4, 2) := by decide +kernel
theorem dL_law_32 : decode cL_law 32 = .ok (.aload_n 1, 1) := by decide +kernel
theorem dL_law_33 : decode cL_law 33 = .ok (.iload_n 3, 1) := by decide +kernel
theorem dL_law_34 : decode cL_law 34 = .ok (.iconst 4, 1) := by decide +kernel
theorem dL_law_35 : decode cL_law 35 = .ok (.if_icmp .ne 17, 3) := by decide +kernel
theorem dL_law_38 : decode cL_law 38 = .ok (.iload 4, 2) := by decide +kernel
theorem dL_law_40 : decode cL_law 40 = .ok (.bipush 16, 2) := by decide +kernel
theorem dL_law_42 : decode cL_law 42 = .ok (.idiv, 1) := by decide +kernel
theorem dL_law_43 : decode cL_law 43 = .ok (.bipush 16, 2) := by decide +kernel
theorem dL_law_45 : decode cL_law 45 = .ok (.imul, 1) := by decide +kernel
theorem dL_law_46 : decode cL_law 46 = .ok (.bipush 9, 2) := by decide +kernel
theorem dL_law_48 : decode cL_law 48 = .ok (.iadd, 1) := by decide +kernel
theorem dL_law_49 : decode cL_law 49 = .ok (.goto 5, 3) := by decide +kernel
theorem dL_law_52 : decode cL_law 52 = .ok (.iload 4, 2) := by decide +kernel
theorem dL_law_54 : decode cL_law 54 = .ok (.invokestatic 91, 3) := by decide +kernel
theorem dL_law_57 : decode cL_law 57 = .ok (.ifCond .eq 14, 3) := by decide +kernel
theorem dL_law_60 : decode cL_law 60 = .ok (.aload_n 1, 1) := by decide +kernel
theorem dL_law_61 : decode cL_law 61 = .ok (.invokestatic 83, 3) := by decide +kernel
theorem dL_law_64 : decode cL_law 64 = .ok (.ifCond .eq 7, 3) := by decide +kernel
theorem dL_law_67 : decode cL_law 67 = .ok (.iconst 1, 1) := by decide +kernel
theorem dL_law_68 : decode cL_law 68 = .ok (.goto 4, 3) := by decide +kernel
theorem dL_law_71 : decode cL_law 71 = .ok (.iconst 0, 1) := by decide +kernel
theorem dL_law_72 : decode cL_law 72 = .ok (.istore_n 2, 1) := by decide +kernel
theorem dL_law_73 : decode cL_law 73 = .ok (.iinc 3 1, 3) := by decide +kernel
theorem dL_law_76 : decode cL_law 76 = .ok (.goto (-61), 3) := by decide +kernel
theorem dL_law_79 : decode cL_law 79 = .ok (.aload_n 1, 1) := by decide +kernel
theorem dL_law_80 : decode cL_law 80 = .ok (.iconst 1, 1) := by decide +kernel
theorem dL_law_81 : decode cL_law 81 = .ok (.invokevirtual 9, 3) := by decide +kernel
theorem dL_law_84 : decode cL_law 84 = .ok (.istore_n 3, 1) := by decide +kernel
theorem dL_law_85 : decode cL_law 85 = .ok (.aload_n 1, 1) := by decide +kernel
theorem dL_law_86 : decode cL_law 86 = .ok (.iconst 0, 1) := by decide +kernel
theorem dL_law_87 : decode cL_law 87 = .ok (.invokevirtual 9, 3) := by decide +kernel
theorem dL_law_90 : decode cL_law 90 = .ok (.istore 4, 2) := by decide +kernel
theorem dL_law_92 : decode cL_law 92 = .ok (.iload_n 2, 1) := by decide +kernel
theorem dL_law_93 : decode cL_law 93 = .ok (.ifCond .eq 42, 3) := by decide +kernel
theorem dL_law_96 : decode cL_law 96 = .ok (.aload_n 1, 1) := by decide +kernel
theorem dL_law_97 : decode cL_law 97 = .ok (.iconst 0, 1) := by decide +kernel
theorem dL_law_98 : decode cL_law 98 = .ok (.iconst 0, 1) := by decide +kernel
theorem dL_law_99 : decode cL_law 99 = .ok (.invokevirtual 72, 3) := by decide +kernel
theorem dL_law_102 : decode cL_law 102 = .ok (.ifCond .lt 33, 3) := by decide +kernel
theorem dL_law_105 : decode cL_law 105 = .ok (.aload_n 1, 1) := by decide +kernel
theorem dL_law_106 : decode cL_law 106 = .ok (.invokevirtual 95, 3) := by decide +kernel
theorem dL_law_109 : decode cL_law 109 = .ok (.ifCond .lt 26, 3) := by decide +kernel
theorem dL_law_112 : decode cL_law 112 = .ok (.aload_n 1, 1) := by decide +kernel
theorem dL_law_113 : decode cL_law 113 = .ok (.iconst 1, 1) := by decide +kernel
theorem dL_law_114 : decode cL_law 114 = .ok (.invokevirtual 9, 3) := by decide +kernel
theorem dL_law_117 : decode cL_law 117 = .ok (.iload_n 3, 1) := by decide +kernel
theorem dL_law_118 : decode cL_law 118 = .ok (.if_icmp .ne 17, 3) := by decide +kernel
theorem dL_law_121 : decode cL_law 121 = .ok (.aload_n 1, 1) := by decide +kernel
theorem dL_law_122 : decode cL_law 122 = .ok (.iconst 0, 1) := by decide +kernel
theorem dL_law_123 : decode cL_law 123 = .ok (.invokevirtual 9, 3) := by decide +kernel
theorem dL_law_126 : decode cL_law 126 = .ok (.iload 4, 2) := by decide +kernel
theorem dL_law_128 : decode cL_law 128 = .ok (.if_icmp .ne 7, 3) := by decide +kernel
theorem dL_law_131 : decode cL_law 131 = .ok (.iconst 1, 1) := by decide +kernel
theorem dL_law_132 : decode cL_law 132 = .ok (.goto 4, 3) := by decide +kernel
theorem dL_law_135 : decode cL_law 135 = .ok (.iconst 0, 1) := by decide +kernel
theorem dL_law_136 : decode cL_law 136 = .ok (.istore_n 2, 1) := by decide +kernel
theorem dL_law_137 : decode cL_law 137 = .ok (.iload_n 2, 1) := by decide +kernel
theorem dL_law_138 : decode cL_law 138 = .ok (.ifCond .eq 14, 3) := by decide +kernel
theorem dL_law_141 : decode cL_law 141 = .ok (.aload_n 1, 1) := by decide +kernel
theorem dL_law_142 : decode cL_law 142 = .ok (.invokestatic 83, 3) := by decide +kernel
theorem dL_law_145 : decode cL_law 145 = .ok (.ifCond .eq 7, 3) := by decide +kernel
theorem dL_law_148 : decode cL_law 148 = .ok (.iconst 1, 1) := by decide +kernel
theorem dL_law_149 : decode cL_law 149 = .ok (.goto 4, 3) := by decide +kernel
theorem dL_law_152 : decode cL_law 152 = .ok (.iconst 0, 1) := by decide +kernel
theorem dL_law_153 : decode cL_law 153 = .ok (.ireturn, 1) := by decide +kernel
