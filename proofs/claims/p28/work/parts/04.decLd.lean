theorem dL_told_218 : decode cL_told 218 = .ok (.iload 13, 2) := by decide +kernel
theorem dL_told_220 : decode cL_told 220 = .ok (.iload 14, 2) := by decide +kernel
theorem dL_told_222 : decode cL_told 222 = .ok (.invokestatic 29, 3) := by decide +kernel
theorem dL_told_225 : decode cL_told 225 = .ok (.iload 8, 2) := by decide +kernel
theorem dL_told_227 : decode cL_told 227 = .ok (.if_icmp .ne 7, 3) := by decide +kernel
theorem dL_told_230 : decode cL_told 230 = .ok (.iconst 1, 1) := by decide +kernel
theorem dL_told_231 : decode cL_told 231 = .ok (.goto 4, 3) := by decide +kernel
theorem dL_told_234 : decode cL_told 234 = .ok (.iconst 0, 1) := by decide +kernel
theorem dL_told_235 : decode cL_told 235 = .ok (.iadd, 1) := by decide +kernel
theorem dL_told_236 : decode cL_told 236 = .ok (.istore 9, 2) := by decide +kernel
theorem dL_told_238 : decode cL_told 238 = .ok (.iload 12, 2) := by decide +kernel
theorem dL_told_240 : decode cL_told 240 = .ok (.aload 4, 2) := by decide +kernel
theorem dL_told_242 : decode cL_told 242 = .ok (.iload 13, 2) := by decide +kernel
theorem dL_told_244 : decode cL_told 244 = .ok (.iload 14, 2) := by decide +kernel
theorem dL_told_246 : decode cL_told 246 = .ok (.invokestatic 14, 3) := by decide +kernel
theorem dL_told_249 : decode cL_told 249 = .ok (.ifCond .eq 24, 3) := by decide +kernel
theorem dL_told_252 : decode cL_told 252 = .ok (.aload 5, 2) := by decide +kernel
theorem dL_told_254 : decode cL_told 254 = .ok (.iload 13, 2) := by decide +kernel
theorem dL_told_256 : decode cL_told 256 = .ok (.iaload, 1) := by decide +kernel
theorem dL_told_257 : decode cL_told 257 = .ok (.bipush 9, 2) := by decide +kernel
theorem dL_told_259 : decode cL_told 259 = .ok (.iload 14, 2) := by decide +kernel
theorem dL_told_261 : decode cL_told 261 = .ok (.imul, 1) := by decide +kernel
theorem dL_told_262 : decode cL_told 262 = .ok (.bipush 9, 2) := by decide +kernel
theorem dL_told_264 : decode cL_told 264 = .ok (.isub, 1) := by decide +kernel
theorem dL_told_265 : decode cL_told 265 = .ok (.ishr, 1) := by decide +kernel
theorem dL_told_266 : decode cL_told 266 = .ok (.sipush 511, 3) := by decide +kernel
theorem dL_told_269 : decode cL_told 269 = .ok (.iand, 1) := by decide +kernel
theorem dL_told_270 : decode cL_told 270 = .ok (.goto 4, 3) := by decide +kernel
theorem dL_told_273 : decode cL_told 273 = .ok (.iconst 0, 1) := by decide +kernel
theorem dL_told_274 : decode cL_told 274 = .ok (.iadd, 1) := by decide +kernel
theorem dL_told_275 : decode cL_told 275 = .ok (.istore 12, 2) := by decide +kernel
theorem dL_told_277 : decode cL_told 277 = .ok (.iinc 14 1, 3) := by decide +kernel
theorem dL_told_280 : decode cL_told 280 = .ok (.goto (-84), 3) := by decide +kernel
theorem dL_told_283 : decode cL_told 283 = .ok (.iinc 13 1, 3) := by decide +kernel
theorem dL_told_286 : decode cL_told 286 = .ok (.goto (-149), 3) := by decide +kernel
theorem dL_told_289 : decode cL_told 289 = .ok (.iconst 1, 1) := by decide +kernel
theorem dL_told_290 : decode cL_told 290 = .ok (.aload_n 3, 1) := by decide +kernel
theorem dL_told_291 : decode cL_told 291 = .ok (.aload 4, 2) := by decide +kernel
theorem dL_told_293 : decode cL_told 293 = .ok (.aload 6, 2) := by decide +kernel
theorem dL_told_295 : decode cL_told 295 = .ok (.aload 7, 2) := by decide +kernel
theorem dL_told_297 : decode cL_told 297 = .ok (.invokestatic 84, 3) := by decide +kernel
theorem dL_told_300 : decode cL_told 300 = .ok (.istore 13, 2) := by decide +kernel
theorem dL_told_302 : decode cL_told 302 = .ok (.aload_n 0, 1) := by decide +kernel
theorem dL_told_303 : decode cL_told 303 = .ok (.invokevirtual 88, 3) := by decide +kernel
theorem dL_told_306 : decode cL_told 306 = .ok (.iload 13, 2) := by decide +kernel
theorem dL_told_308 : decode cL_told 308 = .ok (.ifCond .ne 7, 3) := by decide +kernel
theorem dL_told_311 : decode cL_told 311 = .ok (.dconst 0, 1) := by decide +kernel
theorem dL_told_312 : decode cL_told 312 = .ok (.goto 12, 3) := by decide +kernel
theorem dL_told_315 : decode cL_told 315 = .ok (.dconst 1, 1) := by decide +kernel
theorem dL_told_316 : decode cL_told 316 = .ok (.iload 12, 2) := by decide +kernel
theorem dL_told_318 : decode cL_told 318 = .ok (.i2d, 1) := by decide +kernel
theorem dL_told_319 : decode cL_told 319 = .ok (.dmul, 1) := by decide +kernel
theorem dL_told_320 : decode cL_told 320 = .ok (.iload 13, 2) := by decide +kernel
theorem dL_told_322 : decode cL_told 322 = .ok (.i2d, 1) := by decide +kernel
theorem dL_told_323 : decode cL_told 323 = .ok (.ddiv, 1) := by decide +kernel
theorem dL_told_324 : decode cL_told 324 = .ok (.dcmp .l, 1) := by decide +kernel
theorem dL_told_325 : decode cL_told 325 = .ok (.ifCond .ne 39, 3) := by decide +kernel
theorem dL_told_328 : decode cL_told 328 = .ok (.aload_n 0, 1) := by decide +kernel
theorem dL_told_329 : decode cL_told 329 = .ok (.iload 8, 2) := by decide +kernel
theorem dL_told_331 : decode cL_told 331 = .ok (.iconst 3, 1) := by decide +kernel
theorem dL_told_332 : decode cL_told 332 = .ok (.invokevirtual 92, 3) := by decide +kernel
theorem dL_told_335 : decode cL_told 335 = .ok (.iload 9, 2) := by decide +kernel
theorem dL_told_337 : decode cL_told 337 = .ok (.if_icmp .ne 27, 3) := by decide +kernel
theorem dL_told_340 : decode cL_told 340 = .ok (.aload_n 0, 1) := by decide +kernel
theorem dL_told_341 : decode cL_told 341 = .ok (.iload 8, 2) := by decide +kernel
theorem dL_told_343 : decode cL_told 343 = .ok (.iconst 4, 1) := by decide +kernel
theorem dL_told_344 : decode cL_told 344 = .ok (.invokevirtual 92, 3) := by decide +kernel
theorem dL_told_347 : decode cL_told 347 = .ok (.iload 10, 2) := by decide +kernel
theorem dL_told_349 : decode cL_told 349 = .ok (.if_icmp .ne 15, 3) := by decide +kernel
theorem dL_told_352 : decode cL_told 352 = .ok (.aload_n 0, 1) := by decide +kernel
theorem dL_told_353 : decode cL_told 353 = .ok (.iload 8, 2) := by decide +kernel
theorem dL_told_355 : decode cL_told 355 = .ok (.iconst 5, 1) := by decide +kernel
theorem dL_told_356 : decode cL_told 356 = .ok (.invokevirtual 92, 3) := by decide +kernel
theorem dL_told_359 : decode cL_told 359 = .ok (.iload 11, 2) := by decide +kernel
theorem dL_told_361 : decode cL_told 361 = .ok (.if_icmp .eq 5, 3) := by decide +kernel
theorem dL_told_364 : decode cL_told 364 = .ok (.iconst 0, 1) := by decide +kernel
theorem dL_told_365 : decode cL_told 365 = .ok (.ireturn, 1) := by decide +kernel
theorem dL_told_366 : decode cL_told 366 = .ok (.aload_n 0, 1) := by decide +kernel
theorem dL_told_367 : decode cL_told 367 = .ok (.iload 8, 2) := by decide +kernel
theorem dL_told_369 : decode cL_told 369 = .ok (.iconst 0, 1) := by decide +kernel
theorem dL_told_370 : decode cL_told 370 = .ok (.invokevirtual 92, 3) := by decide +kernel
theorem dL_told_373 : decode cL_told 373 = .ok (.aload 6, 2) := by decide +kernel
theorem dL_told_375 : decode cL_told 375 = .ok (.iload 8, 2) := by decide +kernel
theorem dL_told_377 : decode cL_told 377 = .ok (.iaload, 1) := by decide +kernel
theorem dL_told_378 : decode cL_told 378 = .ok (.if_icmp .ne 43, 3) := by decide +kernel
theorem dL_told_381 : decode cL_told 381 = .ok (.aload_n 0, 1) := by decide +kernel
theorem dL_told_382 : decode cL_told 382 = .ok (.iload 8, 2) := by decide +kernel
theorem dL_told_384 : decode cL_told 384 = .ok (.iconst 1, 1) := by decide +kernel
theorem dL_told_385 : decode cL_told 385 = .ok (.invokevirtual 92, 3) := by decide +kernel
theorem dL_told_388 : decode cL_told 388 = .ok (.aload 6, 2) := by decide +kernel
theorem dL_told_390 : decode cL_told 390 = .ok (.bipush 10, 2) := by decide +kernel
theorem dL_told_392 : decode cL_told 392 = .ok (.iload 8, 2) := by decide +kernel
theorem dL_told_394 : decode cL_told 394 = .ok (.iadd, 1) := by decide +kernel
theorem dL_told_395 : decode cL_told 395 = .ok (.iaload, 1) := by decide +kernel
theorem dL_told_396 : decode cL_told 396 = .ok (.if_icmp .ne 25, 3) := by decide +kernel
theorem dL_told_399 : decode cL_told 399 = .ok (.aload_n 0, 1) := by decide +kernel
theorem dL_told_400 : decode cL_told 400 = .ok (.iload 8, 2) := by decide +kernel
theorem dL_told_402 : decode cL_told 402 = .ok (.iconst 2, 1) := by decide +kernel
theorem dL_told_403 : decode cL_told 403 = .ok (.invokevirtual 92, 3) := by decide +kernel
theorem dL_told_406 : decode cL_told 406 = .ok (.aload 6, 2) := by decide +kernel
theorem dL_told_408 : decode cL_told 408 = .ok (.bipush 20, 2) := by decide +kernel
theorem dL_told_410 : decode cL_told 410 = .ok (.iload 8, 2) := by decide +kernel
theorem dL_told_412 : decode cL_told 412 = .ok (.iadd, 1) := by decide +kernel
theorem dL_told_413 : decode cL_told 413 = .ok (.iaload, 1) := by decide +kernel
theorem dL_told_414 : decode cL_told 414 = .ok (.if_icmp .ne 7, 3) := by decide +kernel
theorem dL_told_417 : decode cL_told 417 = .ok (.iconst 1, 1) := by decide +kernel
theorem dL_told_418 : decode cL_told 418 = .ok (.goto 4, 3) := by decide +kernel
theorem dL_told_421 : decode cL_told 421 = .ok (.iconst 0, 1) := by decide +kernel
theorem dL_told_422 : decode cL_told 422 = .ok (.ireturn, 1) := by decide +kernel
theorem dL_ahead_0 : decode cL_ahead 0 = .ok (.bipush 40, 2) := by decide +kernel
theorem dL_ahead_2 : decode cL_ahead 2 = .ok (.newarray .int, 2) := by decide +kernel
theorem dL_ahead_4 : decode cL_ahead 4 = .ok (.astore 6, 2) := by decide +kernel
theorem dL_ahead_6 : decode cL_ahead 6 = .ok (.iconst (-1), 1) := by decide +kernel
theorem dL_ahead_7 : decode cL_ahead 7 = .ok (.aload_n 3, 1) := by decide +kernel
theorem dL_ahead_8 : decode cL_ahead 8 = .ok (.aload 4, 2) := by decide +kernel
theorem dL_ahead_10 : decode cL_ahead 10 = .ok (.aload 6, 2) := by decide +kernel
theorem dL_ahead_12 : decode cL_ahead 12 = .ok (.invokestatic 70, 3) := by decide +kernel
theorem dL_ahead_15 : decode cL_ahead 15 = .ok (.iload_n 1, 1) := by decide +kernel
theorem dL_ahead_16 : decode cL_ahead 16 = .ok (.bipush 10, 2) := by decide +kernel
theorem dL_ahead_18 : decode cL_ahead 18 = .ok (.invokestatic 74, 3) := by decide +kernel
theorem dL_ahead_21 : decode cL_ahead 21 = .ok (.istore 7, 2) := by decide +kernel
theorem dL_ahead_23 : decode cL_ahead 23 = .ok (.iload_n 2, 1) := by decide +kernel
theorem dL_ahead_24 : decode cL_ahead 24 = .ok (.iload_n 1, 1) := by decide +kernel
theorem dL_ahead_25 : decode cL_ahead 25 = .ok (.iconst 4, 1) := by decide +kernel
theorem dL_ahead_26 : decode cL_ahead 26 = .ok (.ishr, 1) := by decide +kernel
theorem dL_ahead_27 : decode cL_ahead 27 = .ok (.iconst 2, 1) := by decide +kernel
theorem dL_ahead_28 : decode cL_ahead 28 = .ok (.invokestatic 74, 3) := by decide +kernel
theorem dL_ahead_31 : decode cL_ahead 31 = .ok (.ifCond .ne 8, 3) := by decide +kernel
theorem dL_ahead_34 : decode cL_ahead 34 = .ok (.bipush 40, 2) := by decide +kernel
theorem dL_ahead_36 : decode cL_ahead 36 = .ok (.goto 5, 3) := by decide +kernel
theorem dL_ahead_39 : decode cL_ahead 39 = .ok (.bipush 12, 2) := by decide +kernel
theorem dL_ahead_41 : decode cL_ahead 41 = .ok (.invokestatic 74, 3) := by decide +kernel
theorem dL_ahead_44 : decode cL_ahead 44 = .ok (.istore 8, 2) := by decide +kernel
theorem dL_ahead_46 : decode cL_ahead 46 = .ok (.iconst (-1), 1) := by decide +kernel
theorem dL_ahead_47 : decode cL_ahead 47 = .ok (.istore 9, 2) := by decide +kernel
theorem dL_ahead_49 : decode cL_ahead 49 = .ok (.iconst 1, 1) := by decide +kernel
theorem dL_ahead_50 : decode cL_ahead 50 = .ok (.istore 10, 2) := by decide +kernel
theorem dL_ahead_52 : decode cL_ahead 52 = .ok (.iload 10, 2) := by decide +kernel
theorem dL_ahead_54 : decode cL_ahead 54 = .ok (.iconst 4, 1) := by decide +kernel
theorem dL_ahead_55 : decode cL_ahead 55 = .ok (.if_icmp .ge 165, 3) := by decide +kernel
theorem dL_ahead_58 : decode cL_ahead 58 = .ok (.iload 7, 2) := by decide +kernel
theorem dL_ahead_60 : decode cL_ahead 60 = .ok (.iload 8, 2) := by decide +kernel
theorem dL_ahead_62 : decode cL_ahead 62 = .ok (.iload 10, 2) := by decide +kernel
theorem dL_ahead_64 : decode cL_ahead 64 = .ok (.aload 5, 2) := by decide +kernel
theorem dL_ahead_66 : decode cL_ahead 66 = .ok (.bipush 30, 2) := by decide +kernel
theorem dL_ahead_68 : decode cL_ahead 68 = .ok (.iaload, 1) := by decide +kernel
theorem dL_ahead_69 : decode cL_ahead 69 = .ok (.aload_n 3, 1) := by decide +kernel
theorem dL_ahead_70 : decode cL_ahead 70 = .ok (.aload 4, 2) := by decide +kernel
theorem dL_ahead_72 : decode cL_ahead 72 = .ok (.aload 6, 2) := by decide +kernel
theorem dL_ahead_74 : decode cL_ahead 74 = .ok (.invokestatic 95, 3) := by decide +kernel
theorem dL_ahead_77 : decode cL_ahead 77 = .ok (.istore 11, 2) := by decide +kernel
theorem dL_ahead_79 : decode cL_ahead 79 = .ok (.iload 11, 2) := by decide +kernel
theorem dL_ahead_81 : decode cL_ahead 81 = .ok (.ifCond .ne 8, 3) := by decide +kernel
theorem dL_ahead_84 : decode cL_ahead 84 = .ok (.iload 10, 2) := by decide +kernel
theorem dL_ahead_86 : decode cL_ahead 86 = .ok (.goto 5, 3) := by decide +kernel
theorem dL_ahead_89 : decode cL_ahead 89 = .ok (.iload 9, 2) := by decide +kernel
theorem dL_ahead_91 : decode cL_ahead 91 = .ok (.istore 9, 2) := by decide +kernel
theorem dL_ahead_93 : decode cL_ahead 93 = .ok (.aload_n 0, 1) := by decide +kernel
theorem dL_ahead_94 : decode cL_ahead 94 = .ok (.iload 7, 2) := by decide +kernel
theorem dL_ahead_96 : decode cL_ahead 96 = .ok (.iload 8, 2) := by decide +kernel
theorem dL_ahead_98 : decode cL_ahead 98 = .ok (.iload 10, 2) := by decide +kernel
theorem dL_ahead_100 : decode cL_ahead 100 = .ok (.invokevirtual 99, 3) := by decide +kernel
theorem dL_ahead_103 : decode cL_ahead 103 = .ok (.iload 11, 2) := by decide +kernel
theorem dL_ahead_105 : decode cL_ahead 105 = .ok (.if_icmp .ne 28, 3) := by decide +kernel
theorem dL_ahead_108 : decode cL_ahead 108 = .ok (.aload_n 0, 1) := by decide +kernel
theorem dL_ahead_109 : decode cL_ahead 109 = .ok (.iload 7, 2) := by decide +kernel
theorem dL_ahead_111 : decode cL_ahead 111 = .ok (.iload 8, 2) := by decide +kernel
theorem dL_ahead_113 : decode cL_ahead 113 = .ok (.iload 10, 2) := by decide +kernel
theorem dL_ahead_115 : decode cL_ahead 115 = .ok (.invokevirtual 101, 3) := by decide +kernel
theorem dL_ahead_118 : decode cL_ahead 118 = .ok (.iload 7, 2) := by decide +kernel
theorem dL_ahead_120 : decode cL_ahead 120 = .ok (.iload 8, 2) := by decide +kernel
theorem dL_ahead_122 : decode cL_ahead 122 = .ok (.iload 10, 2) := by decide +kernel
theorem dL_ahead_124 : decode cL_ahead 124 = .ok (.aload_n 3, 1) := by decide +kernel
theorem dL_ahead_125 : decode cL_ahead 125 = .ok (.aload 5, 2) := by decide +kernel
theorem dL_ahead_127 : decode cL_ahead 127 = .ok (.invokestatic 104, 3) := by decide +kernel
theorem dL_ahead_130 : decode cL_ahead 130 = .ok (.if_icmp .eq 5, 3) := by decide +kernel
theorem dL_ahead_133 : decode cL_ahead 133 = .ok (.iconst 0, 1) := by decide +kernel
theorem dL_ahead_134 : decode cL_ahead 134 = .ok (.ireturn, 1) := by decide +kernel
theorem dL_ahead_135 : decode cL_ahead 135 = .ok (.aload 5, 2) := by decide +kernel
theorem dL_ahead_137 : decode cL_ahead 137 = .ok (.bipush 30, 2) := by decide +kernel
theorem dL_ahead_139 : decode cL_ahead 139 = .ok (.iaload, 1) := by decide +kernel
theorem dL_ahead_140 : decode cL_ahead 140 = .ok (.istore 12, 2) := by decide +kernel
theorem dL_ahead_142 : decode cL_ahead 142 = .ok (.iload 12, 2) := by decide +kernel
theorem dL_ahead_144 : decode cL_ahead 144 = .ok (.aload 5, 2) := by decide +kernel
theorem dL_ahead_146 : decode cL_ahead 146 = .ok (.bipush 30, 2) := by decide +kernel
theorem dL_ahead_148 : decode cL_ahead 148 = .ok (.iaload, 1) := by decide +kernel
theorem dL_ahead_149 : decode cL_ahead 149 = .ok (.bipush 100, 2) := by decide +kernel
theorem dL_ahead_151 : decode cL_ahead 151 = .ok (.iadd, 1) := by decide +kernel
theorem dL_ahead_152 : decode cL_ahead 152 = .ok (.if_icmp .gt 28, 3) := by decide +kernel
theorem dL_ahead_155 : decode cL_ahead 155 = .ok (.iload 7, 2) := by decide +kernel
theorem dL_ahead_157 : decode cL_ahead 157 = .ok (.iload 8, 2) := by decide +kernel
theorem dL_ahead_159 : decode cL_ahead 159 = .ok (.iload 10, 2) := by decide +kernel
theorem dL_ahead_161 : decode cL_ahead 161 = .ok (.iload 12, 2) := by decide +kernel
theorem dL_ahead_163 : decode cL_ahead 163 = .ok (.aload_n 3, 1) := by decide +kernel
theorem dL_ahead_164 : decode cL_ahead 164 = .ok (.aload 4, 2) := by decide +kernel
theorem dL_ahead_166 : decode cL_ahead 166 = .ok (.aload 6, 2) := by decide +kernel
theorem dL_ahead_168 : decode cL_ahead 168 = .ok (.invokestatic 95, 3) := by decide +kernel
theorem dL_ahead_171 : decode cL_ahead 171 = .ok (.ifCond .eq 9, 3) := by decide +kernel
theorem dL_ahead_174 : decode cL_ahead 174 = .ok (.iinc 12 1, 3) := by decide +kernel
theorem dL_ahead_177 : decode cL_ahead 177 = .ok (.goto (-35), 3) := by decide +kernel
theorem dL_ahead_180 : decode cL_ahead 180 = .ok (.aload_n 0, 1) := by decide +kernel
theorem dL_ahead_181 : decode cL_ahead 181 = .ok (.iload 7, 2) := by decide +kernel
theorem dL_ahead_183 : decode cL_ahead 183 = .ok (.iload 8, 2) := by decide +kernel
theorem dL_ahead_185 : decode cL_ahead 185 = .ok (.iload 10, 2) := by decide +kernel
theorem dL_ahead_187 : decode cL_ahead 187 = .ok (.invokevirtual 107, 3) := by decide +kernel
theorem dL_ahead_190 : decode cL_ahead 190 = .ok (.iload 12, 2) := by decide +kernel
theorem dL_ahead_192 : decode cL_ahead 192 = .ok (.aload 5, 2) := by decide +kernel
theorem dL_ahead_194 : decode cL_ahead 194 = .ok (.bipush 30, 2) := by decide +kernel
theorem dL_ahead_196 : decode cL_ahead 196 = .ok (.iaload, 1) := by decide +kernel
theorem dL_ahead_197 : decode cL_ahead 197 = .ok (.bipush 100, 2) := by decide +kernel
theorem dL_ahead_199 : decode cL_ahead 199 = .ok (.iadd, 1) := by decide +kernel
theorem dL_ahead_200 : decode cL_ahead 200 = .ok (.if_icmp .le 7, 3) := by decide +kernel
theorem dL_ahead_203 : decode cL_ahead 203 = .ok (.iconst (-1), 1) := by decide +kernel
theorem dL_ahead_204 : decode cL_ahead 204 = .ok (.goto 5, 3) := by decide +kernel
theorem dL_ahead_207 : decode cL_ahead 207 = .ok (.iload 12, 2) := by decide +kernel
theorem dL_ahead_209 : decode cL_ahead 209 = .ok (.if_icmp .eq 5, 3) := by decide +kernel
theorem dL_ahead_212 : decode cL_ahead 212 = .ok (.iconst 0, 1) := by decide +kernel
theorem dL_ahead_213 : decode cL_ahead 213 = .ok (.ireturn, 1) := by decide +kernel
theorem dL_ahead_214 : decode cL_ahead 214 = .ok (.iinc 10 1, 3) := by decide +kernel
theorem dL_ahead_217 : decode cL_ahead 217 = .ok (.goto (-165), 3) := by decide +kernel
theorem dL_ahead_220 : decode cL_ahead 220 = .ok (.iconst (-1), 1) := by decide +kernel
theorem dL_ahead_221 : decode cL_ahead 221 = .ok (.istore 10, 2) := by decide +kernel
theorem dL_ahead_223 : decode cL_ahead 223 = .ok (.iconst 0, 1) := by decide +kernel
theorem dL_ahead_224 : decode cL_ahead 224 = .ok (.istore 11, 2) := by decide +kernel
theorem dL_ahead_226 : decode cL_ahead 226 = .ok (.iconst 0, 1) := by decide +kernel
theorem dL_ahead_227 : decode cL_ahead 227 = .ok (.istore 12, 2) := by decide +kernel
theorem dL_ahead_229 : decode cL_ahead 229 = .ok (.iload 12, 2) := by decide +kernel
theorem dL_ahead_231 : decode cL_ahead 231 = .ok (.bipush 40, 2) := by decide +kernel
theorem dL_ahead_233 : decode cL_ahead 233 = .ok (.if_icmp .ge 105, 3) := by decide +kernel
theorem dL_ahead_236 : decode cL_ahead 236 = .ok (.iconst 0, 1) := by decide +kernel
theorem dL_ahead_237 : decode cL_ahead 237 = .ok (.istore 13, 2) := by decide +kernel
theorem dL_ahead_239 : decode cL_ahead 239 = .ok (.iconst 3, 1) := by decide +kernel
theorem dL_ahead_240 : decode cL_ahead 240 = .ok (.istore 14, 2) := by decide +kernel
theorem dL_ahead_242 : decode cL_ahead 242 = .ok (.iload 14, 2) := by decide +kernel
theorem dL_ahead_244 : decode cL_ahead 244 = .ok (.ifCond .le 60, 3) := by decide +kernel
theorem dL_ahead_247 : decode cL_ahead 247 = .ok (.iload 7, 2) := by decide +kernel
theorem dL_ahead_249 : decode cL_ahead 249 = .ok (.iload 12, 2) := by decide +kernel
theorem dL_ahead_251 : decode cL_ahead 251 = .ok (.iload 14, 2) := by decide +kernel
theorem dL_ahead_253 : decode cL_ahead 253 = .ok (.aload 5, 2) := by decide +kernel
theorem dL_ahead_255 : decode cL_ahead 255 = .ok (.bipush 30, 2) := by decide +kernel
theorem dL_ahead_257 : decode cL_ahead 257 = .ok (.iaload, 1) := by decide +kernel
theorem dL_ahead_258 : decode cL_ahead 258 = .ok (.aload_n 3, 1) := by decide +kernel
theorem dL_ahead_259 : decode cL_ahead 259 = .ok (.aload 4, 2) := by decide +kernel
theorem dL_ahead_261 : decode cL_ahead 261 = .ok (.aload 6, 2) := by decide +kernel
theorem dL_ahead_263 : decode cL_ahead 263 = .ok (.invokestatic 95, 3) := by decide +kernel
theorem dL_ahead_266 : decode cL_ahead 266 = .ok (.ifCond .ne 28, 3) := by decide +kernel
theorem dL_ahead_269 : decode cL_ahead 269 = .ok (.iconst 4, 1) := by decide +kernel
theorem dL_ahead_270 : decode cL_ahead 270 = .ok (.iload 7, 2) := by decide +kernel
theorem dL_ahead_272 : decode cL_ahead 272 = .ok (.iload 12, 2) := by decide +kernel
theorem dL_ahead_274 : decode cL_ahead 274 = .ok (.iload 14, 2) := by decide +kernel
theorem dL_ahead_276 : decode cL_ahead 276 = .ok (.aload_n 3, 1) := by decide +kernel
theorem dL_ahead_277 : decode cL_ahead 277 = .ok (.aload 5, 2) := by decide +kernel
theorem dL_ahead_279 : decode cL_ahead 279 = .ok (.invokestatic 104, 3) := by decide +kernel
theorem dL_ahead_282 : decode cL_ahead 282 = .ok (.imul, 1) := by decide +kernel
theorem dL_ahead_283 : decode cL_ahead 283 = .ok (.aload 4, 2) := by decide +kernel
theorem dL_ahead_285 : decode cL_ahead 285 = .ok (.iload 12, 2) := by decide +kernel
theorem dL_ahead_287 : decode cL_ahead 287 = .ok (.invokestatic 38, 3) := by decide +kernel
theorem dL_ahead_290 : decode cL_ahead 290 = .ok (.iadd, 1) := by decide +kernel
theorem dL_ahead_291 : decode cL_ahead 291 = .ok (.goto 5, 3) := by decide +kernel
theorem dL_ahead_294 : decode cL_ahead 294 = .ok (.iload 13, 2) := by decide +kernel
theorem dL_ahead_296 : decode cL_ahead 296 = .ok (.istore 13, 2) := by decide +kernel
theorem dL_ahead_298 : decode cL_ahead 298 = .ok (.iinc 14 (-1), 3) := by decide +kernel
theorem dL_ahead_301 : decode cL_ahead 301 = .ok (.goto (-59), 3) := by decide +kernel
theorem dL_ahead_304 : decode cL_ahead 304 = .ok (.iload 13, 2) := by decide +kernel
theorem dL_ahead_306 : decode cL_ahead 306 = .ok (.ifCond .eq 26, 3) := by decide +kernel
theorem dL_ahead_309 : decode cL_ahead 309 = .ok (.iload 10, 2) := by decide +kernel
theorem dL_ahead_311 : decode cL_ahead 311 = .ok (.ifCond .lt 13, 3) := by decide +kernel
theorem dL_ahead_314 : decode cL_ahead 314 = .ok (.iload 13, 2) := by decide +kernel
theorem dL_ahead_316 : decode cL_ahead 316 = .ok (.iload 11, 2) := by decide +kernel
theorem dL_ahead_318 : decode cL_ahead 318 = .ok (.if_icmp .lt 6, 3) := by decide +kernel
theorem dL_ahead_321 : decode cL_ahead 321 = .ok (.goto 11, 3) := by decide +kernel
theorem dL_ahead_324 : decode cL_ahead 324 = .ok (.iload 12, 2) := by decide +kernel
theorem dL_ahead_326 : decode cL_ahead 326 = .ok (.istore 10, 2) := by decide +kernel
theorem dL_ahead_328 : decode cL_ahead 328 = .ok (.iload 13, 2) := by decide +kernel
theorem dL_ahead_330 : decode cL_ahead 330 = .ok (.istore 11, 2) := by decide +kernel
theorem dL_ahead_332 : decode cL_ahead 332 = .ok (.iinc 12 1, 3) := by decide +kernel
theorem dL_ahead_335 : decode cL_ahead 335 = .ok (.goto (-106), 3) := by decide +kernel
theorem dL_ahead_338 : decode cL_ahead 338 = .ok (.bipush 40, 2) := by decide +kernel
theorem dL_ahead_340 : decode cL_ahead 340 = .ok (.newarray .int, 2) := by decide +kernel
theorem dL_ahead_342 : decode cL_ahead 342 = .ok (.astore 12, 2) := by decide +kernel
theorem dL_ahead_344 : decode cL_ahead 344 = .ok (.iload 8, 2) := by decide +kernel
theorem dL_ahead_346 : decode cL_ahead 346 = .ok (.aload_n 3, 1) := by decide +kernel
theorem dL_ahead_347 : decode cL_ahead 347 = .ok (.aload 4, 2) := by decide +kernel
theorem dL_ahead_349 : decode cL_ahead 349 = .ok (.aload 12, 2) := by decide +kernel
theorem dL_ahead_351 : decode cL_ahead 351 = .ok (.invokestatic 70, 3) := by decide +kernel
theorem dL_ahead_354 : decode cL_ahead 354 = .ok (.iconst 0, 1) := by decide +kernel
theorem dL_ahead_355 : decode cL_ahead 355 = .ok (.istore 13, 2) := by decide +kernel
theorem dL_ahead_357 : decode cL_ahead 357 = .ok (.iconst 0, 1) := by decide +kernel
theorem dL_ahead_358 : decode cL_ahead 358 = .ok (.istore 14, 2) := by decide +kernel
theorem dL_ahead_360 : decode cL_ahead 360 = .ok (.iload 14, 2) := by decide +kernel
theorem dL_ahead_362 : decode cL_ahead 362 = .ok (.bipush 40, 2) := by decide +kernel
theorem dL_ahead_364 : decode cL_ahead 364 = .ok (.if_icmp .ge 56, 3) := by decide +kernel
theorem dL_ahead_367 : decode cL_ahead 367 = .ok (.iload 13, 2) := by decide +kernel
theorem dL_ahead_369 : decode cL_ahead 369 = .ok (.iload 14, 2) := by decide +kernel
theorem dL_ahead_371 : decode cL_ahead 371 = .ok (.iload 8, 2) := by decide +kernel
theorem dL_ahead_373 : decode cL_ahead 373 = .ok (.if_icmp .eq 37, 3) := by decide +kernel
theorem dL_ahead_376 : decode cL_ahead 376 = .ok (.aload_n 3, 1) := by decide +kernel
theorem dL_ahead_377 : decode cL_ahead 377 = .ok (.iload 14, 2) := by decide +kernel
theorem dL_ahead_379 : decode cL_ahead 379 = .ok (.iaload, 1) := by decide +kernel
theorem dL_ahead_380 : decode cL_ahead 380 = .ok (.iconst 3, 1) := by decide +kernel
theorem dL_ahead_381 : decode cL_ahead 381 = .ok (.iand, 1) := by decide +kernel
theorem dL_ahead_382 : decode cL_ahead 382 = .ok (.iconst 3, 1) := by decide +kernel
theorem dL_ahead_383 : decode cL_ahead 383 = .ok (.if_icmp .eq 27, 3) := by decide +kernel
theorem dL_ahead_386 : decode cL_ahead 386 = .ok (.iload 14, 2) := by decide +kernel
theorem dL_ahead_388 : decode cL_ahead 388 = .ok (.aload 6, 2) := by decide +kernel
theorem dL_ahead_390 : decode cL_ahead 390 = .ok (.invokestatic 42, 3) := by decide +kernel
theorem dL_ahead_393 : decode cL_ahead 393 = .ok (.ifCond .eq 17, 3) := by decide +kernel
theorem dL_ahead_396 : decode cL_ahead 396 = .ok (.iload 14, 2) := by decide +kernel
theorem dL_ahead_398 : decode cL_ahead 398 = .ok (.aload 12, 2) := by decide +kernel
theorem dL_ahead_400 : decode cL_ahead 400 = .ok (.invokestatic 42, 3) := by decide +kernel
theorem dL_ahead_403 : decode cL_ahead 403 = .ok (.ifCond .ne 7, 3) := by decide +kernel
theorem dL_ahead_406 : decode cL_ahead 406 = .ok (.iconst 1, 1) := by decide +kernel
theorem dL_ahead_407 : decode cL_ahead 407 = .ok (.goto 4, 3) := by decide +kernel
theorem dL_ahead_410 : decode cL_ahead 410 = .ok (.iconst 0, 1) := by decide +kernel
theorem dL_ahead_411 : decode cL_ahead 411 = .ok (.iadd, 1) := by decide +kernel
theorem dL_ahead_412 : decode cL_ahead 412 = .ok (.istore 13, 2) := by decide +kernel
theorem dL_ahead_414 : decode cL_ahead 414 = .ok (.iinc 14 1, 3) := by decide +kernel
theorem dL_ahead_417 : decode cL_ahead 417 = .ok (.goto (-57), 3) := by decide +kernel
theorem dL_ahead_420 : decode cL_ahead 420 = .ok (.aload_n 0, 1) := by decide +kernel
theorem dL_ahead_421 : decode cL_ahead 421 = .ok (.iload 7, 2) := by decide +kernel
theorem dL_ahead_423 : decode cL_ahead 423 = .ok (.iload 8, 2) := by decide +kernel
theorem dL_ahead_425 : decode cL_ahead 425 = .ok (.invokevirtual 110, 3) := by decide +kernel
theorem dL_ahead_428 : decode cL_ahead 428 = .ok (.iload 9, 2) := by decide +kernel
theorem dL_ahead_430 : decode cL_ahead 430 = .ok (.if_icmp .ne 29, 3) := by decide +kernel
theorem dL_ahead_433 : decode cL_ahead 433 = .ok (.aload_n 0, 1) := by decide +kernel
theorem dL_ahead_434 : decode cL_ahead 434 = .ok (.iload 7, 2) := by decide +kernel
theorem dL_ahead_436 : decode cL_ahead 436 = .ok (.invokevirtual 113, 3) := by decide +kernel
theorem dL_ahead_439 : decode cL_ahead 439 = .ok (.iload 10, 2) := by decide +kernel
theorem dL_ahead_441 : decode cL_ahead 441 = .ok (.if_icmp .ne 18, 3) := by decide +kernel
theorem dL_ahead_444 : decode cL_ahead 444 = .ok (.aload_n 0, 1) := by decide +kernel
theorem dL_ahead_445 : decode cL_ahead 445 = .ok (.iload 8, 2) := by decide +kernel
theorem dL_ahead_447 : decode cL_ahead 447 = .ok (.invokevirtual 116, 3) := by decide +kernel
theorem dL_ahead_450 : decode cL_ahead 450 = .ok (.iload 13, 2) := by decide +kernel
theorem dL_ahead_452 : decode cL_ahead 452 = .ok (.if_icmp .ne 7, 3) := by decide +kernel
theorem dL_ahead_455 : decode cL_ahead 455 = .ok (.iconst 1, 1) := by decide +kernel
theorem dL_ahead_456 : decode cL_ahead 456 = .ok (.goto 4, 3) := by decide +kernel
theorem dL_ahead_459 : decode cL_ahead 459 = .ok (.iconst 0, 1) := by decide +kernel
theorem dL_ahead_460 : decode cL_ahead 460 = .ok (.ireturn, 1) := by decide +kernel
theorem dL_act_0 : decode cL_act 0 = .ok (.iload_n 2, 1) := by decide +kernel
theorem dL_act_1 : decode cL_act 1 = .ok (.iconst 4, 1) := by decide +kernel
theorem dL_act_2 : decode cL_act 2 = .ok (.invokestatic 74, 3) := by decide +kernel
theorem dL_act_5 : decode cL_act 5 = .ok (.iload_n 3, 1) := by decide +kernel
theorem dL_act_6 : decode cL_act 6 = .ok (.bipush 9, 2) := by decide +kernel
theorem dL_act_8 : decode cL_act 8 = .ok (.ishr, 1) := by decide +kernel
theorem dL_act_9 : decode cL_act 9 = .ok (.iconst 3, 1) := by decide +kernel
theorem dL_act_10 : decode cL_act 10 = .ok (.invokestatic 74, 3) := by decide +kernel
theorem dL_act_13 : decode cL_act 13 = .ok (.ifCond .ne 8, 3) := by decide +kernel
theorem dL_act_16 : decode cL_act 16 = .ok (.bipush 6, 2) := by decide +kernel
theorem dL_act_18 : decode cL_act 18 = .ok (.goto 4, 3) := by decide +kernel
theorem dL_act_21 : decode cL_act 21 = .ok (.iconst 0, 1) := by decide +kernel
