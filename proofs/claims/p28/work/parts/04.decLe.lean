theorem dL_act_22 : decode cL_act 22 = .ok (.iadd, 1) := by decide +kernel
theorem dL_act_23 : decode cL_act 23 = .ok (.istore 8, 2) := by decide +kernel
theorem dL_act_25 : decode cL_act 25 = .ok (.iload_n 3, 1) := by decide +kernel
theorem dL_act_26 : decode cL_act 26 = .ok (.iload_n 2, 1) := by decide +kernel
theorem dL_act_27 : decode cL_act 27 = .ok (.iconst 3, 1) := by decide +kernel
theorem dL_act_28 : decode cL_act 28 = .ok (.ishr, 1) := by decide +kernel
theorem dL_act_29 : decode cL_act 29 = .ok (.iconst 4, 1) := by decide +kernel
theorem dL_act_30 : decode cL_act 30 = .ok (.invokestatic 74, 3) := by decide +kernel
theorem dL_act_33 : decode cL_act 33 = .ok (.ifCond .ne 8, 3) := by decide +kernel
theorem dL_act_36 : decode cL_act 36 = .ok (.bipush 40, 2) := by decide +kernel
theorem dL_act_38 : decode cL_act 38 = .ok (.goto 5, 3) := by decide +kernel
theorem dL_act_41 : decode cL_act 41 = .ok (.bipush 12, 2) := by decide +kernel
theorem dL_act_43 : decode cL_act 43 = .ok (.invokestatic 74, 3) := by decide +kernel
theorem dL_act_46 : decode cL_act 46 = .ok (.istore 9, 2) := by decide +kernel
theorem dL_act_48 : decode cL_act 48 = .ok (.iload 9, 2) := by decide +kernel
theorem dL_act_50 : decode cL_act 50 = .ok (.aload 7, 2) := by decide +kernel
theorem dL_act_52 : decode cL_act 52 = .ok (.bipush 30, 2) := by decide +kernel
theorem dL_act_54 : decode cL_act 54 = .ok (.iaload, 1) := by decide +kernel
theorem dL_act_55 : decode cL_act 55 = .ok (.aload 4, 2) := by decide +kernel
theorem dL_act_57 : decode cL_act 57 = .ok (.aload 5, 2) := by decide +kernel
theorem dL_act_59 : decode cL_act 59 = .ok (.invokestatic 46, 3) := by decide +kernel
theorem dL_act_62 : decode cL_act 62 = .ok (.istore 10, 2) := by decide +kernel
theorem dL_act_64 : decode cL_act 64 = .ok (.iload 10, 2) := by decide +kernel
theorem dL_act_66 : decode cL_act 66 = .ok (.ifCond .lt 14, 3) := by decide +kernel
theorem dL_act_69 : decode cL_act 69 = .ok (.iload 10, 2) := by decide +kernel
theorem dL_act_71 : decode cL_act 71 = .ok (.iload 8, 2) := by decide +kernel
theorem dL_act_73 : decode cL_act 73 = .ok (.if_icmp .eq 7, 3) := by decide +kernel
theorem dL_act_76 : decode cL_act 76 = .ok (.iconst 1, 1) := by decide +kernel
theorem dL_act_77 : decode cL_act 77 = .ok (.goto 4, 3) := by decide +kernel
theorem dL_act_80 : decode cL_act 80 = .ok (.iconst 0, 1) := by decide +kernel
theorem dL_act_81 : decode cL_act 81 = .ok (.istore 11, 2) := by decide +kernel
theorem dL_act_83 : decode cL_act 83 = .ok (.bipush 40, 2) := by decide +kernel
theorem dL_act_85 : decode cL_act 85 = .ok (.newarray .int, 2) := by decide +kernel
theorem dL_act_87 : decode cL_act 87 = .ok (.astore 12, 2) := by decide +kernel
theorem dL_act_89 : decode cL_act 89 = .ok (.iconst (-1), 1) := by decide +kernel
theorem dL_act_90 : decode cL_act 90 = .ok (.aload 4, 2) := by decide +kernel
theorem dL_act_92 : decode cL_act 92 = .ok (.aload 5, 2) := by decide +kernel
theorem dL_act_94 : decode cL_act 94 = .ok (.aload 12, 2) := by decide +kernel
theorem dL_act_96 : decode cL_act 96 = .ok (.invokestatic 70, 3) := by decide +kernel
theorem dL_act_99 : decode cL_act 99 = .ok (.iload_n 1, 1) := by decide +kernel
theorem dL_act_100 : decode cL_act 100 = .ok (.iconst 3, 1) := by decide +kernel
theorem dL_act_101 : decode cL_act 101 = .ok (.if_icmp .ge 82, 3) := by decide +kernel
theorem dL_act_104 : decode cL_act 104 = .ok (.iload 9, 2) := by decide +kernel
theorem dL_act_106 : decode cL_act 106 = .ok (.ifCond .eq 33, 3) := by decide +kernel
theorem dL_act_109 : decode cL_act 109 = .ok (.aload 5, 2) := by decide +kernel
theorem dL_act_111 : decode cL_act 111 = .ok (.iload 9, 2) := by decide +kernel
theorem dL_act_113 : decode cL_act 113 = .ok (.invokestatic 38, 3) := by decide +kernel
theorem dL_act_116 : decode cL_act 116 = .ok (.ifCond .gt 23, 3) := by decide +kernel
theorem dL_act_119 : decode cL_act 119 = .ok (.aload 4, 2) := by decide +kernel
theorem dL_act_121 : decode cL_act 121 = .ok (.iload 9, 2) := by decide +kernel
theorem dL_act_123 : decode cL_act 123 = .ok (.invokestatic 35, 3) := by decide +kernel
theorem dL_act_126 : decode cL_act 126 = .ok (.ifCond .ge 13, 3) := by decide +kernel
theorem dL_act_129 : decode cL_act 129 = .ok (.aload 4, 2) := by decide +kernel
theorem dL_act_131 : decode cL_act 131 = .ok (.iload 9, 2) := by decide +kernel
theorem dL_act_133 : decode cL_act 133 = .ok (.invokestatic 8, 3) := by decide +kernel
theorem dL_act_136 : decode cL_act 136 = .ok (.ifCond .lt 5, 3) := by decide +kernel
theorem dL_act_139 : decode cL_act 139 = .ok (.iconst 1, 1) := by decide +kernel
theorem dL_act_140 : decode cL_act 140 = .ok (.ireturn, 1) := by decide +kernel
theorem dL_act_141 : decode cL_act 141 = .ok (.aload 4, 2) := by decide +kernel
theorem dL_act_143 : decode cL_act 143 = .ok (.iload 9, 2) := by decide +kernel
theorem dL_act_145 : decode cL_act 145 = .ok (.iaload, 1) := by decide +kernel
theorem dL_act_146 : decode cL_act 146 = .ok (.istore 13, 2) := by decide +kernel
theorem dL_act_148 : decode cL_act 148 = .ok (.aload 4, 2) := by decide +kernel
theorem dL_act_150 : decode cL_act 150 = .ok (.iload 9, 2) := by decide +kernel
theorem dL_act_152 : decode cL_act 152 = .ok (.iload_n 2, 1) := by decide +kernel
theorem dL_act_153 : decode cL_act 153 = .ok (.bipush 6, 2) := by decide +kernel
theorem dL_act_155 : decode cL_act 155 = .ok (.ishr, 1) := by decide +kernel
theorem dL_act_156 : decode cL_act 156 = .ok (.iconst 4, 1) := by decide +kernel
theorem dL_act_157 : decode cL_act 157 = .ok (.invokestatic 74, 3) := by decide +kernel
theorem dL_act_160 : decode cL_act 160 = .ok (.iastore, 1) := by decide +kernel
theorem dL_act_161 : decode cL_act 161 = .ok (.aload_n 0, 1) := by decide +kernel
theorem dL_act_162 : decode cL_act 162 = .ok (.iload 9, 2) := by decide +kernel
theorem dL_act_164 : decode cL_act 164 = .ok (.aload 4, 2) := by decide +kernel
theorem dL_act_166 : decode cL_act 166 = .ok (.iload 9, 2) := by decide +kernel
theorem dL_act_168 : decode cL_act 168 = .ok (.iaload, 1) := by decide +kernel
theorem dL_act_169 : decode cL_act 169 = .ok (.invokevirtual 119, 3) := by decide +kernel
theorem dL_act_172 : decode cL_act 172 = .ok (.iload 13, 2) := by decide +kernel
theorem dL_act_174 : decode cL_act 174 = .ok (.if_icmp .ne 7, 3) := by decide +kernel
theorem dL_act_177 : decode cL_act 177 = .ok (.iconst 1, 1) := by decide +kernel
theorem dL_act_178 : decode cL_act 178 = .ok (.goto 4, 3) := by decide +kernel
theorem dL_act_181 : decode cL_act 181 = .ok (.iconst 0, 1) := by decide +kernel
theorem dL_act_182 : decode cL_act 182 = .ok (.ireturn, 1) := by decide +kernel
theorem dL_act_183 : decode cL_act 183 = .ok (.iload_n 1, 1) := by decide +kernel
theorem dL_act_184 : decode cL_act 184 = .ok (.iconst 5, 1) := by decide +kernel
theorem dL_act_185 : decode cL_act 185 = .ok (.if_icmp .ge 72, 3) := by decide +kernel
theorem dL_act_188 : decode cL_act 188 = .ok (.iconst 1, 1) := by decide +kernel
theorem dL_act_189 : decode cL_act 189 = .ok (.iload_n 3, 1) := by decide +kernel
theorem dL_act_190 : decode cL_act 190 = .ok (.iload_n 1, 1) := by decide +kernel
theorem dL_act_191 : decode cL_act 191 = .ok (.iconst 3, 1) := by decide +kernel
theorem dL_act_192 : decode cL_act 192 = .ok (.if_icmp .ne 7, 3) := by decide +kernel
theorem dL_act_195 : decode cL_act 195 = .ok (.iconst 4, 1) := by decide +kernel
theorem dL_act_196 : decode cL_act 196 = .ok (.goto 5, 3) := by decide +kernel
theorem dL_act_199 : decode cL_act 199 = .ok (.bipush 40, 2) := by decide +kernel
theorem dL_act_201 : decode cL_act 201 = .ok (.invokestatic 74, 3) := by decide +kernel
theorem dL_act_204 : decode cL_act 204 = .ok (.iadd, 1) := by decide +kernel
theorem dL_act_205 : decode cL_act 205 = .ok (.istore 13, 2) := by decide +kernel
theorem dL_act_207 : decode cL_act 207 = .ok (.aload 7, 2) := by decide +kernel
theorem dL_act_209 : decode cL_act 209 = .ok (.bipush 30, 2) := by decide +kernel
theorem dL_act_211 : decode cL_act 211 = .ok (.iaload, 1) := by decide +kernel
theorem dL_act_212 : decode cL_act 212 = .ok (.aload 4, 2) := by decide +kernel
theorem dL_act_214 : decode cL_act 214 = .ok (.invokestatic 122, 3) := by decide +kernel
theorem dL_act_217 : decode cL_act 217 = .ok (.istore 14, 2) := by decide +kernel
theorem dL_act_219 : decode cL_act 219 = .ok (.aload 7, 2) := by decide +kernel
theorem dL_act_221 : decode cL_act 221 = .ok (.bipush 30, 2) := by decide +kernel
theorem dL_act_223 : decode cL_act 223 = .ok (.dup2, 1) := by decide +kernel
theorem dL_act_224 : decode cL_act 224 = .ok (.iaload, 1) := by decide +kernel
theorem dL_act_225 : decode cL_act 225 = .ok (.iload 13, 2) := by decide +kernel
theorem dL_act_227 : decode cL_act 227 = .ok (.iadd, 1) := by decide +kernel
theorem dL_act_228 : decode cL_act 228 = .ok (.iastore, 1) := by decide +kernel
theorem dL_act_229 : decode cL_act 229 = .ok (.aload_n 0, 1) := by decide +kernel
theorem dL_act_230 : decode cL_act 230 = .ok (.iload 13, 2) := by decide +kernel
theorem dL_act_232 : decode cL_act 232 = .ok (.invokevirtual 126, 3) := by decide +kernel
theorem dL_act_235 : decode cL_act 235 = .ok (.aload 7, 2) := by decide +kernel
theorem dL_act_237 : decode cL_act 237 = .ok (.bipush 30, 2) := by decide +kernel
theorem dL_act_239 : decode cL_act 239 = .ok (.iaload, 1) := by decide +kernel
theorem dL_act_240 : decode cL_act 240 = .ok (.aload 4, 2) := by decide +kernel
theorem dL_act_242 : decode cL_act 242 = .ok (.invokestatic 122, 3) := by decide +kernel
theorem dL_act_245 : decode cL_act 245 = .ok (.iload 14, 2) := by decide +kernel
theorem dL_act_247 : decode cL_act 247 = .ok (.isub, 1) := by decide +kernel
theorem dL_act_248 : decode cL_act 248 = .ok (.if_icmp .ne 7, 3) := by decide +kernel
theorem dL_act_251 : decode cL_act 251 = .ok (.iconst 1, 1) := by decide +kernel
theorem dL_act_252 : decode cL_act 252 = .ok (.goto 4, 3) := by decide +kernel
theorem dL_act_255 : decode cL_act 255 = .ok (.iconst 0, 1) := by decide +kernel
theorem dL_act_256 : decode cL_act 256 = .ok (.ireturn, 1) := by decide +kernel
theorem dL_act_257 : decode cL_act 257 = .ok (.iload_n 1, 1) := by decide +kernel
theorem dL_act_258 : decode cL_act 258 = .ok (.iconst 5, 1) := by decide +kernel
theorem dL_act_259 : decode cL_act 259 = .ok (.if_icmp .ne 53, 3) := by decide +kernel
theorem dL_act_262 : decode cL_act 262 = .ok (.aload 7, 2) := by decide +kernel
theorem dL_act_264 : decode cL_act 264 = .ok (.iload 8, 2) := by decide +kernel
theorem dL_act_266 : decode cL_act 266 = .ok (.iaload, 1) := by decide +kernel
theorem dL_act_267 : decode cL_act 267 = .ok (.istore 13, 2) := by decide +kernel
theorem dL_act_269 : decode cL_act 269 = .ok (.aload 7, 2) := by decide +kernel
theorem dL_act_271 : decode cL_act 271 = .ok (.iload 8, 2) := by decide +kernel
theorem dL_act_273 : decode cL_act 273 = .ok (.iload_n 3, 1) := by decide +kernel
theorem dL_act_274 : decode cL_act 274 = .ok (.iconst 4, 1) := by decide +kernel
theorem dL_act_275 : decode cL_act 275 = .ok (.ishr, 1) := by decide +kernel
theorem dL_act_276 : decode cL_act 276 = .ok (.iconst 2, 1) := by decide +kernel
theorem dL_act_277 : decode cL_act 277 = .ok (.invokestatic 74, 3) := by decide +kernel
theorem dL_act_280 : decode cL_act 280 = .ok (.iastore, 1) := by decide +kernel
theorem dL_act_281 : decode cL_act 281 = .ok (.aload_n 0, 1) := by decide +kernel
theorem dL_act_282 : decode cL_act 282 = .ok (.iload 8, 2) := by decide +kernel
theorem dL_act_284 : decode cL_act 284 = .ok (.aload 7, 2) := by decide +kernel
theorem dL_act_286 : decode cL_act 286 = .ok (.iload 8, 2) := by decide +kernel
theorem dL_act_288 : decode cL_act 288 = .ok (.iaload, 1) := by decide +kernel
theorem dL_act_289 : decode cL_act 289 = .ok (.iconst 1, 1) := by decide +kernel
theorem dL_act_290 : decode cL_act 290 = .ok (.if_icmp .ne 7, 3) := by decide +kernel
theorem dL_act_293 : decode cL_act 293 = .ok (.iconst 1, 1) := by decide +kernel
theorem dL_act_294 : decode cL_act 294 = .ok (.goto 4, 3) := by decide +kernel
theorem dL_act_297 : decode cL_act 297 = .ok (.iconst 0, 1) := by decide +kernel
theorem dL_act_298 : decode cL_act 298 = .ok (.invokevirtual 129, 3) := by decide +kernel
theorem dL_act_301 : decode cL_act 301 = .ok (.iload 13, 2) := by decide +kernel
theorem dL_act_303 : decode cL_act 303 = .ok (.if_icmp .ne 7, 3) := by decide +kernel
theorem dL_act_306 : decode cL_act 306 = .ok (.iconst 1, 1) := by decide +kernel
theorem dL_act_307 : decode cL_act 307 = .ok (.goto 4, 3) := by decide +kernel
theorem dL_act_310 : decode cL_act 310 = .ok (.iconst 0, 1) := by decide +kernel
theorem dL_act_311 : decode cL_act 311 = .ok (.ireturn, 1) := by decide +kernel
theorem dL_act_312 : decode cL_act 312 = .ok (.iload_n 1, 1) := by decide +kernel
theorem dL_act_313 : decode cL_act 313 = .ok (.bipush 8, 2) := by decide +kernel
theorem dL_act_315 : decode cL_act 315 = .ok (.if_icmp .ge 162, 3) := by decide +kernel
theorem dL_act_318 : decode cL_act 318 = .ok (.aload 4, 2) := by decide +kernel
theorem dL_act_320 : decode cL_act 320 = .ok (.iload 9, 2) := by decide +kernel
theorem dL_act_322 : decode cL_act 322 = .ok (.iaload, 1) := by decide +kernel
theorem dL_act_323 : decode cL_act 323 = .ok (.iconst 3, 1) := by decide +kernel
theorem dL_act_324 : decode cL_act 324 = .ok (.iand, 1) := by decide +kernel
theorem dL_act_325 : decode cL_act 325 = .ok (.iconst 3, 1) := by decide +kernel
theorem dL_act_326 : decode cL_act 326 = .ok (.if_icmp .eq 18, 3) := by decide +kernel
theorem dL_act_329 : decode cL_act 329 = .ok (.aload 4, 2) := by decide +kernel
theorem dL_act_331 : decode cL_act 331 = .ok (.iload 9, 2) := by decide +kernel
theorem dL_act_333 : decode cL_act 333 = .ok (.invokestatic 35, 3) := by decide +kernel
theorem dL_act_336 : decode cL_act 336 = .ok (.ifCond .ge 8, 3) := by decide +kernel
theorem dL_act_339 : decode cL_act 339 = .ok (.iload 11, 2) := by decide +kernel
theorem dL_act_341 : decode cL_act 341 = .ok (.ifCond .eq 5, 3) := by decide +kernel
theorem dL_act_344 : decode cL_act 344 = .ok (.iconst 1, 1) := by decide +kernel
theorem dL_act_345 : decode cL_act 345 = .ok (.ireturn, 1) := by decide +kernel
theorem dL_act_346 : decode cL_act 346 = .ok (.iconst 1, 1) := by decide +kernel
theorem dL_act_347 : decode cL_act 347 = .ok (.iload_n 2, 1) := by decide +kernel
theorem dL_act_348 : decode cL_act 348 = .ok (.iconst 5, 1) := by decide +kernel
theorem dL_act_349 : decode cL_act 349 = .ok (.ishr, 1) := by decide +kernel
theorem dL_act_350 : decode cL_act 350 = .ok (.bipush 50, 2) := by decide +kernel
theorem dL_act_352 : decode cL_act 352 = .ok (.invokestatic 74, 3) := by decide +kernel
theorem dL_act_355 : decode cL_act 355 = .ok (.iadd, 1) := by decide +kernel
theorem dL_act_356 : decode cL_act 356 = .ok (.istore 13, 2) := by decide +kernel
theorem dL_act_358 : decode cL_act 358 = .ok (.aload 4, 2) := by decide +kernel
theorem dL_act_360 : decode cL_act 360 = .ok (.iload 9, 2) := by decide +kernel
theorem dL_act_362 : decode cL_act 362 = .ok (.invokestatic 8, 3) := by decide +kernel
theorem dL_act_365 : decode cL_act 365 = .ok (.ifCond .lt 28, 3) := by decide +kernel
theorem dL_act_368 : decode cL_act 368 = .ok (.aload 4, 2) := by decide +kernel
theorem dL_act_370 : decode cL_act 370 = .ok (.iload 9, 2) := by decide +kernel
theorem dL_act_372 : decode cL_act 372 = .ok (.invokestatic 32, 3) := by decide +kernel
theorem dL_act_375 : decode cL_act 375 = .ok (.aload 7, 2) := by decide +kernel
theorem dL_act_377 : decode cL_act 377 = .ok (.bipush 30, 2) := by decide +kernel
theorem dL_act_379 : decode cL_act 379 = .ok (.iaload, 1) := by decide +kernel
theorem dL_act_380 : decode cL_act 380 = .ok (.if_icmp .lt 13, 3) := by decide +kernel
theorem dL_act_383 : decode cL_act 383 = .ok (.aload 4, 2) := by decide +kernel
theorem dL_act_385 : decode cL_act 385 = .ok (.iload 9, 2) := by decide +kernel
theorem dL_act_387 : decode cL_act 387 = .ok (.invokestatic 32, 3) := by decide +kernel
theorem dL_act_390 : decode cL_act 390 = .ok (.goto 8, 3) := by decide +kernel
theorem dL_act_393 : decode cL_act 393 = .ok (.aload 7, 2) := by decide +kernel
theorem dL_act_395 : decode cL_act 395 = .ok (.bipush 30, 2) := by decide +kernel
theorem dL_act_397 : decode cL_act 397 = .ok (.iaload, 1) := by decide +kernel
theorem dL_act_398 : decode cL_act 398 = .ok (.istore 14, 2) := by decide +kernel
theorem dL_act_400 : decode cL_act 400 = .ok (.aload 4, 2) := by decide +kernel
theorem dL_act_402 : decode cL_act 402 = .ok (.iload 9, 2) := by decide +kernel
theorem dL_act_404 : decode cL_act 404 = .ok (.aload 4, 2) := by decide +kernel
theorem dL_act_406 : decode cL_act 406 = .ok (.iload 9, 2) := by decide +kernel
theorem dL_act_408 : decode cL_act 408 = .ok (.iaload, 1) := by decide +kernel
theorem dL_act_409 : decode cL_act 409 = .ok (.iconst 3, 1) := by decide +kernel
theorem dL_act_410 : decode cL_act 410 = .ok (.iand, 1) := by decide +kernel
theorem dL_act_411 : decode cL_act 411 = .ok (.iload 8, 2) := by decide +kernel
theorem dL_act_413 : decode cL_act 413 = .ok (.iconst 1, 1) := by decide +kernel
theorem dL_act_414 : decode cL_act 414 = .ok (.iadd, 1) := by decide +kernel
theorem dL_act_415 : decode cL_act 415 = .ok (.bipush 6, 2) := by decide +kernel
theorem dL_act_417 : decode cL_act 417 = .ok (.ishl, 1) := by decide +kernel
theorem dL_act_418 : decode cL_act 418 = .ok (.ior, 1) := by decide +kernel
theorem dL_act_419 : decode cL_act 419 = .ok (.iload 14, 2) := by decide +kernel
theorem dL_act_421 : decode cL_act 421 = .ok (.iload 13, 2) := by decide +kernel
theorem dL_act_423 : decode cL_act 423 = .ok (.iadd, 1) := by decide +kernel
theorem dL_act_424 : decode cL_act 424 = .ok (.bipush 10, 2) := by decide +kernel
theorem dL_act_426 : decode cL_act 426 = .ok (.ishl, 1) := by decide +kernel
theorem dL_act_427 : decode cL_act 427 = .ok (.ior, 1) := by decide +kernel
theorem dL_act_428 : decode cL_act 428 = .ok (.iastore, 1) := by decide +kernel
theorem dL_act_429 : decode cL_act 429 = .ok (.iconst 2, 1) := by decide +kernel
theorem dL_act_430 : decode cL_act 430 = .ok (.iload 13, 2) := by decide +kernel
theorem dL_act_432 : decode cL_act 432 = .ok (.imul, 1) := by decide +kernel
theorem dL_act_433 : decode cL_act 433 = .ok (.iconst 2, 1) := by decide +kernel
theorem dL_act_434 : decode cL_act 434 = .ok (.aload 7, 2) := by decide +kernel
theorem dL_act_436 : decode cL_act 436 = .ok (.iload 8, 2) := by decide +kernel
theorem dL_act_438 : decode cL_act 438 = .ok (.iaload, 1) := by decide +kernel
theorem dL_act_439 : decode cL_act 439 = .ok (.isub, 1) := by decide +kernel
theorem dL_act_440 : decode cL_act 440 = .ok (.imul, 1) := by decide +kernel
theorem dL_act_441 : decode cL_act 441 = .ok (.istore 15, 2) := by decide +kernel
theorem dL_act_443 : decode cL_act 443 = .ok (.aload 7, 2) := by decide +kernel
theorem dL_act_445 : decode cL_act 445 = .ok (.bipush 10, 2) := by decide +kernel
theorem dL_act_447 : decode cL_act 447 = .ok (.iload 8, 2) := by decide +kernel
theorem dL_act_449 : decode cL_act 449 = .ok (.iadd, 1) := by decide +kernel
theorem dL_act_450 : decode cL_act 450 = .ok (.dup2, 1) := by decide +kernel
theorem dL_act_451 : decode cL_act 451 = .ok (.iaload, 1) := by decide +kernel
theorem dL_act_452 : decode cL_act 452 = .ok (.iload 15, 2) := by decide +kernel
theorem dL_act_454 : decode cL_act 454 = .ok (.iadd, 1) := by decide +kernel
theorem dL_act_455 : decode cL_act 455 = .ok (.iastore, 1) := by decide +kernel
theorem dL_act_456 : decode cL_act 456 = .ok (.aload_n 0, 1) := by decide +kernel
theorem dL_act_457 : decode cL_act 457 = .ok (.iload 8, 2) := by decide +kernel
theorem dL_act_459 : decode cL_act 459 = .ok (.iload 9, 2) := by decide +kernel
theorem dL_act_461 : decode cL_act 461 = .ok (.iload 13, 2) := by decide +kernel
theorem dL_act_463 : decode cL_act 463 = .ok (.invokevirtual 133, 3) := by decide +kernel
theorem dL_act_466 : decode cL_act 466 = .ok (.iload 15, 2) := by decide +kernel
theorem dL_act_468 : decode cL_act 468 = .ok (.if_icmp .ne 7, 3) := by decide +kernel
theorem dL_act_471 : decode cL_act 471 = .ok (.iconst 1, 1) := by decide +kernel
theorem dL_act_472 : decode cL_act 472 = .ok (.goto 4, 3) := by decide +kernel
theorem dL_act_475 : decode cL_act 475 = .ok (.iconst 0, 1) := by decide +kernel
theorem dL_act_476 : decode cL_act 476 = .ok (.ireturn, 1) := by decide +kernel
theorem dL_act_477 : decode cL_act 477 = .ok (.iload_n 1, 1) := by decide +kernel
theorem dL_act_478 : decode cL_act 478 = .ok (.bipush 8, 2) := by decide +kernel
theorem dL_act_480 : decode cL_act 480 = .ok (.if_icmp .ne 127, 3) := by decide +kernel
theorem dL_act_483 : decode cL_act 483 = .ok (.aload 4, 2) := by decide +kernel
theorem dL_act_485 : decode cL_act 485 = .ok (.iload 9, 2) := by decide +kernel
theorem dL_act_487 : decode cL_act 487 = .ok (.iaload, 1) := by decide +kernel
theorem dL_act_488 : decode cL_act 488 = .ok (.iconst 3, 1) := by decide +kernel
theorem dL_act_489 : decode cL_act 489 = .ok (.iand, 1) := by decide +kernel
theorem dL_act_490 : decode cL_act 490 = .ok (.iconst 1, 1) := by decide +kernel
theorem dL_act_491 : decode cL_act 491 = .ok (.if_icmp .gt 43, 3) := by decide +kernel
theorem dL_act_494 : decode cL_act 494 = .ok (.aload 4, 2) := by decide +kernel
theorem dL_act_496 : decode cL_act 496 = .ok (.iload 9, 2) := by decide +kernel
theorem dL_act_498 : decode cL_act 498 = .ok (.invokestatic 35, 3) := by decide +kernel
theorem dL_act_501 : decode cL_act 501 = .ok (.ifCond .ge 33, 3) := by decide +kernel
theorem dL_act_504 : decode cL_act 504 = .ok (.aload 5, 2) := by decide +kernel
theorem dL_act_506 : decode cL_act 506 = .ok (.iload 9, 2) := by decide +kernel
theorem dL_act_508 : decode cL_act 508 = .ok (.invokestatic 38, 3) := by decide +kernel
theorem dL_act_511 : decode cL_act 511 = .ok (.ifCond .gt 23, 3) := by decide +kernel
theorem dL_act_514 : decode cL_act 514 = .ok (.iload 11, 2) := by decide +kernel
theorem dL_act_516 : decode cL_act 516 = .ok (.ifCond .ne 18, 3) := by decide +kernel
theorem dL_act_519 : decode cL_act 519 = .ok (.iload 9, 2) := by decide +kernel
theorem dL_act_521 : decode cL_act 521 = .ok (.ifCond .le 15, 3) := by decide +kernel
theorem dL_act_524 : decode cL_act 524 = .ok (.iload 9, 2) := by decide +kernel
theorem dL_act_526 : decode cL_act 526 = .ok (.aload 12, 2) := by decide +kernel
theorem dL_act_528 : decode cL_act 528 = .ok (.invokestatic 42, 3) := by decide +kernel
theorem dL_act_531 : decode cL_act 531 = .ok (.ifCond .ne 5, 3) := by decide +kernel
theorem dL_act_534 : decode cL_act 534 = .ok (.iconst 1, 1) := by decide +kernel
theorem dL_act_535 : decode cL_act 535 = .ok (.ireturn, 1) := by decide +kernel
theorem dL_act_536 : decode cL_act 536 = .ok (.aload 4, 2) := by decide +kernel
theorem dL_act_538 : decode cL_act 538 = .ok (.iload 9, 2) := by decide +kernel
theorem dL_act_540 : decode cL_act 540 = .ok (.aload 4, 2) := by decide +kernel
theorem dL_act_542 : decode cL_act 542 = .ok (.iload 9, 2) := by decide +kernel
theorem dL_act_544 : decode cL_act 544 = .ok (.iaload, 1) := by decide +kernel
theorem dL_act_545 : decode cL_act 545 = .ok (.iconst 3, 1) := by decide +kernel
theorem dL_act_546 : decode cL_act 546 = .ok (.iand, 1) := by decide +kernel
theorem dL_act_547 : decode cL_act 547 = .ok (.iload 8, 2) := by decide +kernel
theorem dL_act_549 : decode cL_act 549 = .ok (.iconst 1, 1) := by decide +kernel
theorem dL_act_550 : decode cL_act 550 = .ok (.iadd, 1) := by decide +kernel
theorem dL_act_551 : decode cL_act 551 = .ok (.iconst 2, 1) := by decide +kernel
theorem dL_act_552 : decode cL_act 552 = .ok (.ishl, 1) := by decide +kernel
theorem dL_act_553 : decode cL_act 553 = .ok (.ior, 1) := by decide +kernel
theorem dL_act_554 : decode cL_act 554 = .ok (.iastore, 1) := by decide +kernel
theorem dL_act_555 : decode cL_act 555 = .ok (.aload 7, 2) := by decide +kernel
theorem dL_act_557 : decode cL_act 557 = .ok (.bipush 10, 2) := by decide +kernel
theorem dL_act_559 : decode cL_act 559 = .ok (.iload 8, 2) := by decide +kernel
theorem dL_act_561 : decode cL_act 561 = .ok (.iadd, 1) := by decide +kernel
theorem dL_act_562 : decode cL_act 562 = .ok (.dup2, 1) := by decide +kernel
theorem dL_act_563 : decode cL_act 563 = .ok (.iaload, 1) := by decide +kernel
theorem dL_act_564 : decode cL_act 564 = .ok (.sipush 200, 3) := by decide +kernel
theorem dL_act_567 : decode cL_act 567 = .ok (.bipush 100, 2) := by decide +kernel
theorem dL_act_569 : decode cL_act 569 = .ok (.aload 7, 2) := by decide +kernel
theorem dL_act_571 : decode cL_act 571 = .ok (.iload 8, 2) := by decide +kernel
theorem dL_act_573 : decode cL_act 573 = .ok (.iaload, 1) := by decide +kernel
theorem dL_act_574 : decode cL_act 574 = .ok (.imul, 1) := by decide +kernel
theorem dL_act_575 : decode cL_act 575 = .ok (.isub, 1) := by decide +kernel
theorem dL_act_576 : decode cL_act 576 = .ok (.iadd, 1) := by decide +kernel
theorem dL_act_577 : decode cL_act 577 = .ok (.iastore, 1) := by decide +kernel
theorem dL_act_578 : decode cL_act 578 = .ok (.aload_n 0, 1) := by decide +kernel
theorem dL_act_579 : decode cL_act 579 = .ok (.iload 8, 2) := by decide +kernel
theorem dL_act_581 : decode cL_act 581 = .ok (.iload 9, 2) := by decide +kernel
theorem dL_act_583 : decode cL_act 583 = .ok (.invokevirtual 136, 3) := by decide +kernel
theorem dL_act_586 : decode cL_act 586 = .ok (.sipush 200, 3) := by decide +kernel
theorem dL_act_589 : decode cL_act 589 = .ok (.bipush 100, 2) := by decide +kernel
theorem dL_act_591 : decode cL_act 591 = .ok (.aload 7, 2) := by decide +kernel
theorem dL_act_593 : decode cL_act 593 = .ok (.iload 8, 2) := by decide +kernel
theorem dL_act_595 : decode cL_act 595 = .ok (.iaload, 1) := by decide +kernel
theorem dL_act_596 : decode cL_act 596 = .ok (.imul, 1) := by decide +kernel
theorem dL_act_597 : decode cL_act 597 = .ok (.isub, 1) := by decide +kernel
theorem dL_act_598 : decode cL_act 598 = .ok (.if_icmp .ne 7, 3) := by decide +kernel
theorem dL_act_601 : decode cL_act 601 = .ok (.iconst 1, 1) := by decide +kernel
theorem dL_act_602 : decode cL_act 602 = .ok (.goto 4, 3) := by decide +kernel
theorem dL_act_605 : decode cL_act 605 = .ok (.iconst 0, 1) := by decide +kernel
theorem dL_act_606 : decode cL_act 606 = .ok (.ireturn, 1) := by decide +kernel
theorem dL_act_607 : decode cL_act 607 = .ok (.iload_n 1, 1) := by decide +kernel
theorem dL_act_608 : decode cL_act 608 = .ok (.bipush 9, 2) := by decide +kernel
theorem dL_act_610 : decode cL_act 610 = .ok (.if_icmp .ne 60, 3) := by decide +kernel
theorem dL_act_613 : decode cL_act 613 = .ok (.iload 9, 2) := by decide +kernel
theorem dL_act_615 : decode cL_act 615 = .ok (.aload 7, 2) := by decide +kernel
theorem dL_act_617 : decode cL_act 617 = .ok (.bipush 30, 2) := by decide +kernel
theorem dL_act_619 : decode cL_act 619 = .ok (.iaload, 1) := by decide +kernel
theorem dL_act_620 : decode cL_act 620 = .ok (.aload 4, 2) := by decide +kernel
theorem dL_act_622 : decode cL_act 622 = .ok (.aload 5, 2) := by decide +kernel
theorem dL_act_624 : decode cL_act 624 = .ok (.invokestatic 53, 3) := by decide +kernel
theorem dL_act_627 : decode cL_act 627 = .ok (.ifCond .le 5, 3) := by decide +kernel
theorem dL_act_630 : decode cL_act 630 = .ok (.iconst 1, 1) := by decide +kernel
theorem dL_act_631 : decode cL_act 631 = .ok (.ireturn, 1) := by decide +kernel
theorem dL_act_632 : decode cL_act 632 = .ok (.aload 5, 2) := by decide +kernel
theorem dL_act_634 : decode cL_act 634 = .ok (.iload 9, 2) := by decide +kernel
theorem dL_act_636 : decode cL_act 636 = .ok (.invokestatic 38, 3) := by decide +kernel
theorem dL_act_639 : decode cL_act 639 = .ok (.istore 13, 2) := by decide +kernel
theorem dL_act_641 : decode cL_act 641 = .ok (.aload 5, 2) := by decide +kernel
theorem dL_act_643 : decode cL_act 643 = .ok (.iload 9, 2) := by decide +kernel
theorem dL_act_645 : decode cL_act 645 = .ok (.lconst 0, 1) := by decide +kernel
theorem dL_act_646 : decode cL_act 646 = .ok (.lastore, 1) := by decide +kernel
theorem dL_act_647 : decode cL_act 647 = .ok (.aload 6, 2) := by decide +kernel
theorem dL_act_649 : decode cL_act 649 = .ok (.iload 9, 2) := by decide +kernel
theorem dL_act_651 : decode cL_act 651 = .ok (.iconst 0, 1) := by decide +kernel
theorem dL_act_652 : decode cL_act 652 = .ok (.iastore, 1) := by decide +kernel
theorem dL_act_653 : decode cL_act 653 = .ok (.aload_n 0, 1) := by decide +kernel
