theorem dX3_next_75 : decode cX3_next 75 = .ok (.bipush 114, 2) := by decide +kernel
theorem dX3_next_77 : decode cX3_next 77 = .ok (.if_icmp .eq 5, 3) := by decide +kernel
theorem dX3_next_80 : decode cX3_next 80 = .ok (.iconst (-1), 1) := by decide +kernel
theorem dX3_next_81 : decode cX3_next 81 = .ok (.ireturn, 1) := by decide +kernel
theorem dX3_next_82 : decode cX3_next 82 = .ok (.aload_n 0, 1) := by decide +kernel
theorem dX3_next_83 : decode cX3_next 83 = .ok (.getfield 25, 3) := by decide +kernel
theorem dX3_next_86 : decode cX3_next 86 = .ok (.aload_n 0, 1) := by decide +kernel
theorem dX3_next_87 : decode cX3_next 87 = .ok (.getfield 133, 3) := by decide +kernel
theorem dX3_next_90 : decode cX3_next 90 = .ok (.iload_n 2, 1) := by decide +kernel
theorem dX3_next_91 : decode cX3_next 91 = .ok (.bipush 98, 2) := by decide +kernel
theorem dX3_next_93 : decode cX3_next 93 = .ok (.if_icmp .ne 7, 3) := by decide +kernel
theorem dX3_next_96 : decode cX3_next 96 = .ok (.iconst 0, 1) := by decide +kernel
theorem dX3_next_97 : decode cX3_next 97 = .ok (.goto 4, 3) := by decide +kernel
theorem dX3_next_100 : decode cX3_next 100 = .ok (.iconst 1, 1) := by decide +kernel
theorem dX3_next_101 : decode cX3_next 101 = .ok (.iastore, 1) := by decide +kernel
theorem dX3_next_102 : decode cX3_next 102 = .ok (.aload_n 0, 1) := by decide +kernel
theorem dX3_next_103 : decode cX3_next 103 = .ok (.dup, 1) := by decide +kernel
theorem dX3_next_104 : decode cX3_next 104 = .ok (.getfield 133, 3) := by decide +kernel
theorem dX3_next_107 : decode cX3_next 107 = .ok (.iconst 1, 1) := by decide +kernel
theorem dX3_next_108 : decode cX3_next 108 = .ok (.iadd, 1) := by decide +kernel
theorem dX3_next_109 : decode cX3_next 109 = .ok (.putfield 133, 3) := by decide +kernel
theorem dX3_next_112 : decode cX3_next 112 = .ok (.iconst 1, 1) := by decide +kernel
theorem dX3_next_113 : decode cX3_next 113 = .ok (.ireturn, 1) := by decide +kernel
theorem dX3_next_114 : decode cX3_next 114 = .ok (.aload_n 0, 1) := by decide +kernel
theorem dX3_next_115 : decode cX3_next 115 = .ok (.getfield 28, 3) := by decide +kernel
theorem dX3_next_118 : decode cX3_next 118 = .ok (.iload 4, 2) := by decide +kernel
theorem dX3_next_120 : decode cX3_next 120 = .ok (.iload_n 3, 1) := by decide +kernel
theorem dX3_next_121 : decode cX3_next 121 = .ok (.iastore, 1) := by decide +kernel
theorem dX3_next_122 : decode cX3_next 122 = .ok (.iload 5, 2) := by decide +kernel
theorem dX3_next_124 : decode cX3_next 124 = .ok (.ifCond .eq 7, 3) := by decide +kernel
theorem dX3_next_127 : decode cX3_next 127 = .ok (.iconst 2, 1) := by decide +kernel
theorem dX3_next_128 : decode cX3_next 128 = .ok (.goto 4, 3) := by decide +kernel
theorem dX3_next_131 : decode cX3_next 131 = .ok (.iconst (-1), 1) := by decide +kernel
theorem dX3_next_132 : decode cX3_next 132 = .ok (.ireturn, 1) := by decide +kernel
theorem dX3_next_133 : decode cX3_next 133 = .ok (.iload_n 2, 1) := by decide +kernel
theorem dX3_next_134 : decode cX3_next 134 = .ok (.bipush 58, 2) := by decide +kernel
theorem dX3_next_136 : decode cX3_next 136 = .ok (.if_icmp .ne 7, 3) := by decide +kernel
theorem dX3_next_139 : decode cX3_next 139 = .ok (.iconst 3, 1) := by decide +kernel
theorem dX3_next_140 : decode cX3_next 140 = .ok (.goto 4, 3) := by decide +kernel
theorem dX3_next_143 : decode cX3_next 143 = .ok (.iconst (-1), 1) := by decide +kernel
theorem dX3_next_144 : decode cX3_next 144 = .ok (.ireturn, 1) := by decide +kernel
theorem dX3_next_145 : decode cX3_next 145 = .ok (.aload_n 0, 1) := by decide +kernel
theorem dX3_next_146 : decode cX3_next 146 = .ok (.getfield 31, 3) := by decide +kernel
theorem dX3_next_149 : decode cX3_next 149 = .ok (.iload 4, 2) := by decide +kernel
theorem dX3_next_151 : decode cX3_next 151 = .ok (.iload_n 3, 1) := by decide +kernel
theorem dX3_next_152 : decode cX3_next 152 = .ok (.iastore, 1) := by decide +kernel
theorem dX3_next_153 : decode cX3_next 153 = .ok (.iload 5, 2) := by decide +kernel
theorem dX3_next_155 : decode cX3_next 155 = .ok (.ifCond .ne 7, 3) := by decide +kernel
theorem dX3_next_158 : decode cX3_next 158 = .ok (.iconst (-1), 1) := by decide +kernel
theorem dX3_next_159 : decode cX3_next 159 = .ok (.goto 17, 3) := by decide +kernel
theorem dX3_next_162 : decode cX3_next 162 = .ok (.iload_n 3, 1) := by decide +kernel
theorem dX3_next_163 : decode cX3_next 163 = .ok (.iconst 1, 1) := by decide +kernel
theorem dX3_next_164 : decode cX3_next 164 = .ok (.iconst 3, 1) := by decide +kernel
theorem dX3_next_165 : decode cX3_next 165 = .ok (.invokestatic 41, 3) := by decide +kernel
theorem dX3_next_168 : decode cX3_next 168 = .ok (.ifCond .eq 7, 3) := by decide +kernel
theorem dX3_next_171 : decode cX3_next 171 = .ok (.iconst 4, 1) := by decide +kernel
theorem dX3_next_172 : decode cX3_next 172 = .ok (.goto 4, 3) := by decide +kernel
theorem dX3_next_175 : decode cX3_next 175 = .ok (.iconst 5, 1) := by decide +kernel
theorem dX3_next_176 : decode cX3_next 176 = .ok (.ireturn, 1) := by decide +kernel
theorem dX3_next_177 : decode cX3_next 177 = .ok (.iload 5, 2) := by decide +kernel
theorem dX3_next_179 : decode cX3_next 179 = .ok (.ifCond .eq 24, 3) := by decide +kernel
theorem dX3_next_182 : decode cX3_next 182 = .ok (.aload_n 0, 1) := by decide +kernel
theorem dX3_next_183 : decode cX3_next 183 = .ok (.getfield 31, 3) := by decide +kernel
theorem dX3_next_186 : decode cX3_next 186 = .ok (.iload 4, 2) := by decide +kernel
theorem dX3_next_188 : decode cX3_next 188 = .ok (.bipush 10, 2) := by decide +kernel
theorem dX3_next_190 : decode cX3_next 190 = .ok (.aload_n 0, 1) := by decide +kernel
theorem dX3_next_191 : decode cX3_next 191 = .ok (.getfield 31, 3) := by decide +kernel
theorem dX3_next_194 : decode cX3_next 194 = .ok (.iload 4, 2) := by decide +kernel
theorem dX3_next_196 : decode cX3_next 196 = .ok (.iaload, 1) := by decide +kernel
theorem dX3_next_197 : decode cX3_next 197 = .ok (.imul, 1) := by decide +kernel
theorem dX3_next_198 : decode cX3_next 198 = .ok (.iload_n 3, 1) := by decide +kernel
theorem dX3_next_199 : decode cX3_next 199 = .ok (.iadd, 1) := by decide +kernel
theorem dX3_next_200 : decode cX3_next 200 = .ok (.iastore, 1) := by decide +kernel
theorem dX3_next_201 : decode cX3_next 201 = .ok (.iconst 5, 1) := by decide +kernel
theorem dX3_next_202 : decode cX3_next 202 = .ok (.ireturn, 1) := by decide +kernel
theorem dX3_next_203 : decode cX3_next 203 = .ok (.iload_n 2, 1) := by decide +kernel
theorem dX3_next_204 : decode cX3_next 204 = .ok (.bipush 44, 2) := by decide +kernel
theorem dX3_next_206 : decode cX3_next 206 = .ok (.if_icmp .ne 8, 3) := by decide +kernel
theorem dX3_next_209 : decode cX3_next 209 = .ok (.bipush 6, 2) := by decide +kernel
theorem dX3_next_211 : decode cX3_next 211 = .ok (.goto 4, 3) := by decide +kernel
theorem dX3_next_214 : decode cX3_next 214 = .ok (.iconst (-1), 1) := by decide +kernel
theorem dX3_next_215 : decode cX3_next 215 = .ok (.ireturn, 1) := by decide +kernel
theorem dX3_next_216 : decode cX3_next 216 = .ok (.iload_n 2, 1) := by decide +kernel
theorem dX3_next_217 : decode cX3_next 217 = .ok (.bipush 44, 2) := by decide +kernel
theorem dX3_next_219 : decode cX3_next 219 = .ok (.if_icmp .ne 8, 3) := by decide +kernel
theorem dX3_next_222 : decode cX3_next 222 = .ok (.bipush 6, 2) := by decide +kernel
theorem dX3_next_224 : decode cX3_next 224 = .ok (.goto 4, 3) := by decide +kernel
theorem dX3_next_227 : decode cX3_next 227 = .ok (.iconst (-1), 1) := by decide +kernel
theorem dX3_next_228 : decode cX3_next 228 = .ok (.ireturn, 1) := by decide +kernel
theorem dX3_next_229 : decode cX3_next 229 = .ok (.aload_n 0, 1) := by decide +kernel
theorem dX3_next_230 : decode cX3_next 230 = .ok (.getfield 34, 3) := by decide +kernel
theorem dX3_next_233 : decode cX3_next 233 = .ok (.iload 4, 2) := by decide +kernel
theorem dX3_next_235 : decode cX3_next 235 = .ok (.iload_n 3, 1) := by decide +kernel
theorem dX3_next_236 : decode cX3_next 236 = .ok (.iastore, 1) := by decide +kernel
theorem dX3_next_237 : decode cX3_next 237 = .ok (.iload_n 3, 1) := by decide +kernel
theorem dX3_next_238 : decode cX3_next 238 = .ok (.iconst 1, 1) := by decide +kernel
theorem dX3_next_239 : decode cX3_next 239 = .ok (.aload_n 0, 1) := by decide +kernel
theorem dX3_next_240 : decode cX3_next 240 = .ok (.getfield 25, 3) := by decide +kernel
theorem dX3_next_243 : decode cX3_next 243 = .ok (.iload 4, 2) := by decide +kernel
theorem dX3_next_245 : decode cX3_next 245 = .ok (.iaload, 1) := by decide +kernel
theorem dX3_next_246 : decode cX3_next 246 = .ok (.ifCond .ne 7, 3) := by decide +kernel
theorem dX3_next_249 : decode cX3_next 249 = .ok (.iconst 3, 1) := by decide +kernel
theorem dX3_next_250 : decode cX3_next 250 = .ok (.goto 5, 3) := by decide +kernel
theorem dX3_next_253 : decode cX3_next 253 = .ok (.bipush 9, 2) := by decide +kernel
theorem dX3_next_255 : decode cX3_next 255 = .ok (.invokestatic 41, 3) := by decide +kernel
theorem dX3_next_258 : decode cX3_next 258 = .ok (.ifCond .ne 7, 3) := by decide +kernel
theorem dX3_next_261 : decode cX3_next 261 = .ok (.iconst (-1), 1) := by decide +kernel
theorem dX3_next_262 : decode cX3_next 262 = .ok (.goto 27, 3) := by decide +kernel
theorem dX3_next_265 : decode cX3_next 265 = .ok (.aload_n 0, 1) := by decide +kernel
theorem dX3_next_266 : decode cX3_next 266 = .ok (.getfield 25, 3) := by decide +kernel
theorem dX3_next_269 : decode cX3_next 269 = .ok (.iload 4, 2) := by decide +kernel
theorem dX3_next_271 : decode cX3_next 271 = .ok (.iaload, 1) := by decide +kernel
theorem dX3_next_272 : decode cX3_next 272 = .ok (.iconst 1, 1) := by decide +kernel
theorem dX3_next_273 : decode cX3_next 273 = .ok (.if_icmp .ne 14, 3) := by decide +kernel
theorem dX3_next_276 : decode cX3_next 276 = .ok (.iload_n 3, 1) := by decide +kernel
theorem dX3_next_277 : decode cX3_next 277 = .ok (.bipush 6, 2) := by decide +kernel
theorem dX3_next_279 : decode cX3_next 279 = .ok (.if_icmp .ge 8, 3) := by decide +kernel
theorem dX3_next_282 : decode cX3_next 282 = .ok (.bipush 7, 2) := by decide +kernel
theorem dX3_next_284 : decode cX3_next 284 = .ok (.goto 5, 3) := by decide +kernel
theorem dX3_next_287 : decode cX3_next 287 = .ok (.bipush 8, 2) := by decide +kernel
theorem dX3_next_289 : decode cX3_next 289 = .ok (.ireturn, 1) := by decide +kernel
theorem dX3_next_290 : decode cX3_next 290 = .ok (.iload 5, 2) := by decide +kernel
theorem dX3_next_292 : decode cX3_next 292 = .ok (.ifCond .eq 42, 3) := by decide +kernel
theorem dX3_next_295 : decode cX3_next 295 = .ok (.bipush 10, 2) := by decide +kernel
theorem dX3_next_297 : decode cX3_next 297 = .ok (.aload_n 0, 1) := by decide +kernel
theorem dX3_next_298 : decode cX3_next 298 = .ok (.getfield 34, 3) := by decide +kernel
theorem dX3_next_301 : decode cX3_next 301 = .ok (.iload 4, 2) := by decide +kernel
theorem dX3_next_303 : decode cX3_next 303 = .ok (.iaload, 1) := by decide +kernel
theorem dX3_next_304 : decode cX3_next 304 = .ok (.imul, 1) := by decide +kernel
theorem dX3_next_305 : decode cX3_next 305 = .ok (.iload_n 3, 1) := by decide +kernel
theorem dX3_next_306 : decode cX3_next 306 = .ok (.iadd, 1) := by decide +kernel
theorem dX3_next_307 : decode cX3_next 307 = .ok (.bipush 50, 2) := by decide +kernel
theorem dX3_next_309 : decode cX3_next 309 = .ok (.if_icmp .gt 25, 3) := by decide +kernel
theorem dX3_next_312 : decode cX3_next 312 = .ok (.aload_n 0, 1) := by decide +kernel
theorem dX3_next_313 : decode cX3_next 313 = .ok (.getfield 34, 3) := by decide +kernel
theorem dX3_next_316 : decode cX3_next 316 = .ok (.iload 4, 2) := by decide +kernel
theorem dX3_next_318 : decode cX3_next 318 = .ok (.bipush 10, 2) := by decide +kernel
theorem dX3_next_320 : decode cX3_next 320 = .ok (.aload_n 0, 1) := by decide +kernel
theorem dX3_next_321 : decode cX3_next 321 = .ok (.getfield 34, 3) := by decide +kernel
theorem dX3_next_324 : decode cX3_next 324 = .ok (.iload 4, 2) := by decide +kernel
theorem dX3_next_326 : decode cX3_next 326 = .ok (.iaload, 1) := by decide +kernel
theorem dX3_next_327 : decode cX3_next 327 = .ok (.imul, 1) := by decide +kernel
theorem dX3_next_328 : decode cX3_next 328 = .ok (.iload_n 3, 1) := by decide +kernel
theorem dX3_next_329 : decode cX3_next 329 = .ok (.iadd, 1) := by decide +kernel
theorem dX3_next_330 : decode cX3_next 330 = .ok (.iastore, 1) := by decide +kernel
theorem dX3_next_331 : decode cX3_next 331 = .ok (.bipush 8, 2) := by decide +kernel
theorem dX3_next_333 : decode cX3_next 333 = .ok (.ireturn, 1) := by decide +kernel
theorem dX3_next_334 : decode cX3_next 334 = .ok (.iload_n 2, 1) := by decide +kernel
theorem dX3_next_335 : decode cX3_next 335 = .ok (.bipush 59, 2) := by decide +kernel
theorem dX3_next_337 : decode cX3_next 337 = .ok (.if_icmp .ne 7, 3) := by decide +kernel
theorem dX3_next_340 : decode cX3_next 340 = .ok (.iconst 0, 1) := by decide +kernel
theorem dX3_next_341 : decode cX3_next 341 = .ok (.goto 4, 3) := by decide +kernel
theorem dX3_next_344 : decode cX3_next 344 = .ok (.iconst (-1), 1) := by decide +kernel
theorem dX3_next_345 : decode cX3_next 345 = .ok (.ireturn, 1) := by decide +kernel
theorem dX3_next_346 : decode cX3_next 346 = .ok (.iload_n 2, 1) := by decide +kernel
theorem dX3_next_347 : decode cX3_next 347 = .ok (.bipush 59, 2) := by decide +kernel
theorem dX3_next_349 : decode cX3_next 349 = .ok (.if_icmp .ne 7, 3) := by decide +kernel
theorem dX3_next_352 : decode cX3_next 352 = .ok (.iconst 0, 1) := by decide +kernel
theorem dX3_next_353 : decode cX3_next 353 = .ok (.goto 4, 3) := by decide +kernel
theorem dX3_next_356 : decode cX3_next 356 = .ok (.iconst (-1), 1) := by decide +kernel
theorem dX3_next_357 : decode cX3_next 357 = .ok (.ireturn, 1) := by decide +kernel
theorem dX3_read_0 : decode cX3_read 0 = .ok (.aload_n 0, 1) := by decide +kernel
theorem dX3_read_1 : decode cX3_read 1 = .ok (.iconst 0, 1) := by decide +kernel
theorem dX3_read_2 : decode cX3_read 2 = .ok (.putfield 133, 3) := by decide +kernel
theorem dX3_read_5 : decode cX3_read 5 = .ok (.iconst 0, 1) := by decide +kernel
theorem dX3_read_6 : decode cX3_read 6 = .ok (.istore_n 1, 1) := by decide +kernel
theorem dX3_read_7 : decode cX3_read 7 = .ok (.iconst 0, 1) := by decide +kernel
theorem dX3_read_8 : decode cX3_read 8 = .ok (.istore_n 2, 1) := by decide +kernel
theorem dX3_read_9 : decode cX3_read 9 = .ok (.aload_n 0, 1) := by decide +kernel
theorem dX3_read_10 : decode cX3_read 10 = .ok (.iconst 0, 1) := by decide +kernel
theorem dX3_read_11 : decode cX3_read 11 = .ok (.putfield 136, 3) := by decide +kernel
theorem dX3_read_14 : decode cX3_read 14 = .ok (.iload_n 2, 1) := by decide +kernel
theorem dX3_read_15 : decode cX3_read 15 = .ok (.aload_n 0, 1) := by decide +kernel
theorem dX3_read_16 : decode cX3_read 16 = .ok (.getfield 130, 3) := by decide +kernel
theorem dX3_read_19 : decode cX3_read 19 = .ok (.if_icmp .ge 30, 3) := by decide +kernel
theorem dX3_read_22 : decode cX3_read 22 = .ok (.aload_n 0, 1) := by decide +kernel
theorem dX3_read_23 : decode cX3_read 23 = .ok (.iload_n 1, 1) := by decide +kernel
theorem dX3_read_24 : decode cX3_read 24 = .ok (.aload_n 0, 1) := by decide +kernel
theorem dX3_read_25 : decode cX3_read 25 = .ok (.getfield 16, 3) := by decide +kernel
theorem dX3_read_28 : decode cX3_read 28 = .ok (.iload_n 2, 1) := by decide +kernel
theorem dX3_read_29 : decode cX3_read 29 = .ok (.iaload, 1) := by decide +kernel
theorem dX3_read_30 : decode cX3_read 30 = .ok (.invokevirtual 140, 3) := by decide +kernel
theorem dX3_read_33 : decode cX3_read 33 = .ok (.istore_n 3, 1) := by decide +kernel
theorem dX3_read_34 : decode cX3_read 34 = .ok (.iload_n 3, 1) := by decide +kernel
theorem dX3_read_35 : decode cX3_read 35 = .ok (.iconst (-1), 1) := by decide +kernel
theorem dX3_read_36 : decode cX3_read 36 = .ok (.if_icmp .ne 5, 3) := by decide +kernel
theorem dX3_read_39 : decode cX3_read 39 = .ok (.iload_n 2, 1) := by decide +kernel
theorem dX3_read_40 : decode cX3_read 40 = .ok (.ireturn, 1) := by decide +kernel
theorem dX3_read_41 : decode cX3_read 41 = .ok (.iload_n 3, 1) := by decide +kernel
theorem dX3_read_42 : decode cX3_read 42 = .ok (.istore_n 1, 1) := by decide +kernel
theorem dX3_read_43 : decode cX3_read 43 = .ok (.iinc 2 1, 3) := by decide +kernel
theorem dX3_read_46 : decode cX3_read 46 = .ok (.goto (-32), 3) := by decide +kernel
theorem dX3_read_49 : decode cX3_read 49 = .ok (.aload_n 0, 1) := by decide +kernel
theorem dX3_read_50 : decode cX3_read 50 = .ok (.iload_n 1, 1) := by decide +kernel
theorem dX3_read_51 : decode cX3_read 51 = .ok (.bipush 6, 2) := by decide +kernel
theorem dX3_read_53 : decode cX3_read 53 = .ok (.if_icmp .le 7, 3) := by decide +kernel
theorem dX3_read_56 : decode cX3_read 56 = .ok (.iconst 1, 1) := by decide +kernel
theorem dX3_read_57 : decode cX3_read 57 = .ok (.goto 4, 3) := by decide +kernel
theorem dX3_read_60 : decode cX3_read 60 = .ok (.iconst 0, 1) := by decide +kernel
theorem dX3_read_61 : decode cX3_read 61 = .ok (.putfield 136, 3) := by decide +kernel
theorem dX3_read_64 : decode cX3_read 64 = .ok (.iload_n 2, 1) := by decide +kernel
theorem dX3_read_65 : decode cX3_read 65 = .ok (.ireturn, 1) := by decide +kernel
theorem dX3_firstError_0 : decode cX3_firstError 0 = .ok (.aload_n 0, 1) := by decide +kernel
theorem dX3_firstError_1 : decode cX3_firstError 1 = .ok (.iconst 0, 1) := by decide +kernel
theorem dX3_firstError_2 : decode cX3_firstError 2 = .ok (.putfield 37, 3) := by decide +kernel
theorem dX3_firstError_5 : decode cX3_firstError 5 = .ok (.aload_n 0, 1) := by decide +kernel
theorem dX3_firstError_6 : decode cX3_firstError 6 = .ok (.invokevirtual 143, 3) := by decide +kernel
theorem dX3_firstError_9 : decode cX3_firstError 9 = .ok (.ireturn, 1) := by decide +kernel
theorem dX3_load_0 : decode cX3_load 0 = .ok (.aload_n 0, 1) := by decide +kernel
theorem dX3_load_1 : decode cX3_load 1 = .ok (.invokevirtual 92, 3) := by decide +kernel
theorem dX3_load_4 : decode cX3_load 4 = .ok (.aload_n 0, 1) := by decide +kernel
theorem dX3_load_5 : decode cX3_load 5 = .ok (.invokevirtual 143, 3) := by decide +kernel
theorem dX3_load_8 : decode cX3_load 8 = .ok (.pop, 1) := by decide +kernel
theorem dX3_load_9 : decode cX3_load 9 = .ok (.aload_n 0, 1) := by decide +kernel
theorem dX3_load_10 : decode cX3_load 10 = .ok (.getfield 136, 3) := by decide +kernel
theorem dX3_load_13 : decode cX3_load 13 = .ok (.ifCond .ne 9, 3) := by decide +kernel
theorem dX3_load_16 : decode cX3_load 16 = .ok (.aload_n 0, 1) := by decide +kernel
theorem dX3_load_17 : decode cX3_load 17 = .ok (.iconst 1, 1) := by decide +kernel
theorem dX3_load_18 : decode cX3_load 18 = .ok (.invokevirtual 95, 3) := by decide +kernel
theorem dX3_load_21 : decode cX3_load 21 = .ok (.ireturn, 1) := by decide +kernel
theorem dX3_load_22 : decode cX3_load 22 = .ok (.aload_n 0, 1) := by decide +kernel
theorem dX3_load_23 : decode cX3_load 23 = .ok (.invokevirtual 98, 3) := by decide +kernel
theorem dX3_load_26 : decode cX3_load 26 = .ok (.aload_n 0, 1) := by decide +kernel
theorem dX3_load_27 : decode cX3_load 27 = .ok (.iconst 0, 1) := by decide +kernel
theorem dX3_load_28 : decode cX3_load 28 = .ok (.putfield 130, 3) := by decide +kernel
theorem dX3_load_31 : decode cX3_load 31 = .ok (.iconst 0, 1) := by decide +kernel
theorem dX3_load_32 : decode cX3_load 32 = .ok (.istore_n 1, 1) := by decide +kernel
theorem dX3_load_33 : decode cX3_load 33 = .ok (.iconst 1, 1) := by decide +kernel
theorem dX3_load_34 : decode cX3_load 34 = .ok (.istore_n 2, 1) := by decide +kernel
theorem dX3_load_35 : decode cX3_load 35 = .ok (.iload_n 2, 1) := by decide +kernel
theorem dX3_load_36 : decode cX3_load 36 = .ok (.ifCond .eq 124, 3) := by decide +kernel
theorem dX3_load_39 : decode cX3_load 39 = .ok (.iload_n 1, 1) := by decide +kernel
theorem dX3_load_40 : decode cX3_load 40 = .ok (.aload_n 0, 1) := by decide +kernel
theorem dX3_load_41 : decode cX3_load 41 = .ok (.getfield 133, 3) := by decide +kernel
theorem dX3_load_44 : decode cX3_load 44 = .ok (.if_icmp .ge 116, 3) := by decide +kernel
theorem dX3_load_47 : decode cX3_load 47 = .ok (.aload_n 0, 1) := by decide +kernel
theorem dX3_load_48 : decode cX3_load 48 = .ok (.iconst (-1), 1) := by decide +kernel
theorem dX3_load_49 : decode cX3_load 49 = .ok (.invokevirtual 88, 3) := by decide +kernel
theorem dX3_load_52 : decode cX3_load 52 = .ok (.aload_n 0, 1) := by decide +kernel
theorem dX3_load_53 : decode cX3_load 53 = .ok (.getfield 28, 3) := by decide +kernel
theorem dX3_load_56 : decode cX3_load 56 = .ok (.iload_n 1, 1) := by decide +kernel
theorem dX3_load_57 : decode cX3_load 57 = .ok (.iaload, 1) := by decide +kernel
theorem dX3_load_58 : decode cX3_load 58 = .ok (.istore_n 3, 1) := by decide +kernel
theorem dX3_load_59 : decode cX3_load 59 = .ok (.aload_n 0, 1) := by decide +kernel
theorem dX3_load_60 : decode cX3_load 60 = .ok (.getfield 31, 3) := by decide +kernel
theorem dX3_load_63 : decode cX3_load 63 = .ok (.iload_n 1, 1) := by decide +kernel
theorem dX3_load_64 : decode cX3_load 64 = .ok (.iaload, 1) := by decide +kernel
theorem dX3_load_65 : decode cX3_load 65 = .ok (.istore 4, 2) := by decide +kernel
theorem dX3_load_67 : decode cX3_load 67 = .ok (.aload_n 0, 1) := by decide +kernel
theorem dX3_load_68 : decode cX3_load 68 = .ok (.getfield 25, 3) := by decide +kernel
theorem dX3_load_71 : decode cX3_load 71 = .ok (.iload_n 1, 1) := by decide +kernel
theorem dX3_load_72 : decode cX3_load 72 = .ok (.iaload, 1) := by decide +kernel
theorem dX3_load_73 : decode cX3_load 73 = .ok (.ifCond .ne 46, 3) := by decide +kernel
theorem dX3_load_76 : decode cX3_load 76 = .ok (.aload_n 0, 1) := by decide +kernel
theorem dX3_load_77 : decode cX3_load 77 = .ok (.iload_n 3, 1) := by decide +kernel
theorem dX3_load_78 : decode cX3_load 78 = .ok (.iload 4, 2) := by decide +kernel
theorem dX3_load_80 : decode cX3_load 80 = .ok (.aload_n 0, 1) := by decide +kernel
theorem dX3_load_81 : decode cX3_load 81 = .ok (.getfield 34, 3) := by decide +kernel
theorem dX3_load_84 : decode cX3_load 84 = .ok (.iload_n 1, 1) := by decide +kernel
theorem dX3_load_85 : decode cX3_load 85 = .ok (.iaload, 1) := by decide +kernel
theorem dX3_load_86 : decode cX3_load 86 = .ok (.invokevirtual 115, 3) := by decide +kernel
theorem dX3_load_89 : decode cX3_load 89 = .ok (.ifCond .ne 7, 3) := by decide +kernel
theorem dX3_load_92 : decode cX3_load 92 = .ok (.iconst 1, 1) := by decide +kernel
theorem dX3_load_93 : decode cX3_load 93 = .ok (.goto 4, 3) := by decide +kernel
theorem dX3_load_96 : decode cX3_load 96 = .ok (.iconst 0, 1) := by decide +kernel
theorem dX3_load_97 : decode cX3_load 97 = .ok (.istore_n 2, 1) := by decide +kernel
theorem dX3_load_98 : decode cX3_load 98 = .ok (.iload_n 2, 1) := by decide +kernel
theorem dX3_load_99 : decode cX3_load 99 = .ok (.ifCond .eq 46, 3) := by decide +kernel
theorem dX3_load_102 : decode cX3_load 102 = .ok (.aload_n 0, 1) := by decide +kernel
theorem dX3_load_103 : decode cX3_load 103 = .ok (.iload_n 3, 1) := by decide +kernel
theorem dX3_load_104 : decode cX3_load 104 = .ok (.iload 4, 2) := by decide +kernel
theorem dX3_load_106 : decode cX3_load 106 = .ok (.aload_n 0, 1) := by decide +kernel
theorem dX3_load_107 : decode cX3_load 107 = .ok (.getfield 34, 3) := by decide +kernel
theorem dX3_load_110 : decode cX3_load 110 = .ok (.iload_n 1, 1) := by decide +kernel
theorem dX3_load_111 : decode cX3_load 111 = .ok (.iaload, 1) := by decide +kernel
theorem dX3_load_112 : decode cX3_load 112 = .ok (.invokevirtual 118, 3) := by decide +kernel
theorem dX3_load_115 : decode cX3_load 115 = .ok (.pop, 1) := by decide +kernel
theorem dX3_load_116 : decode cX3_load 116 = .ok (.goto 29, 3) := by decide +kernel
theorem dX3_load_119 : decode cX3_load 119 = .ok (.aload_n 0, 1) := by decide +kernel
theorem dX3_load_120 : decode cX3_load 120 = .ok (.iload_n 3, 1) := by decide +kernel
theorem dX3_load_121 : decode cX3_load 121 = .ok (.iload 4, 2) := by decide +kernel
theorem dX3_load_123 : decode cX3_load 123 = .ok (.invokevirtual 121, 3) := by decide +kernel
theorem dX3_load_126 : decode cX3_load 126 = .ok (.istore_n 2, 1) := by decide +kernel
theorem dX3_load_127 : decode cX3_load 127 = .ok (.iload_n 2, 1) := by decide +kernel
theorem dX3_load_128 : decode cX3_load 128 = .ok (.ifCond .eq 17, 3) := by decide +kernel
theorem dX3_load_131 : decode cX3_load 131 = .ok (.aload_n 0, 1) := by decide +kernel
theorem dX3_load_132 : decode cX3_load 132 = .ok (.iload_n 3, 1) := by decide +kernel
theorem dX3_load_133 : decode cX3_load 133 = .ok (.iload 4, 2) := by decide +kernel
theorem dX3_load_135 : decode cX3_load 135 = .ok (.aload_n 0, 1) := by decide +kernel
theorem dX3_load_136 : decode cX3_load 136 = .ok (.getfield 34, 3) := by decide +kernel
theorem dX3_load_139 : decode cX3_load 139 = .ok (.iload_n 1, 1) := by decide +kernel
theorem dX3_load_140 : decode cX3_load 140 = .ok (.iaload, 1) := by decide +kernel
theorem dX3_load_141 : decode cX3_load 141 = .ok (.invokevirtual 124, 3) := by decide +kernel
theorem dX3_load_144 : decode cX3_load 144 = .ok (.pop, 1) := by decide +kernel
theorem dX3_load_145 : decode cX3_load 145 = .ok (.iload_n 1, 1) := by decide +kernel
theorem dX3_load_146 : decode cX3_load 146 = .ok (.iload_n 2, 1) := by decide +kernel
theorem dX3_load_147 : decode cX3_load 147 = .ok (.ifCond .eq 7, 3) := by decide +kernel
theorem dX3_load_150 : decode cX3_load 150 = .ok (.iconst 1, 1) := by decide +kernel
theorem dX3_load_151 : decode cX3_load 151 = .ok (.goto 4, 3) := by decide +kernel
theorem dX3_load_154 : decode cX3_load 154 = .ok (.iconst 0, 1) := by decide +kernel
theorem dX3_load_155 : decode cX3_load 155 = .ok (.iadd, 1) := by decide +kernel
theorem dX3_load_156 : decode cX3_load 156 = .ok (.istore_n 1, 1) := by decide +kernel
theorem dX3_load_157 : decode cX3_load 157 = .ok (.goto (-122), 3) := by decide +kernel
theorem dX3_load_160 : decode cX3_load 160 = .ok (.iload_n 1, 1) := by decide +kernel
theorem dX3_load_161 : decode cX3_load 161 = .ok (.ireturn, 1) := by decide +kernel
theorem dX3_undo_0 : decode cX3_undo 0 = .ok (.aload_n 0, 1) := by decide +kernel
theorem dX3_undo_1 : decode cX3_undo 1 = .ok (.iconst 0, 1) := by decide +kernel
theorem dX3_undo_2 : decode cX3_undo 2 = .ok (.putfield 37, 3) := by decide +kernel
theorem dX3_undo_5 : decode cX3_undo 5 = .ok (.aload_n 0, 1) := by decide +kernel
theorem dX3_undo_6 : decode cX3_undo 6 = .ok (.getfield 85, 3) := by decide +kernel
theorem dX3_undo_9 : decode cX3_undo 9 = .ok (.ifCond .ne 9, 3) := by decide +kernel
theorem dX3_undo_12 : decode cX3_undo 12 = .ok (.aload_n 0, 1) := by decide +kernel
theorem dX3_undo_13 : decode cX3_undo 13 = .ok (.iconst 1, 1) := by decide +kernel
theorem dX3_undo_14 : decode cX3_undo 14 = .ok (.invokevirtual 95, 3) := by decide +kernel
theorem dX3_undo_17 : decode cX3_undo 17 = .ok (.ireturn, 1) := by decide +kernel
theorem dX3_undo_18 : decode cX3_undo 18 = .ok (.aload_n 0, 1) := by decide +kernel
theorem dX3_undo_19 : decode cX3_undo 19 = .ok (.dup, 1) := by decide +kernel
theorem dX3_undo_20 : decode cX3_undo 20 = .ok (.getfield 85, 3) := by decide +kernel
theorem dX3_undo_23 : decode cX3_undo 23 = .ok (.iconst 1, 1) := by decide +kernel
theorem dX3_undo_24 : decode cX3_undo 24 = .ok (.isub, 1) := by decide +kernel
theorem dX3_undo_25 : decode cX3_undo 25 = .ok (.putfield 85, 3) := by decide +kernel
theorem dX3_undo_28 : decode cX3_undo 28 = .ok (.iconst 0, 1) := by decide +kernel
theorem dX3_undo_29 : decode cX3_undo 29 = .ok (.istore_n 1, 1) := by decide +kernel
theorem dX3_undo_30 : decode cX3_undo 30 = .ok (.iload_n 1, 1) := by decide +kernel
theorem dX3_undo_31 : decode cX3_undo 31 = .ok (.sipush 551, 3) := by decide +kernel
theorem dX3_undo_34 : decode cX3_undo 34 = .ok (.if_icmp .ge 30, 3) := by decide +kernel
theorem dX3_undo_37 : decode cX3_undo 37 = .ok (.aload_n 0, 1) := by decide +kernel
theorem dX3_undo_38 : decode cX3_undo 38 = .ok (.getfield 7, 3) := by decide +kernel
theorem dX3_undo_41 : decode cX3_undo 41 = .ok (.iload_n 1, 1) := by decide +kernel
theorem dX3_undo_42 : decode cX3_undo 42 = .ok (.aload_n 0, 1) := by decide +kernel
theorem dX3_undo_43 : decode cX3_undo 43 = .ok (.getfield 13, 3) := by decide +kernel
theorem dX3_undo_46 : decode cX3_undo 46 = .ok (.sipush 551, 3) := by decide +kernel
theorem dX3_undo_49 : decode cX3_undo 49 = .ok (.aload_n 0, 1) := by decide +kernel
theorem dX3_undo_50 : decode cX3_undo 50 = .ok (.getfield 85, 3) := by decide +kernel
theorem dX3_undo_53 : decode cX3_undo 53 = .ok (.imul, 1) := by decide +kernel
theorem dX3_undo_54 : decode cX3_undo 54 = .ok (.iload_n 1, 1) := by decide +kernel
theorem dX3_undo_55 : decode cX3_undo 55 = .ok (.iadd, 1) := by decide +kernel
theorem dX3_undo_56 : decode cX3_undo 56 = .ok (.iaload, 1) := by decide +kernel
theorem dX3_undo_57 : decode cX3_undo 57 = .ok (.iastore, 1) := by decide +kernel
theorem dX3_undo_58 : decode cX3_undo 58 = .ok (.iinc 1 1, 3) := by decide +kernel
theorem dX3_undo_61 : decode cX3_undo 61 = .ok (.goto (-31), 3) := by decide +kernel
theorem dX3_undo_64 : decode cX3_undo 64 = .ok (.aload_n 0, 1) := by decide +kernel
theorem dX3_undo_65 : decode cX3_undo 65 = .ok (.getfield 85, 3) := by decide +kernel
theorem dX3_undo_68 : decode cX3_undo 68 = .ok (.ireturn, 1) := by decide +kernel
theorem dX3_plotNow_0 : decode cX3_plotNow 0 = .ok (.iload_n 2, 1) := by decide +kernel
theorem dX3_plotNow_1 : decode cX3_plotNow 1 = .ok (.tableswitch 116 0 7 #[47, 54, 60, 66, 72, 82, 92, 102], 47) := by decide +kernel
theorem dX3_plotNow_48 : decode cX3_plotNow 48 = .ok (.aload_n 0, 1) := by decide +kernel
theorem dX3_plotNow_49 : decode cX3_plotNow 49 = .ok (.getfield 7, 3) := by decide +kernel
theorem dX3_plotNow_52 : decode cX3_plotNow 52 = .ok (.iload_n 1, 1) := by decide +kernel
theorem dX3_plotNow_53 : decode cX3_plotNow 53 = .ok (.iaload, 1) := by decide +kernel
