theorem dL_counted_188 : decode cL_counted 188 = .ok (.iinc 6 1, 3) := by decide +kernel
theorem dL_counted_191 : decode cL_counted 191 = .ok (.goto (-185), 3) := by decide +kernel
theorem dL_counted_194 : decode cL_counted 194 = .ok (.iconst 0, 1) := by decide +kernel
theorem dL_counted_195 : decode cL_counted 195 = .ok (.istore 6, 2) := by decide +kernel
theorem dL_counted_197 : decode cL_counted 197 = .ok (.iload 6, 2) := by decide +kernel
theorem dL_counted_199 : decode cL_counted 199 = .ok (.bipush 10, 2) := by decide +kernel
theorem dL_counted_201 : decode cL_counted 201 = .ok (.if_icmp .ge 31, 3) := by decide +kernel
theorem dL_counted_204 : decode cL_counted 204 = .ok (.iload 5, 2) := by decide +kernel
theorem dL_counted_206 : decode cL_counted 206 = .ok (.iload_n 0, 1) := by decide +kernel
theorem dL_counted_207 : decode cL_counted 207 = .ok (.bipush 7, 2) := by decide +kernel
theorem dL_counted_209 : decode cL_counted 209 = .ok (.if_icmp .ne 13, 3) := by decide +kernel
theorem dL_counted_212 : decode cL_counted 212 = .ok (.aload_n 3, 1) := by decide +kernel
theorem dL_counted_213 : decode cL_counted 213 = .ok (.bipush 10, 2) := by decide +kernel
theorem dL_counted_215 : decode cL_counted 215 = .ok (.iload 6, 2) := by decide +kernel
theorem dL_counted_217 : decode cL_counted 217 = .ok (.iadd, 1) := by decide +kernel
theorem dL_counted_218 : decode cL_counted 218 = .ok (.iaload, 1) := by decide +kernel
theorem dL_counted_219 : decode cL_counted 219 = .ok (.goto 4, 3) := by decide +kernel
theorem dL_counted_222 : decode cL_counted 222 = .ok (.iconst 0, 1) := by decide +kernel
theorem dL_counted_223 : decode cL_counted 223 = .ok (.iadd, 1) := by decide +kernel
theorem dL_counted_224 : decode cL_counted 224 = .ok (.istore 5, 2) := by decide +kernel
theorem dL_counted_226 : decode cL_counted 226 = .ok (.iinc 6 1, 3) := by decide +kernel
theorem dL_counted_229 : decode cL_counted 229 = .ok (.goto (-32), 3) := by decide +kernel
theorem dL_counted_232 : decode cL_counted 232 = .ok (.iload_n 0, 1) := by decide +kernel
theorem dL_counted_233 : decode cL_counted 233 = .ok (.ifCond .ne 10, 3) := by decide +kernel
theorem dL_counted_236 : decode cL_counted 236 = .ok (.aload_n 3, 1) := by decide +kernel
theorem dL_counted_237 : decode cL_counted 237 = .ok (.bipush 30, 2) := by decide +kernel
theorem dL_counted_239 : decode cL_counted 239 = .ok (.iaload, 1) := by decide +kernel
theorem dL_counted_240 : decode cL_counted 240 = .ok (.goto 5, 3) := by decide +kernel
theorem dL_counted_243 : decode cL_counted 243 = .ok (.iload 5, 2) := by decide +kernel
theorem dL_counted_245 : decode cL_counted 245 = .ok (.ireturn, 1) := by decide +kernel
theorem dL_plots_0 : decode cL_plots 0 = .ok (.aload 5, 2) := by decide +kernel
theorem dL_plots_2 : decode cL_plots 2 = .ok (.bipush 30, 2) := by decide +kernel
theorem dL_plots_4 : decode cL_plots 4 = .ok (.iaload, 1) := by decide +kernel
theorem dL_plots_5 : decode cL_plots 5 = .ok (.istore 7, 2) := by decide +kernel
theorem dL_plots_7 : decode cL_plots 7 = .ok (.iload 7, 2) := by decide +kernel
theorem dL_plots_9 : decode cL_plots 9 = .ok (.istore 8, 2) := by decide +kernel
theorem dL_plots_11 : decode cL_plots 11 = .ok (.iconst 1, 1) := by decide +kernel
theorem dL_plots_12 : decode cL_plots 12 = .ok (.istore 9, 2) := by decide +kernel
theorem dL_plots_14 : decode cL_plots 14 = .ok (.iload 9, 2) := by decide +kernel
theorem dL_plots_16 : decode cL_plots 16 = .ok (.iconst 4, 1) := by decide +kernel
theorem dL_plots_17 : decode cL_plots 17 = .ok (.if_icmp .ge 183, 3) := by decide +kernel
theorem dL_plots_20 : decode cL_plots 20 = .ok (.aload_n 3, 1) := by decide +kernel
theorem dL_plots_21 : decode cL_plots 21 = .ok (.iload_n 1, 1) := by decide +kernel
theorem dL_plots_22 : decode cL_plots 22 = .ok (.iload 9, 2) := by decide +kernel
theorem dL_plots_24 : decode cL_plots 24 = .ok (.invokestatic 14, 3) := by decide +kernel
theorem dL_plots_27 : decode cL_plots 27 = .ok (.istore 10, 2) := by decide +kernel
theorem dL_plots_29 : decode cL_plots 29 = .ok (.iload 10, 2) := by decide +kernel
theorem dL_plots_31 : decode cL_plots 31 = .ok (.ifCond .eq 19, 3) := by decide +kernel
theorem dL_plots_34 : decode cL_plots 34 = .ok (.aload_n 3, 1) := by decide +kernel
theorem dL_plots_35 : decode cL_plots 35 = .ok (.iload_n 1, 1) := by decide +kernel
theorem dL_plots_36 : decode cL_plots 36 = .ok (.iload 9, 2) := by decide +kernel
theorem dL_plots_38 : decode cL_plots 38 = .ok (.invokestatic 22, 3) := by decide +kernel
theorem dL_plots_41 : decode cL_plots 41 = .ok (.aload_n 2, 1) := by decide +kernel
theorem dL_plots_42 : decode cL_plots 42 = .ok (.iload_n 1, 1) := by decide +kernel
theorem dL_plots_43 : decode cL_plots 43 = .ok (.invokestatic 26, 3) := by decide +kernel
theorem dL_plots_46 : decode cL_plots 46 = .ok (.iadd, 1) := by decide +kernel
theorem dL_plots_47 : decode cL_plots 47 = .ok (.goto 4, 3) := by decide +kernel
theorem dL_plots_50 : decode cL_plots 50 = .ok (.iconst 0, 1) := by decide +kernel
theorem dL_plots_51 : decode cL_plots 51 = .ok (.istore 11, 2) := by decide +kernel
theorem dL_plots_53 : decode cL_plots 53 = .ok (.iload 11, 2) := by decide +kernel
theorem dL_plots_55 : decode cL_plots 55 = .ok (.iload 8, 2) := by decide +kernel
theorem dL_plots_57 : decode cL_plots 57 = .ok (.if_icmp .le 8, 3) := by decide +kernel
theorem dL_plots_60 : decode cL_plots 60 = .ok (.iload 11, 2) := by decide +kernel
theorem dL_plots_62 : decode cL_plots 62 = .ok (.goto 5, 3) := by decide +kernel
theorem dL_plots_65 : decode cL_plots 65 = .ok (.iload 8, 2) := by decide +kernel
theorem dL_plots_67 : decode cL_plots 67 = .ok (.istore 8, 2) := by decide +kernel
theorem dL_plots_69 : decode cL_plots 69 = .ok (.aload_n 0, 1) := by decide +kernel
theorem dL_plots_70 : decode cL_plots 70 = .ok (.iload_n 1, 1) := by decide +kernel
theorem dL_plots_71 : decode cL_plots 71 = .ok (.iload 9, 2) := by decide +kernel
theorem dL_plots_73 : decode cL_plots 73 = .ok (.iconst 0, 1) := by decide +kernel
theorem dL_plots_74 : decode cL_plots 74 = .ok (.invokevirtual 56, 3) := by decide +kernel
theorem dL_plots_77 : decode cL_plots 77 = .ok (.iload 10, 2) := by decide +kernel
theorem dL_plots_79 : decode cL_plots 79 = .ok (.ifCond .eq 13, 3) := by decide +kernel
theorem dL_plots_82 : decode cL_plots 82 = .ok (.aload_n 3, 1) := by decide +kernel
theorem dL_plots_83 : decode cL_plots 83 = .ok (.iload_n 1, 1) := by decide +kernel
theorem dL_plots_84 : decode cL_plots 84 = .ok (.iload 9, 2) := by decide +kernel
theorem dL_plots_86 : decode cL_plots 86 = .ok (.invokestatic 29, 3) := by decide +kernel
theorem dL_plots_89 : decode cL_plots 89 = .ok (.goto 4, 3) := by decide +kernel
theorem dL_plots_92 : decode cL_plots 92 = .ok (.iconst (-1), 1) := by decide +kernel
theorem dL_plots_93 : decode cL_plots 93 = .ok (.if_icmp .ne 99, 3) := by decide +kernel
theorem dL_plots_96 : decode cL_plots 96 = .ok (.aload_n 0, 1) := by decide +kernel
theorem dL_plots_97 : decode cL_plots 97 = .ok (.iload_n 1, 1) := by decide +kernel
theorem dL_plots_98 : decode cL_plots 98 = .ok (.iload 9, 2) := by decide +kernel
theorem dL_plots_100 : decode cL_plots 100 = .ok (.iconst 1, 1) := by decide +kernel
theorem dL_plots_101 : decode cL_plots 101 = .ok (.invokevirtual 56, 3) := by decide +kernel
theorem dL_plots_104 : decode cL_plots 104 = .ok (.iload 10, 2) := by decide +kernel
theorem dL_plots_106 : decode cL_plots 106 = .ok (.ifCond .eq 13, 3) := by decide +kernel
theorem dL_plots_109 : decode cL_plots 109 = .ok (.aload_n 3, 1) := by decide +kernel
theorem dL_plots_110 : decode cL_plots 110 = .ok (.iload_n 1, 1) := by decide +kernel
theorem dL_plots_111 : decode cL_plots 111 = .ok (.iload 9, 2) := by decide +kernel
theorem dL_plots_113 : decode cL_plots 113 = .ok (.invokestatic 22, 3) := by decide +kernel
theorem dL_plots_116 : decode cL_plots 116 = .ok (.goto 4, 3) := by decide +kernel
theorem dL_plots_119 : decode cL_plots 119 = .ok (.iconst (-1), 1) := by decide +kernel
theorem dL_plots_120 : decode cL_plots 120 = .ok (.if_icmp .ne 72, 3) := by decide +kernel
theorem dL_plots_123 : decode cL_plots 123 = .ok (.aload_n 0, 1) := by decide +kernel
theorem dL_plots_124 : decode cL_plots 124 = .ok (.iload_n 1, 1) := by decide +kernel
theorem dL_plots_125 : decode cL_plots 125 = .ok (.iload 9, 2) := by decide +kernel
theorem dL_plots_127 : decode cL_plots 127 = .ok (.iconst 2, 1) := by decide +kernel
theorem dL_plots_128 : decode cL_plots 128 = .ok (.invokevirtual 56, 3) := by decide +kernel
theorem dL_plots_131 : decode cL_plots 131 = .ok (.iload 10, 2) := by decide +kernel
theorem dL_plots_133 : decode cL_plots 133 = .ok (.ifCond .eq 18, 3) := by decide +kernel
theorem dL_plots_136 : decode cL_plots 136 = .ok (.iload 11, 2) := by decide +kernel
theorem dL_plots_138 : decode cL_plots 138 = .ok (.iload 7, 2) := by decide +kernel
theorem dL_plots_140 : decode cL_plots 140 = .ok (.if_icmp .gt 7, 3) := by decide +kernel
theorem dL_plots_143 : decode cL_plots 143 = .ok (.iconst 1, 1) := by decide +kernel
theorem dL_plots_144 : decode cL_plots 144 = .ok (.goto 8, 3) := by decide +kernel
theorem dL_plots_147 : decode cL_plots 147 = .ok (.iconst 0, 1) := by decide +kernel
theorem dL_plots_148 : decode cL_plots 148 = .ok (.goto 4, 3) := by decide +kernel
theorem dL_plots_151 : decode cL_plots 151 = .ok (.iconst (-1), 1) := by decide +kernel
theorem dL_plots_152 : decode cL_plots 152 = .ok (.if_icmp .ne 40, 3) := by decide +kernel
theorem dL_plots_155 : decode cL_plots 155 = .ok (.aload_n 0, 1) := by decide +kernel
theorem dL_plots_156 : decode cL_plots 156 = .ok (.iload_n 1, 1) := by decide +kernel
theorem dL_plots_157 : decode cL_plots 157 = .ok (.iload 9, 2) := by decide +kernel
theorem dL_plots_159 : decode cL_plots 159 = .ok (.iconst 3, 1) := by decide +kernel
theorem dL_plots_160 : decode cL_plots 160 = .ok (.invokevirtual 56, 3) := by decide +kernel
theorem dL_plots_163 : decode cL_plots 163 = .ok (.iload 10, 2) := by decide +kernel
theorem dL_plots_165 : decode cL_plots 165 = .ok (.ifCond .eq 23, 3) := by decide +kernel
theorem dL_plots_168 : decode cL_plots 168 = .ok (.aload 4, 2) := by decide +kernel
theorem dL_plots_170 : decode cL_plots 170 = .ok (.iload_n 1, 1) := by decide +kernel
theorem dL_plots_171 : decode cL_plots 171 = .ok (.iaload, 1) := by decide +kernel
theorem dL_plots_172 : decode cL_plots 172 = .ok (.bipush 9, 2) := by decide +kernel
theorem dL_plots_174 : decode cL_plots 174 = .ok (.iload 9, 2) := by decide +kernel
theorem dL_plots_176 : decode cL_plots 176 = .ok (.imul, 1) := by decide +kernel
theorem dL_plots_177 : decode cL_plots 177 = .ok (.bipush 9, 2) := by decide +kernel
theorem dL_plots_179 : decode cL_plots 179 = .ok (.isub, 1) := by decide +kernel
theorem dL_plots_180 : decode cL_plots 180 = .ok (.ishr, 1) := by decide +kernel
theorem dL_plots_181 : decode cL_plots 181 = .ok (.sipush 511, 3) := by decide +kernel
theorem dL_plots_184 : decode cL_plots 184 = .ok (.iand, 1) := by decide +kernel
theorem dL_plots_185 : decode cL_plots 185 = .ok (.goto 4, 3) := by decide +kernel
theorem dL_plots_188 : decode cL_plots 188 = .ok (.iconst (-1), 1) := by decide +kernel
theorem dL_plots_189 : decode cL_plots 189 = .ok (.if_icmp .eq 5, 3) := by decide +kernel
theorem dL_plots_192 : decode cL_plots 192 = .ok (.iconst 0, 1) := by decide +kernel
theorem dL_plots_193 : decode cL_plots 193 = .ok (.ireturn, 1) := by decide +kernel
theorem dL_plots_194 : decode cL_plots 194 = .ok (.iinc 9 1, 3) := by decide +kernel
theorem dL_plots_197 : decode cL_plots 197 = .ok (.goto (-183), 3) := by decide +kernel
theorem dL_plots_200 : decode cL_plots 200 = .ok (.aload_n 0, 1) := by decide +kernel
theorem dL_plots_201 : decode cL_plots 201 = .ok (.iload_n 1, 1) := by decide +kernel
theorem dL_plots_202 : decode cL_plots 202 = .ok (.iconst 0, 1) := by decide +kernel
theorem dL_plots_203 : decode cL_plots 203 = .ok (.invokevirtual 62, 3) := by decide +kernel
theorem dL_plots_206 : decode cL_plots 206 = .ok (.aload_n 2, 1) := by decide +kernel
theorem dL_plots_207 : decode cL_plots 207 = .ok (.iload_n 1, 1) := by decide +kernel
theorem dL_plots_208 : decode cL_plots 208 = .ok (.iaload, 1) := by decide +kernel
theorem dL_plots_209 : decode cL_plots 209 = .ok (.iconst 3, 1) := by decide +kernel
theorem dL_plots_210 : decode cL_plots 210 = .ok (.iand, 1) := by decide +kernel
theorem dL_plots_211 : decode cL_plots 211 = .ok (.if_icmp .ne 65, 3) := by decide +kernel
theorem dL_plots_214 : decode cL_plots 214 = .ok (.aload_n 0, 1) := by decide +kernel
theorem dL_plots_215 : decode cL_plots 215 = .ok (.iload_n 1, 1) := by decide +kernel
theorem dL_plots_216 : decode cL_plots 216 = .ok (.iconst 1, 1) := by decide +kernel
theorem dL_plots_217 : decode cL_plots 217 = .ok (.invokevirtual 62, 3) := by decide +kernel
theorem dL_plots_220 : decode cL_plots 220 = .ok (.iload_n 1, 1) := by decide +kernel
theorem dL_plots_221 : decode cL_plots 221 = .ok (.iload 7, 2) := by decide +kernel
theorem dL_plots_223 : decode cL_plots 223 = .ok (.aload_n 2, 1) := by decide +kernel
theorem dL_plots_224 : decode cL_plots 224 = .ok (.aload_n 3, 1) := by decide +kernel
theorem dL_plots_225 : decode cL_plots 225 = .ok (.invokestatic 46, 3) := by decide +kernel
theorem dL_plots_228 : decode cL_plots 228 = .ok (.if_icmp .ne 48, 3) := by decide +kernel
theorem dL_plots_231 : decode cL_plots 231 = .ok (.aload_n 0, 1) := by decide +kernel
theorem dL_plots_232 : decode cL_plots 232 = .ok (.iload_n 1, 1) := by decide +kernel
theorem dL_plots_233 : decode cL_plots 233 = .ok (.iconst 2, 1) := by decide +kernel
theorem dL_plots_234 : decode cL_plots 234 = .ok (.invokevirtual 62, 3) := by decide +kernel
theorem dL_plots_237 : decode cL_plots 237 = .ok (.aload_n 3, 1) := by decide +kernel
theorem dL_plots_238 : decode cL_plots 238 = .ok (.iload_n 1, 1) := by decide +kernel
theorem dL_plots_239 : decode cL_plots 239 = .ok (.invokestatic 38, 3) := by decide +kernel
theorem dL_plots_242 : decode cL_plots 242 = .ok (.if_icmp .ne 34, 3) := by decide +kernel
theorem dL_plots_245 : decode cL_plots 245 = .ok (.aload_n 0, 1) := by decide +kernel
theorem dL_plots_246 : decode cL_plots 246 = .ok (.iload_n 1, 1) := by decide +kernel
theorem dL_plots_247 : decode cL_plots 247 = .ok (.iconst 3, 1) := by decide +kernel
theorem dL_plots_248 : decode cL_plots 248 = .ok (.invokevirtual 62, 3) := by decide +kernel
theorem dL_plots_251 : decode cL_plots 251 = .ok (.iload_n 1, 1) := by decide +kernel
theorem dL_plots_252 : decode cL_plots 252 = .ok (.iload 7, 2) := by decide +kernel
theorem dL_plots_254 : decode cL_plots 254 = .ok (.aload_n 2, 1) := by decide +kernel
theorem dL_plots_255 : decode cL_plots 255 = .ok (.aload_n 3, 1) := by decide +kernel
theorem dL_plots_256 : decode cL_plots 256 = .ok (.invokestatic 53, 3) := by decide +kernel
theorem dL_plots_259 : decode cL_plots 259 = .ok (.if_icmp .ne 17, 3) := by decide +kernel
theorem dL_plots_262 : decode cL_plots 262 = .ok (.aload_n 0, 1) := by decide +kernel
theorem dL_plots_263 : decode cL_plots 263 = .ok (.iload_n 1, 1) := by decide +kernel
theorem dL_plots_264 : decode cL_plots 264 = .ok (.iconst 4, 1) := by decide +kernel
theorem dL_plots_265 : decode cL_plots 265 = .ok (.invokevirtual 62, 3) := by decide +kernel
theorem dL_plots_268 : decode cL_plots 268 = .ok (.aload_n 2, 1) := by decide +kernel
theorem dL_plots_269 : decode cL_plots 269 = .ok (.iload_n 1, 1) := by decide +kernel
theorem dL_plots_270 : decode cL_plots 270 = .ok (.invokestatic 35, 3) := by decide +kernel
theorem dL_plots_273 : decode cL_plots 273 = .ok (.if_icmp .eq 5, 3) := by decide +kernel
theorem dL_plots_276 : decode cL_plots 276 = .ok (.iconst 0, 1) := by decide +kernel
theorem dL_plots_277 : decode cL_plots 277 = .ok (.ireturn, 1) := by decide +kernel
theorem dL_plots_278 : decode cL_plots 278 = .ok (.aload_n 0, 1) := by decide +kernel
theorem dL_plots_279 : decode cL_plots 279 = .ok (.iload_n 1, 1) := by decide +kernel
theorem dL_plots_280 : decode cL_plots 280 = .ok (.iconst 5, 1) := by decide +kernel
theorem dL_plots_281 : decode cL_plots 281 = .ok (.invokevirtual 62, 3) := by decide +kernel
theorem dL_plots_284 : decode cL_plots 284 = .ok (.aload_n 2, 1) := by decide +kernel
theorem dL_plots_285 : decode cL_plots 285 = .ok (.iload_n 1, 1) := by decide +kernel
theorem dL_plots_286 : decode cL_plots 286 = .ok (.invokestatic 8, 3) := by decide +kernel
theorem dL_plots_289 : decode cL_plots 289 = .ok (.if_icmp .ne 84, 3) := by decide +kernel
theorem dL_plots_292 : decode cL_plots 292 = .ok (.aload_n 0, 1) := by decide +kernel
theorem dL_plots_293 : decode cL_plots 293 = .ok (.iload_n 1, 1) := by decide +kernel
theorem dL_plots_294 : decode cL_plots 294 = .ok (.bipush 6, 2) := by decide +kernel
theorem dL_plots_296 : decode cL_plots 296 = .ok (.invokevirtual 62, 3) := by decide +kernel
theorem dL_plots_299 : decode cL_plots 299 = .ok (.aload_n 2, 1) := by decide +kernel
theorem dL_plots_300 : decode cL_plots 300 = .ok (.iload_n 1, 1) := by decide +kernel
theorem dL_plots_301 : decode cL_plots 301 = .ok (.invokestatic 32, 3) := by decide +kernel
theorem dL_plots_304 : decode cL_plots 304 = .ok (.if_icmp .ne 69, 3) := by decide +kernel
theorem dL_plots_307 : decode cL_plots 307 = .ok (.aload_n 0, 1) := by decide +kernel
theorem dL_plots_308 : decode cL_plots 308 = .ok (.iload_n 1, 1) := by decide +kernel
theorem dL_plots_309 : decode cL_plots 309 = .ok (.bipush 7, 2) := by decide +kernel
theorem dL_plots_311 : decode cL_plots 311 = .ok (.invokevirtual 62, 3) := by decide +kernel
theorem dL_plots_314 : decode cL_plots 314 = .ok (.iconst 1, 1) := by decide +kernel
theorem dL_plots_315 : decode cL_plots 315 = .ok (.if_icmp .ne 7, 3) := by decide +kernel
theorem dL_plots_318 : decode cL_plots 318 = .ok (.iconst 1, 1) := by decide +kernel
theorem dL_plots_319 : decode cL_plots 319 = .ok (.goto 4, 3) := by decide +kernel
theorem dL_plots_322 : decode cL_plots 322 = .ok (.iconst 0, 1) := by decide +kernel
theorem dL_plots_323 : decode cL_plots 323 = .ok (.iload_n 1, 1) := by decide +kernel
theorem dL_plots_324 : decode cL_plots 324 = .ok (.ifCond .eq 12, 3) := by decide +kernel
theorem dL_plots_327 : decode cL_plots 327 = .ok (.iload_n 1, 1) := by decide +kernel
theorem dL_plots_328 : decode cL_plots 328 = .ok (.aload 6, 2) := by decide +kernel
theorem dL_plots_330 : decode cL_plots 330 = .ok (.invokestatic 42, 3) := by decide +kernel
theorem dL_plots_333 : decode cL_plots 333 = .ok (.ifCond .eq 7, 3) := by decide +kernel
theorem dL_plots_336 : decode cL_plots 336 = .ok (.iconst 1, 1) := by decide +kernel
theorem dL_plots_337 : decode cL_plots 337 = .ok (.goto 4, 3) := by decide +kernel
theorem dL_plots_340 : decode cL_plots 340 = .ok (.iconst 0, 1) := by decide +kernel
theorem dL_plots_341 : decode cL_plots 341 = .ok (.if_icmp .ne 32, 3) := by decide +kernel
theorem dL_plots_344 : decode cL_plots 344 = .ok (.aload_n 0, 1) := by decide +kernel
theorem dL_plots_345 : decode cL_plots 345 = .ok (.iload_n 1, 1) := by decide +kernel
theorem dL_plots_346 : decode cL_plots 346 = .ok (.bipush 8, 2) := by decide +kernel
theorem dL_plots_348 : decode cL_plots 348 = .ok (.invokevirtual 62, 3) := by decide +kernel
theorem dL_plots_351 : decode cL_plots 351 = .ok (.aload_n 2, 1) := by decide +kernel
theorem dL_plots_352 : decode cL_plots 352 = .ok (.iload_n 1, 1) := by decide +kernel
theorem dL_plots_353 : decode cL_plots 353 = .ok (.invokestatic 50, 3) := by decide +kernel
theorem dL_plots_356 : decode cL_plots 356 = .ok (.if_icmp .ne 17, 3) := by decide +kernel
theorem dL_plots_359 : decode cL_plots 359 = .ok (.aload_n 0, 1) := by decide +kernel
theorem dL_plots_360 : decode cL_plots 360 = .ok (.iload_n 1, 1) := by decide +kernel
theorem dL_plots_361 : decode cL_plots 361 = .ok (.invokevirtual 66, 3) := by decide +kernel
theorem dL_plots_364 : decode cL_plots 364 = .ok (.iload 8, 2) := by decide +kernel
theorem dL_plots_366 : decode cL_plots 366 = .ok (.if_icmp .ne 7, 3) := by decide +kernel
theorem dL_plots_369 : decode cL_plots 369 = .ok (.iconst 1, 1) := by decide +kernel
theorem dL_plots_370 : decode cL_plots 370 = .ok (.goto 4, 3) := by decide +kernel
theorem dL_plots_373 : decode cL_plots 373 = .ok (.iconst 0, 1) := by decide +kernel
theorem dL_plots_374 : decode cL_plots 374 = .ok (.ireturn, 1) := by decide +kernel
theorem dL_told_0 : decode cL_told 0 = .ok (.bipush 40, 2) := by decide +kernel
theorem dL_told_2 : decode cL_told 2 = .ok (.newarray .int, 2) := by decide +kernel
theorem dL_told_4 : decode cL_told 4 = .ok (.astore 7, 2) := by decide +kernel
theorem dL_told_6 : decode cL_told 6 = .ok (.iconst (-1), 1) := by decide +kernel
theorem dL_told_7 : decode cL_told 7 = .ok (.aload_n 3, 1) := by decide +kernel
theorem dL_told_8 : decode cL_told 8 = .ok (.aload 4, 2) := by decide +kernel
theorem dL_told_10 : decode cL_told 10 = .ok (.aload 7, 2) := by decide +kernel
theorem dL_told_12 : decode cL_told 12 = .ok (.invokestatic 70, 3) := by decide +kernel
theorem dL_told_15 : decode cL_told 15 = .ok (.iconst 0, 1) := by decide +kernel
theorem dL_told_16 : decode cL_told 16 = .ok (.istore 8, 2) := by decide +kernel
theorem dL_told_18 : decode cL_told 18 = .ok (.iload 8, 2) := by decide +kernel
theorem dL_told_20 : decode cL_told 20 = .ok (.iconst 4, 1) := by decide +kernel
theorem dL_told_21 : decode cL_told 21 = .ok (.if_icmp .ge 54, 3) := by decide +kernel
theorem dL_told_24 : decode cL_told 24 = .ok (.aload_n 0, 1) := by decide +kernel
theorem dL_told_25 : decode cL_told 25 = .ok (.iload_n 1, 1) := by decide +kernel
theorem dL_told_26 : decode cL_told 26 = .ok (.iconst 3, 1) := by decide +kernel
theorem dL_told_27 : decode cL_told 27 = .ok (.iload 8, 2) := by decide +kernel
theorem dL_told_29 : decode cL_told 29 = .ok (.imul, 1) := by decide +kernel
theorem dL_told_30 : decode cL_told 30 = .ok (.ishr, 1) := by decide +kernel
theorem dL_told_31 : decode cL_told 31 = .ok (.iconst 5, 1) := by decide +kernel
theorem dL_told_32 : decode cL_told 32 = .ok (.iload 8, 2) := by decide +kernel
theorem dL_told_34 : decode cL_told 34 = .ok (.imul, 1) := by decide +kernel
theorem dL_told_35 : decode cL_told 35 = .ok (.iadd, 1) := by decide +kernel
theorem dL_told_36 : decode cL_told 36 = .ok (.iload 8, 2) := by decide +kernel
theorem dL_told_38 : decode cL_told 38 = .ok (.iconst 2, 1) := by decide +kernel
theorem dL_told_39 : decode cL_told 39 = .ok (.if_icmp .ge 8, 3) := by decide +kernel
theorem dL_told_42 : decode cL_told 42 = .ok (.bipush 40, 2) := by decide +kernel
theorem dL_told_44 : decode cL_told 44 = .ok (.goto 5, 3) := by decide +kernel
theorem dL_told_47 : decode cL_told 47 = .ok (.bipush 14, 2) := by decide +kernel
theorem dL_told_49 : decode cL_told 49 = .ok (.invokestatic 74, 3) := by decide +kernel
theorem dL_told_52 : decode cL_told 52 = .ok (.aload_n 3, 1) := by decide +kernel
theorem dL_told_53 : decode cL_told 53 = .ok (.aload 4, 2) := by decide +kernel
theorem dL_told_55 : decode cL_told 55 = .ok (.aload 5, 2) := by decide +kernel
theorem dL_told_57 : decode cL_told 57 = .ok (.aload 6, 2) := by decide +kernel
theorem dL_told_59 : decode cL_told 59 = .ok (.aload 7, 2) := by decide +kernel
theorem dL_told_61 : decode cL_told 61 = .ok (.invokestatic 77, 3) := by decide +kernel
theorem dL_told_64 : decode cL_told 64 = .ok (.ifCond .ne 5, 3) := by decide +kernel
theorem dL_told_67 : decode cL_told 67 = .ok (.iconst 0, 1) := by decide +kernel
theorem dL_told_68 : decode cL_told 68 = .ok (.ireturn, 1) := by decide +kernel
theorem dL_told_69 : decode cL_told 69 = .ok (.iinc 8 1, 3) := by decide +kernel
theorem dL_told_72 : decode cL_told 72 = .ok (.goto (-54), 3) := by decide +kernel
theorem dL_told_75 : decode cL_told 75 = .ok (.iconst 0, 1) := by decide +kernel
theorem dL_told_76 : decode cL_told 76 = .ok (.istore 8, 2) := by decide +kernel
theorem dL_told_78 : decode cL_told 78 = .ok (.iload 8, 2) := by decide +kernel
theorem dL_told_80 : decode cL_told 80 = .ok (.bipush 8, 2) := by decide +kernel
theorem dL_told_82 : decode cL_told 82 = .ok (.if_icmp .ge 32, 3) := by decide +kernel
theorem dL_told_85 : decode cL_told 85 = .ok (.aload_n 0, 1) := by decide +kernel
theorem dL_told_86 : decode cL_told 86 = .ok (.iload 8, 2) := by decide +kernel
theorem dL_told_88 : decode cL_told 88 = .ok (.invokevirtual 81, 3) := by decide +kernel
theorem dL_told_91 : decode cL_told 91 = .ok (.iload 8, 2) := by decide +kernel
theorem dL_told_93 : decode cL_told 93 = .ok (.aload_n 3, 1) := by decide +kernel
theorem dL_told_94 : decode cL_told 94 = .ok (.aload 4, 2) := by decide +kernel
theorem dL_told_96 : decode cL_told 96 = .ok (.aload 6, 2) := by decide +kernel
theorem dL_told_98 : decode cL_told 98 = .ok (.aload 7, 2) := by decide +kernel
theorem dL_told_100 : decode cL_told 100 = .ok (.invokestatic 84, 3) := by decide +kernel
theorem dL_told_103 : decode cL_told 103 = .ok (.if_icmp .eq 5, 3) := by decide +kernel
theorem dL_told_106 : decode cL_told 106 = .ok (.iconst 0, 1) := by decide +kernel
theorem dL_told_107 : decode cL_told 107 = .ok (.ireturn, 1) := by decide +kernel
theorem dL_told_108 : decode cL_told 108 = .ok (.iinc 8 1, 3) := by decide +kernel
theorem dL_told_111 : decode cL_told 111 = .ok (.goto (-33), 3) := by decide +kernel
theorem dL_told_114 : decode cL_told 114 = .ok (.iload_n 2, 1) := by decide +kernel
theorem dL_told_115 : decode cL_told 115 = .ok (.bipush 10, 2) := by decide +kernel
theorem dL_told_117 : decode cL_told 117 = .ok (.invokestatic 74, 3) := by decide +kernel
theorem dL_told_120 : decode cL_told 120 = .ok (.istore 8, 2) := by decide +kernel
theorem dL_told_122 : decode cL_told 122 = .ok (.iconst 0, 1) := by decide +kernel
theorem dL_told_123 : decode cL_told 123 = .ok (.istore 9, 2) := by decide +kernel
theorem dL_told_125 : decode cL_told 125 = .ok (.iconst 0, 1) := by decide +kernel
theorem dL_told_126 : decode cL_told 126 = .ok (.istore 10, 2) := by decide +kernel
theorem dL_told_128 : decode cL_told 128 = .ok (.iconst 0, 1) := by decide +kernel
theorem dL_told_129 : decode cL_told 129 = .ok (.istore 11, 2) := by decide +kernel
theorem dL_told_131 : decode cL_told 131 = .ok (.iconst 0, 1) := by decide +kernel
theorem dL_told_132 : decode cL_told 132 = .ok (.istore 12, 2) := by decide +kernel
theorem dL_told_134 : decode cL_told 134 = .ok (.iconst 0, 1) := by decide +kernel
theorem dL_told_135 : decode cL_told 135 = .ok (.istore 13, 2) := by decide +kernel
theorem dL_told_137 : decode cL_told 137 = .ok (.iload 13, 2) := by decide +kernel
theorem dL_told_139 : decode cL_told 139 = .ok (.bipush 40, 2) := by decide +kernel
theorem dL_told_141 : decode cL_told 141 = .ok (.if_icmp .ge 148, 3) := by decide +kernel
theorem dL_told_144 : decode cL_told 144 = .ok (.iload 10, 2) := by decide +kernel
theorem dL_told_146 : decode cL_told 146 = .ok (.iload 13, 2) := by decide +kernel
theorem dL_told_148 : decode cL_told 148 = .ok (.aload 6, 2) := by decide +kernel
theorem dL_told_150 : decode cL_told 150 = .ok (.bipush 30, 2) := by decide +kernel
theorem dL_told_152 : decode cL_told 152 = .ok (.iaload, 1) := by decide +kernel
theorem dL_told_153 : decode cL_told 153 = .ok (.aload_n 3, 1) := by decide +kernel
theorem dL_told_154 : decode cL_told 154 = .ok (.aload 4, 2) := by decide +kernel
theorem dL_told_156 : decode cL_told 156 = .ok (.invokestatic 46, 3) := by decide +kernel
theorem dL_told_159 : decode cL_told 159 = .ok (.iload 8, 2) := by decide +kernel
theorem dL_told_161 : decode cL_told 161 = .ok (.if_icmp .ne 7, 3) := by decide +kernel
theorem dL_told_164 : decode cL_told 164 = .ok (.iconst 1, 1) := by decide +kernel
theorem dL_told_165 : decode cL_told 165 = .ok (.goto 4, 3) := by decide +kernel
theorem dL_told_168 : decode cL_told 168 = .ok (.iconst 0, 1) := by decide +kernel
theorem dL_told_169 : decode cL_told 169 = .ok (.iadd, 1) := by decide +kernel
theorem dL_told_170 : decode cL_told 170 = .ok (.istore 10, 2) := by decide +kernel
theorem dL_told_172 : decode cL_told 172 = .ok (.iload 11, 2) := by decide +kernel
theorem dL_told_174 : decode cL_told 174 = .ok (.aload_n 3, 1) := by decide +kernel
theorem dL_told_175 : decode cL_told 175 = .ok (.iload 13, 2) := by decide +kernel
theorem dL_told_177 : decode cL_told 177 = .ok (.invokestatic 35, 3) := by decide +kernel
theorem dL_told_180 : decode cL_told 180 = .ok (.iload 8, 2) := by decide +kernel
theorem dL_told_182 : decode cL_told 182 = .ok (.if_icmp .ne 7, 3) := by decide +kernel
theorem dL_told_185 : decode cL_told 185 = .ok (.iconst 1, 1) := by decide +kernel
theorem dL_told_186 : decode cL_told 186 = .ok (.goto 4, 3) := by decide +kernel
theorem dL_told_189 : decode cL_told 189 = .ok (.iconst 0, 1) := by decide +kernel
theorem dL_told_190 : decode cL_told 190 = .ok (.iadd, 1) := by decide +kernel
theorem dL_told_191 : decode cL_told 191 = .ok (.istore 11, 2) := by decide +kernel
theorem dL_told_193 : decode cL_told 193 = .ok (.iconst 1, 1) := by decide +kernel
theorem dL_told_194 : decode cL_told 194 = .ok (.istore 14, 2) := by decide +kernel
theorem dL_told_196 : decode cL_told 196 = .ok (.iload 14, 2) := by decide +kernel
theorem dL_told_198 : decode cL_told 198 = .ok (.iconst 4, 1) := by decide +kernel
theorem dL_told_199 : decode cL_told 199 = .ok (.if_icmp .ge 84, 3) := by decide +kernel
theorem dL_told_202 : decode cL_told 202 = .ok (.iload 9, 2) := by decide +kernel
theorem dL_told_204 : decode cL_told 204 = .ok (.aload 4, 2) := by decide +kernel
theorem dL_told_206 : decode cL_told 206 = .ok (.iload 13, 2) := by decide +kernel
theorem dL_told_208 : decode cL_told 208 = .ok (.iload 14, 2) := by decide +kernel
theorem dL_told_210 : decode cL_told 210 = .ok (.invokestatic 14, 3) := by decide +kernel
theorem dL_told_213 : decode cL_told 213 = .ok (.ifCond .eq 21, 3) := by decide +kernel
theorem dL_told_216 : decode cL_told 216 = .ok (.aload 4, 2) := by decide +kernel
