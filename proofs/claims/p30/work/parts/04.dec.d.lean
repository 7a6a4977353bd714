theorem dL_hauled_0 : decode cL_hauled 0 = .ok (.iconst 4, 1) := by decide +kernel
theorem dL_hauled_1 : decode cL_hauled 1 = .ok (.newarray .int, 2) := by decide +kernel
theorem dL_hauled_3 : decode cL_hauled 3 = .ok (.astore_n 3, 1) := by decide +kernel
theorem dL_hauled_4 : decode cL_hauled 4 = .ok (.iconst 4, 1) := by decide +kernel
theorem dL_hauled_5 : decode cL_hauled 5 = .ok (.newarray .int, 2) := by decide +kernel
theorem dL_hauled_7 : decode cL_hauled 7 = .ok (.astore 4, 2) := by decide +kernel
theorem dL_hauled_9 : decode cL_hauled 9 = .ok (.iconst 0, 1) := by decide +kernel
theorem dL_hauled_10 : decode cL_hauled 10 = .ok (.istore 5, 2) := by decide +kernel
theorem dL_hauled_12 : decode cL_hauled 12 = .ok (.iload 5, 2) := by decide +kernel
theorem dL_hauled_14 : decode cL_hauled 14 = .ok (.iconst 4, 1) := by decide +kernel
theorem dL_hauled_15 : decode cL_hauled 15 = .ok (.if_icmp .ge 33, 3) := by decide +kernel
theorem dL_hauled_18 : decode cL_hauled 18 = .ok (.aload_n 3, 1) := by decide +kernel
theorem dL_hauled_19 : decode cL_hauled 19 = .ok (.iload 5, 2) := by decide +kernel
theorem dL_hauled_21 : decode cL_hauled 21 = .ok (.aload_n 0, 1) := by decide +kernel
theorem dL_hauled_22 : decode cL_hauled 22 = .ok (.iload 5, 2) := by decide +kernel
theorem dL_hauled_24 : decode cL_hauled 24 = .ok (.iload_n 1, 1) := by decide +kernel
theorem dL_hauled_25 : decode cL_hauled 25 = .ok (.iload_n 2, 1) := by decide +kernel
theorem dL_hauled_26 : decode cL_hauled 26 = .ok (.invokestatic 139, 3) := by decide +kernel
theorem dL_hauled_29 : decode cL_hauled 29 = .ok (.iastore, 1) := by decide +kernel
theorem dL_hauled_30 : decode cL_hauled 30 = .ok (.aload 4, 2) := by decide +kernel
theorem dL_hauled_32 : decode cL_hauled 32 = .ok (.iload 5, 2) := by decide +kernel
theorem dL_hauled_34 : decode cL_hauled 34 = .ok (.aload_n 0, 1) := by decide +kernel
theorem dL_hauled_35 : decode cL_hauled 35 = .ok (.iload 5, 2) := by decide +kernel
theorem dL_hauled_37 : decode cL_hauled 37 = .ok (.iconst 1, 1) := by decide +kernel
theorem dL_hauled_38 : decode cL_hauled 38 = .ok (.invokestatic 98, 3) := by decide +kernel
theorem dL_hauled_41 : decode cL_hauled 41 = .ok (.iastore, 1) := by decide +kernel
theorem dL_hauled_42 : decode cL_hauled 42 = .ok (.iinc 5 1, 3) := by decide +kernel
theorem dL_hauled_45 : decode cL_hauled 45 = .ok (.goto (-33), 3) := by decide +kernel
theorem dL_hauled_48 : decode cL_hauled 48 = .ok (.aload_n 0, 1) := by decide +kernel
theorem dL_hauled_49 : decode cL_hauled 49 = .ok (.iconst 1, 1) := by decide +kernel
theorem dL_hauled_50 : decode cL_hauled 50 = .ok (.invokestatic 93, 3) := by decide +kernel
theorem dL_hauled_53 : decode cL_hauled 53 = .ok (.istore 5, 2) := by decide +kernel
theorem dL_hauled_55 : decode cL_hauled 55 = .ok (.aload_n 0, 1) := by decide +kernel
theorem dL_hauled_56 : decode cL_hauled 56 = .ok (.iconst 0, 1) := by decide +kernel
theorem dL_hauled_57 : decode cL_hauled 57 = .ok (.invokevirtual 105, 3) := by decide +kernel
theorem dL_hauled_60 : decode cL_hauled 60 = .ok (.lstore 6, 2) := by decide +kernel
theorem dL_hauled_62 : decode cL_hauled 62 = .ok (.aload_n 0, 1) := by decide +kernel
theorem dL_hauled_63 : decode cL_hauled 63 = .ok (.iconst 1, 1) := by decide +kernel
theorem dL_hauled_64 : decode cL_hauled 64 = .ok (.invokevirtual 105, 3) := by decide +kernel
theorem dL_hauled_67 : decode cL_hauled 67 = .ok (.lstore 8, 2) := by decide +kernel
theorem dL_hauled_69 : decode cL_hauled 69 = .ok (.aload_n 0, 1) := by decide +kernel
theorem dL_hauled_70 : decode cL_hauled 70 = .ok (.bipush 7, 2) := by decide +kernel
theorem dL_hauled_72 : decode cL_hauled 72 = .ok (.invokestatic 93, 3) := by decide +kernel
theorem dL_hauled_75 : decode cL_hauled 75 = .ok (.istore 10, 2) := by decide +kernel
theorem dL_hauled_77 : decode cL_hauled 77 = .ok (.aload_n 0, 1) := by decide +kernel
theorem dL_hauled_78 : decode cL_hauled 78 = .ok (.invokevirtual 175, 3) := by decide +kernel
theorem dL_hauled_81 : decode cL_hauled 81 = .ok (.istore 11, 2) := by decide +kernel
theorem dL_hauled_83 : decode cL_hauled 83 = .ok (.iload 11, 2) := by decide +kernel
theorem dL_hauled_85 : decode cL_hauled 85 = .ok (.iconst (-1), 1) := by decide +kernel
theorem dL_hauled_86 : decode cL_hauled 86 = .ok (.if_icmp .eq 18, 3) := by decide +kernel
theorem dL_hauled_89 : decode cL_hauled 89 = .ok (.aload_n 0, 1) := by decide +kernel
theorem dL_hauled_90 : decode cL_hauled 90 = .ok (.iload 11, 2) := by decide +kernel
theorem dL_hauled_92 : decode cL_hauled 92 = .ok (.iconst 4, 1) := by decide +kernel
theorem dL_hauled_93 : decode cL_hauled 93 = .ok (.invokestatic 98, 3) := by decide +kernel
theorem dL_hauled_96 : decode cL_hauled 96 = .ok (.iload_n 1, 1) := by decide +kernel
theorem dL_hauled_97 : decode cL_hauled 97 = .ok (.if_icmp .gt 7, 3) := by decide +kernel
theorem dL_hauled_100 : decode cL_hauled 100 = .ok (.iconst 1, 1) := by decide +kernel
theorem dL_hauled_101 : decode cL_hauled 101 = .ok (.goto 4, 3) := by decide +kernel
theorem dL_hauled_104 : decode cL_hauled 104 = .ok (.iconst 0, 1) := by decide +kernel
theorem dL_hauled_105 : decode cL_hauled 105 = .ok (.istore 12, 2) := by decide +kernel
theorem dL_hauled_107 : decode cL_hauled 107 = .ok (.aload_n 0, 1) := by decide +kernel
theorem dL_hauled_108 : decode cL_hauled 108 = .ok (.iload_n 1, 1) := by decide +kernel
theorem dL_hauled_109 : decode cL_hauled 109 = .ok (.iload_n 2, 1) := by decide +kernel
theorem dL_hauled_110 : decode cL_hauled 110 = .ok (.invokestatic 128, 3) := by decide +kernel
theorem dL_hauled_113 : decode cL_hauled 113 = .ok (.istore 13, 2) := by decide +kernel
theorem dL_hauled_115 : decode cL_hauled 115 = .ok (.iconst 0, 1) := by decide +kernel
theorem dL_hauled_116 : decode cL_hauled 116 = .ok (.istore 14, 2) := by decide +kernel
theorem dL_hauled_118 : decode cL_hauled 118 = .ok (.iconst 0, 1) := by decide +kernel
theorem dL_hauled_119 : decode cL_hauled 119 = .ok (.istore 15, 2) := by decide +kernel
theorem dL_hauled_121 : decode cL_hauled 121 = .ok (.iload 13, 2) := by decide +kernel
theorem dL_hauled_123 : decode cL_hauled 123 = .ok (.ifCond .lt 23, 3) := by decide +kernel
theorem dL_hauled_126 : decode cL_hauled 126 = .ok (.iload 13, 2) := by decide +kernel
theorem dL_hauled_128 : decode cL_hauled 128 = .ok (.iload_n 2, 1) := by decide +kernel
theorem dL_hauled_129 : decode cL_hauled 129 = .ok (.if_icmp .gt 17, 3) := by decide +kernel
theorem dL_hauled_132 : decode cL_hauled 132 = .ok (.iload 12, 2) := by decide +kernel
theorem dL_hauled_134 : decode cL_hauled 134 = .ok (.ifCond .ne 8, 3) := by decide +kernel
theorem dL_hauled_137 : decode cL_hauled 137 = .ok (.iload 13, 2) := by decide +kernel
theorem dL_hauled_139 : decode cL_hauled 139 = .ok (.ifCond .ne 7, 3) := by decide +kernel
theorem dL_hauled_142 : decode cL_hauled 142 = .ok (.iconst 1, 1) := by decide +kernel
theorem dL_hauled_143 : decode cL_hauled 143 = .ok (.goto 4, 3) := by decide +kernel
theorem dL_hauled_146 : decode cL_hauled 146 = .ok (.iconst 0, 1) := by decide +kernel
theorem dL_hauled_147 : decode cL_hauled 147 = .ok (.istore 16, 2) := by decide +kernel
theorem dL_hauled_149 : decode cL_hauled 149 = .ok (.iconst 0, 1) := by decide +kernel
theorem dL_hauled_150 : decode cL_hauled 150 = .ok (.istore 17, 2) := by decide +kernel
theorem dL_hauled_152 : decode cL_hauled 152 = .ok (.iload 17, 2) := by decide +kernel
theorem dL_hauled_154 : decode cL_hauled 154 = .ok (.iconst 4, 1) := by decide +kernel
theorem dL_hauled_155 : decode cL_hauled 155 = .ok (.if_icmp .ge 119, 3) := by decide +kernel
theorem dL_hauled_158 : decode cL_hauled 158 = .ok (.iload 16, 2) := by decide +kernel
theorem dL_hauled_160 : decode cL_hauled 160 = .ok (.ifCond .eq 52, 3) := by decide +kernel
theorem dL_hauled_163 : decode cL_hauled 163 = .ok (.aload_n 3, 1) := by decide +kernel
theorem dL_hauled_164 : decode cL_hauled 164 = .ok (.iload 17, 2) := by decide +kernel
theorem dL_hauled_166 : decode cL_hauled 166 = .ok (.iaload, 1) := by decide +kernel
theorem dL_hauled_167 : decode cL_hauled 167 = .ok (.ifCond .lt 45, 3) := by decide +kernel
theorem dL_hauled_170 : decode cL_hauled 170 = .ok (.aload_n 0, 1) := by decide +kernel
theorem dL_hauled_171 : decode cL_hauled 171 = .ok (.iload 17, 2) := by decide +kernel
theorem dL_hauled_173 : decode cL_hauled 173 = .ok (.iconst 1, 1) := by decide +kernel
theorem dL_hauled_174 : decode cL_hauled 174 = .ok (.invokestatic 98, 3) := by decide +kernel
theorem dL_hauled_177 : decode cL_hauled 177 = .ok (.aload 4, 2) := by decide +kernel
theorem dL_hauled_179 : decode cL_hauled 179 = .ok (.iload 17, 2) := by decide +kernel
theorem dL_hauled_181 : decode cL_hauled 181 = .ok (.iaload, 1) := by decide +kernel
theorem dL_hauled_182 : decode cL_hauled 182 = .ok (.aload_n 3, 1) := by decide +kernel
theorem dL_hauled_183 : decode cL_hauled 183 = .ok (.iload 17, 2) := by decide +kernel
theorem dL_hauled_185 : decode cL_hauled 185 = .ok (.iaload, 1) := by decide +kernel
theorem dL_hauled_186 : decode cL_hauled 186 = .ok (.iadd, 1) := by decide +kernel
theorem dL_hauled_187 : decode cL_hauled 187 = .ok (.if_icmp .ne 25, 3) := by decide +kernel
theorem dL_hauled_190 : decode cL_hauled 190 = .ok (.aload_n 3, 1) := by decide +kernel
theorem dL_hauled_191 : decode cL_hauled 191 = .ok (.iload 17, 2) := by decide +kernel
theorem dL_hauled_193 : decode cL_hauled 193 = .ok (.iaload, 1) := by decide +kernel
theorem dL_hauled_194 : decode cL_hauled 194 = .ok (.ifCond .eq 14, 3) := by decide +kernel
theorem dL_hauled_197 : decode cL_hauled 197 = .ok (.aload_n 0, 1) := by decide +kernel
theorem dL_hauled_198 : decode cL_hauled 198 = .ok (.iload 17, 2) := by decide +kernel
theorem dL_hauled_200 : decode cL_hauled 200 = .ok (.iconst 4, 1) := by decide +kernel
theorem dL_hauled_201 : decode cL_hauled 201 = .ok (.invokestatic 98, 3) := by decide +kernel
theorem dL_hauled_204 : decode cL_hauled 204 = .ok (.iload_n 1, 1) := by decide +kernel
theorem dL_hauled_205 : decode cL_hauled 205 = .ok (.if_icmp .gt 7, 3) := by decide +kernel
theorem dL_hauled_208 : decode cL_hauled 208 = .ok (.iconst 1, 1) := by decide +kernel
theorem dL_hauled_209 : decode cL_hauled 209 = .ok (.goto 4, 3) := by decide +kernel
theorem dL_hauled_212 : decode cL_hauled 212 = .ok (.iconst 0, 1) := by decide +kernel
theorem dL_hauled_213 : decode cL_hauled 213 = .ok (.istore 16, 2) := by decide +kernel
theorem dL_hauled_215 : decode cL_hauled 215 = .ok (.iload 14, 2) := by decide +kernel
theorem dL_hauled_217 : decode cL_hauled 217 = .ok (.aload_n 0, 1) := by decide +kernel
theorem dL_hauled_218 : decode cL_hauled 218 = .ok (.iload 17, 2) := by decide +kernel
theorem dL_hauled_220 : decode cL_hauled 220 = .ok (.iconst 2, 1) := by decide +kernel
theorem dL_hauled_221 : decode cL_hauled 221 = .ok (.invokestatic 98, 3) := by decide +kernel
theorem dL_hauled_224 : decode cL_hauled 224 = .ok (.aload_n 3, 1) := by decide +kernel
theorem dL_hauled_225 : decode cL_hauled 225 = .ok (.iload 17, 2) := by decide +kernel
theorem dL_hauled_227 : decode cL_hauled 227 = .ok (.iaload, 1) := by decide +kernel
theorem dL_hauled_228 : decode cL_hauled 228 = .ok (.imul, 1) := by decide +kernel
theorem dL_hauled_229 : decode cL_hauled 229 = .ok (.iadd, 1) := by decide +kernel
theorem dL_hauled_230 : decode cL_hauled 230 = .ok (.istore 14, 2) := by decide +kernel
theorem dL_hauled_232 : decode cL_hauled 232 = .ok (.iload 15, 2) := by decide +kernel
theorem dL_hauled_234 : decode cL_hauled 234 = .ok (.aload_n 3, 1) := by decide +kernel
theorem dL_hauled_235 : decode cL_hauled 235 = .ok (.iload 17, 2) := by decide +kernel
theorem dL_hauled_237 : decode cL_hauled 237 = .ok (.iaload, 1) := by decide +kernel
theorem dL_hauled_238 : decode cL_hauled 238 = .ok (.ifCond .le 7, 3) := by decide +kernel
theorem dL_hauled_241 : decode cL_hauled 241 = .ok (.iconst 1, 1) := by decide +kernel
theorem dL_hauled_242 : decode cL_hauled 242 = .ok (.goto 4, 3) := by decide +kernel
theorem dL_hauled_245 : decode cL_hauled 245 = .ok (.iconst 0, 1) := by decide +kernel
theorem dL_hauled_246 : decode cL_hauled 246 = .ok (.iadd, 1) := by decide +kernel
theorem dL_hauled_247 : decode cL_hauled 247 = .ok (.istore 15, 2) := by decide +kernel
theorem dL_hauled_249 : decode cL_hauled 249 = .ok (.lload 8, 2) := by decide +kernel
theorem dL_hauled_251 : decode cL_hauled 251 = .ok (.aload_n 3, 1) := by decide +kernel
theorem dL_hauled_252 : decode cL_hauled 252 = .ok (.iload 17, 2) := by decide +kernel
theorem dL_hauled_254 : decode cL_hauled 254 = .ok (.iaload, 1) := by decide +kernel
theorem dL_hauled_255 : decode cL_hauled 255 = .ok (.i2l, 1) := by decide +kernel
theorem dL_hauled_256 : decode cL_hauled 256 = .ok (.aload_n 0, 1) := by decide +kernel
theorem dL_hauled_257 : decode cL_hauled 257 = .ok (.iload 17, 2) := by decide +kernel
theorem dL_hauled_259 : decode cL_hauled 259 = .ok (.iconst 0, 1) := by decide +kernel
theorem dL_hauled_260 : decode cL_hauled 260 = .ok (.invokestatic 98, 3) := by decide +kernel
theorem dL_hauled_263 : decode cL_hauled 263 = .ok (.i2l, 1) := by decide +kernel
theorem dL_hauled_264 : decode cL_hauled 264 = .ok (.lmul, 1) := by decide +kernel
theorem dL_hauled_265 : decode cL_hauled 265 = .ok (.ladd, 1) := by decide +kernel
theorem dL_hauled_266 : decode cL_hauled 266 = .ok (.lstore 8, 2) := by decide +kernel
theorem dL_hauled_268 : decode cL_hauled 268 = .ok (.iinc 17 1, 3) := by decide +kernel
theorem dL_hauled_271 : decode cL_hauled 271 = .ok (.goto (-119), 3) := by decide +kernel
theorem dL_hauled_274 : decode cL_hauled 274 = .ok (.iload 16, 2) := by decide +kernel
theorem dL_hauled_276 : decode cL_hauled 276 = .ok (.ifCond .eq 70, 3) := by decide +kernel
theorem dL_hauled_279 : decode cL_hauled 279 = .ok (.iload 14, 2) := by decide +kernel
theorem dL_hauled_281 : decode cL_hauled 281 = .ok (.iload 13, 2) := by decide +kernel
theorem dL_hauled_283 : decode cL_hauled 283 = .ok (.if_icmp .ne 63, 3) := by decide +kernel
theorem dL_hauled_286 : decode cL_hauled 286 = .ok (.aload_n 0, 1) := by decide +kernel
theorem dL_hauled_287 : decode cL_hauled 287 = .ok (.iconst 1, 1) := by decide +kernel
theorem dL_hauled_288 : decode cL_hauled 288 = .ok (.invokestatic 93, 3) := by decide +kernel
theorem dL_hauled_291 : decode cL_hauled 291 = .ok (.iload 5, 2) := by decide +kernel
theorem dL_hauled_293 : decode cL_hauled 293 = .ok (.iload 13, 2) := by decide +kernel
theorem dL_hauled_295 : decode cL_hauled 295 = .ok (.iadd, 1) := by decide +kernel
theorem dL_hauled_296 : decode cL_hauled 296 = .ok (.if_icmp .ne 50, 3) := by decide +kernel
theorem dL_hauled_299 : decode cL_hauled 299 = .ok (.aload_n 0, 1) := by decide +kernel
theorem dL_hauled_300 : decode cL_hauled 300 = .ok (.iconst 0, 1) := by decide +kernel
theorem dL_hauled_301 : decode cL_hauled 301 = .ok (.invokevirtual 105, 3) := by decide +kernel
theorem dL_hauled_304 : decode cL_hauled 304 = .ok (.lload 6, 2) := by decide +kernel
theorem dL_hauled_306 : decode cL_hauled 306 = .ok (.iload_n 1, 1) := by decide +kernel
theorem dL_hauled_307 : decode cL_hauled 307 = .ok (.i2l, 1) := by decide +kernel
theorem dL_hauled_308 : decode cL_hauled 308 = .ok (.iload 13, 2) := by decide +kernel
theorem dL_hauled_310 : decode cL_hauled 310 = .ok (.i2l, 1) := by decide +kernel
theorem dL_hauled_311 : decode cL_hauled 311 = .ok (.lmul, 1) := by decide +kernel
theorem dL_hauled_312 : decode cL_hauled 312 = .ok (.ladd, 1) := by decide +kernel
theorem dL_hauled_313 : decode cL_hauled 313 = .ok (.lcmp, 1) := by decide +kernel
theorem dL_hauled_314 : decode cL_hauled 314 = .ok (.ifCond .ne 32, 3) := by decide +kernel
theorem dL_hauled_317 : decode cL_hauled 317 = .ok (.aload_n 0, 1) := by decide +kernel
theorem dL_hauled_318 : decode cL_hauled 318 = .ok (.iconst 1, 1) := by decide +kernel
theorem dL_hauled_319 : decode cL_hauled 319 = .ok (.invokevirtual 105, 3) := by decide +kernel
theorem dL_hauled_322 : decode cL_hauled 322 = .ok (.lload 8, 2) := by decide +kernel
theorem dL_hauled_324 : decode cL_hauled 324 = .ok (.lcmp, 1) := by decide +kernel
theorem dL_hauled_325 : decode cL_hauled 325 = .ok (.ifCond .ne 21, 3) := by decide +kernel
theorem dL_hauled_328 : decode cL_hauled 328 = .ok (.aload_n 0, 1) := by decide +kernel
theorem dL_hauled_329 : decode cL_hauled 329 = .ok (.bipush 7, 2) := by decide +kernel
theorem dL_hauled_331 : decode cL_hauled 331 = .ok (.invokestatic 93, 3) := by decide +kernel
theorem dL_hauled_334 : decode cL_hauled 334 = .ok (.iload 10, 2) := by decide +kernel
theorem dL_hauled_336 : decode cL_hauled 336 = .ok (.iload 15, 2) := by decide +kernel
theorem dL_hauled_338 : decode cL_hauled 338 = .ok (.iadd, 1) := by decide +kernel
theorem dL_hauled_339 : decode cL_hauled 339 = .ok (.if_icmp .ne 7, 3) := by decide +kernel
theorem dL_hauled_342 : decode cL_hauled 342 = .ok (.iconst 1, 1) := by decide +kernel
theorem dL_hauled_343 : decode cL_hauled 343 = .ok (.goto 4, 3) := by decide +kernel
theorem dL_hauled_346 : decode cL_hauled 346 = .ok (.iconst 0, 1) := by decide +kernel
theorem dL_hauled_347 : decode cL_hauled 347 = .ok (.istore 16, 2) := by decide +kernel
theorem dL_hauled_349 : decode cL_hauled 349 = .ok (.aload_n 0, 1) := by decide +kernel
theorem dL_hauled_350 : decode cL_hauled 350 = .ok (.invokevirtual 175, 3) := by decide +kernel
theorem dL_hauled_353 : decode cL_hauled 353 = .ok (.istore 17, 2) := by decide +kernel
theorem dL_hauled_355 : decode cL_hauled 355 = .ok (.iload 16, 2) := by decide +kernel
theorem dL_hauled_357 : decode cL_hauled 357 = .ok (.ifCond .eq 38, 3) := by decide +kernel
theorem dL_hauled_360 : decode cL_hauled 360 = .ok (.iload 17, 2) := by decide +kernel
theorem dL_hauled_362 : decode cL_hauled 362 = .ok (.iconst (-1), 1) := by decide +kernel
theorem dL_hauled_363 : decode cL_hauled 363 = .ok (.if_icmp .eq 28, 3) := by decide +kernel
theorem dL_hauled_366 : decode cL_hauled 366 = .ok (.aload_n 0, 1) := by decide +kernel
theorem dL_hauled_367 : decode cL_hauled 367 = .ok (.iload 17, 2) := by decide +kernel
theorem dL_hauled_369 : decode cL_hauled 369 = .ok (.iconst 4, 1) := by decide +kernel
theorem dL_hauled_370 : decode cL_hauled 370 = .ok (.invokestatic 98, 3) := by decide +kernel
theorem dL_hauled_373 : decode cL_hauled 373 = .ok (.iload_n 1, 1) := by decide +kernel
theorem dL_hauled_374 : decode cL_hauled 374 = .ok (.if_icmp .gt 17, 3) := by decide +kernel
theorem dL_hauled_377 : decode cL_hauled 377 = .ok (.iload_n 2, 1) := by decide +kernel
theorem dL_hauled_378 : decode cL_hauled 378 = .ok (.iload 13, 2) := by decide +kernel
theorem dL_hauled_380 : decode cL_hauled 380 = .ok (.isub, 1) := by decide +kernel
theorem dL_hauled_381 : decode cL_hauled 381 = .ok (.aload_n 0, 1) := by decide +kernel
theorem dL_hauled_382 : decode cL_hauled 382 = .ok (.iload 17, 2) := by decide +kernel
theorem dL_hauled_384 : decode cL_hauled 384 = .ok (.iconst 2, 1) := by decide +kernel
theorem dL_hauled_385 : decode cL_hauled 385 = .ok (.invokestatic 98, 3) := by decide +kernel
theorem dL_hauled_388 : decode cL_hauled 388 = .ok (.if_icmp .ge 7, 3) := by decide +kernel
theorem dL_hauled_391 : decode cL_hauled 391 = .ok (.iconst 1, 1) := by decide +kernel
theorem dL_hauled_392 : decode cL_hauled 392 = .ok (.goto 4, 3) := by decide +kernel
theorem dL_hauled_395 : decode cL_hauled 395 = .ok (.iconst 0, 1) := by decide +kernel
theorem dL_hauled_396 : decode cL_hauled 396 = .ok (.ireturn, 1) := by decide +kernel
theorem dL_letOut_0 : decode cL_letOut 0 = .ok (.aload_n 0, 1) := by decide +kernel
theorem dL_letOut_1 : decode cL_letOut 1 = .ok (.iconst 1, 1) := by decide +kernel
theorem dL_letOut_2 : decode cL_letOut 2 = .ok (.invokestatic 93, 3) := by decide +kernel
theorem dL_letOut_5 : decode cL_letOut 5 = .ok (.istore_n 3, 1) := by decide +kernel
theorem dL_letOut_6 : decode cL_letOut 6 = .ok (.aload_n 0, 1) := by decide +kernel
theorem dL_letOut_7 : decode cL_letOut 7 = .ok (.iconst 0, 1) := by decide +kernel
theorem dL_letOut_8 : decode cL_letOut 8 = .ok (.invokevirtual 105, 3) := by decide +kernel
theorem dL_letOut_11 : decode cL_letOut 11 = .ok (.lstore 4, 2) := by decide +kernel
theorem dL_letOut_13 : decode cL_letOut 13 = .ok (.aload_n 0, 1) := by decide +kernel
theorem dL_letOut_14 : decode cL_letOut 14 = .ok (.iconst 1, 1) := by decide +kernel
theorem dL_letOut_15 : decode cL_letOut 15 = .ok (.invokevirtual 105, 3) := by decide +kernel
theorem dL_letOut_18 : decode cL_letOut 18 = .ok (.lstore 6, 2) := by decide +kernel
theorem dL_letOut_20 : decode cL_letOut 20 = .ok (.iconst 4, 1) := by decide +kernel
theorem dL_letOut_21 : decode cL_letOut 21 = .ok (.newarray .int, 2) := by decide +kernel
theorem dL_letOut_23 : decode cL_letOut 23 = .ok (.astore 8, 2) := by decide +kernel
theorem dL_letOut_25 : decode cL_letOut 25 = .ok (.iconst 0, 1) := by decide +kernel
theorem dL_letOut_26 : decode cL_letOut 26 = .ok (.istore 9, 2) := by decide +kernel
theorem dL_letOut_28 : decode cL_letOut 28 = .ok (.iload 9, 2) := by decide +kernel
theorem dL_letOut_30 : decode cL_letOut 30 = .ok (.iconst 4, 1) := by decide +kernel
theorem dL_letOut_31 : decode cL_letOut 31 = .ok (.if_icmp .ge 21, 3) := by decide +kernel
theorem dL_letOut_34 : decode cL_letOut 34 = .ok (.aload 8, 2) := by decide +kernel
theorem dL_letOut_36 : decode cL_letOut 36 = .ok (.iload 9, 2) := by decide +kernel
theorem dL_letOut_38 : decode cL_letOut 38 = .ok (.aload_n 0, 1) := by decide +kernel
theorem dL_letOut_39 : decode cL_letOut 39 = .ok (.iload 9, 2) := by decide +kernel
theorem dL_letOut_41 : decode cL_letOut 41 = .ok (.iconst 1, 1) := by decide +kernel
theorem dL_letOut_42 : decode cL_letOut 42 = .ok (.invokestatic 98, 3) := by decide +kernel
theorem dL_letOut_45 : decode cL_letOut 45 = .ok (.iastore, 1) := by decide +kernel
theorem dL_letOut_46 : decode cL_letOut 46 = .ok (.iinc 9 1, 3) := by decide +kernel
theorem dL_letOut_49 : decode cL_letOut 49 = .ok (.goto (-21), 3) := by decide +kernel
theorem dL_letOut_52 : decode cL_letOut 52 = .ok (.aload_n 0, 1) := by decide +kernel
theorem dL_letOut_53 : decode cL_letOut 53 = .ok (.iload_n 1, 1) := by decide +kernel
theorem dL_letOut_54 : decode cL_letOut 54 = .ok (.iload_n 2, 1) := by decide +kernel
theorem dL_letOut_55 : decode cL_letOut 55 = .ok (.invokestatic 132, 3) := by decide +kernel
theorem dL_letOut_58 : decode cL_letOut 58 = .ok (.istore 9, 2) := by decide +kernel
theorem dL_letOut_60 : decode cL_letOut 60 = .ok (.iconst 0, 1) := by decide +kernel
theorem dL_letOut_61 : decode cL_letOut 61 = .ok (.istore 10, 2) := by decide +kernel
theorem dL_letOut_63 : decode cL_letOut 63 = .ok (.iload 9, 2) := by decide +kernel
theorem dL_letOut_65 : decode cL_letOut 65 = .ok (.ifCond .lt 53, 3) := by decide +kernel
theorem dL_letOut_68 : decode cL_letOut 68 = .ok (.iload 9, 2) := by decide +kernel
theorem dL_letOut_70 : decode cL_letOut 70 = .ok (.iload_n 2, 1) := by decide +kernel
theorem dL_letOut_71 : decode cL_letOut 71 = .ok (.if_icmp .gt 47, 3) := by decide +kernel
theorem dL_letOut_74 : decode cL_letOut 74 = .ok (.iload 9, 2) := by decide +kernel
theorem dL_letOut_76 : decode cL_letOut 76 = .ok (.iload_n 3, 1) := by decide +kernel
theorem dL_letOut_77 : decode cL_letOut 77 = .ok (.if_icmp .gt 41, 3) := by decide +kernel
theorem dL_letOut_80 : decode cL_letOut 80 = .ok (.aload_n 0, 1) := by decide +kernel
theorem dL_letOut_81 : decode cL_letOut 81 = .ok (.iconst 1, 1) := by decide +kernel
theorem dL_letOut_82 : decode cL_letOut 82 = .ok (.invokestatic 93, 3) := by decide +kernel
theorem dL_letOut_85 : decode cL_letOut 85 = .ok (.iload_n 3, 1) := by decide +kernel
theorem dL_letOut_86 : decode cL_letOut 86 = .ok (.iload 9, 2) := by decide +kernel
theorem dL_letOut_88 : decode cL_letOut 88 = .ok (.isub, 1) := by decide +kernel
theorem dL_letOut_89 : decode cL_letOut 89 = .ok (.if_icmp .ne 29, 3) := by decide +kernel
theorem dL_letOut_92 : decode cL_letOut 92 = .ok (.aload_n 0, 1) := by decide +kernel
theorem dL_letOut_93 : decode cL_letOut 93 = .ok (.iconst 0, 1) := by decide +kernel
theorem dL_letOut_94 : decode cL_letOut 94 = .ok (.invokevirtual 105, 3) := by decide +kernel
theorem dL_letOut_97 : decode cL_letOut 97 = .ok (.lload 4, 2) := by decide +kernel
theorem dL_letOut_99 : decode cL_letOut 99 = .ok (.lcmp, 1) := by decide +kernel
theorem dL_letOut_100 : decode cL_letOut 100 = .ok (.ifCond .ne 18, 3) := by decide +kernel
theorem dL_letOut_103 : decode cL_letOut 103 = .ok (.aload_n 0, 1) := by decide +kernel
theorem dL_letOut_104 : decode cL_letOut 104 = .ok (.iconst 1, 1) := by decide +kernel
theorem dL_letOut_105 : decode cL_letOut 105 = .ok (.invokevirtual 105, 3) := by decide +kernel
theorem dL_letOut_108 : decode cL_letOut 108 = .ok (.lload 6, 2) := by decide +kernel
theorem dL_letOut_110 : decode cL_letOut 110 = .ok (.lcmp, 1) := by decide +kernel
theorem dL_letOut_111 : decode cL_letOut 111 = .ok (.ifCond .ne 7, 3) := by decide +kernel
theorem dL_letOut_114 : decode cL_letOut 114 = .ok (.iconst 1, 1) := by decide +kernel
theorem dL_letOut_115 : decode cL_letOut 115 = .ok (.goto 4, 3) := by decide +kernel
theorem dL_letOut_118 : decode cL_letOut 118 = .ok (.iconst 0, 1) := by decide +kernel
theorem dL_letOut_119 : decode cL_letOut 119 = .ok (.istore 11, 2) := by decide +kernel
theorem dL_letOut_121 : decode cL_letOut 121 = .ok (.iconst 0, 1) := by decide +kernel
theorem dL_letOut_122 : decode cL_letOut 122 = .ok (.istore 12, 2) := by decide +kernel
theorem dL_letOut_124 : decode cL_letOut 124 = .ok (.iload 12, 2) := by decide +kernel
theorem dL_letOut_126 : decode cL_letOut 126 = .ok (.iconst 4, 1) := by decide +kernel
theorem dL_letOut_127 : decode cL_letOut 127 = .ok (.if_icmp .ge 72, 3) := by decide +kernel
theorem dL_letOut_130 : decode cL_letOut 130 = .ok (.aload 8, 2) := by decide +kernel
theorem dL_letOut_132 : decode cL_letOut 132 = .ok (.iload 12, 2) := by decide +kernel
theorem dL_letOut_134 : decode cL_letOut 134 = .ok (.iaload, 1) := by decide +kernel
theorem dL_letOut_135 : decode cL_letOut 135 = .ok (.aload_n 0, 1) := by decide +kernel
theorem dL_letOut_136 : decode cL_letOut 136 = .ok (.iload 12, 2) := by decide +kernel
theorem dL_letOut_138 : decode cL_letOut 138 = .ok (.iconst 1, 1) := by decide +kernel
theorem dL_letOut_139 : decode cL_letOut 139 = .ok (.invokestatic 98, 3) := by decide +kernel
theorem dL_letOut_142 : decode cL_letOut 142 = .ok (.isub, 1) := by decide +kernel
theorem dL_letOut_143 : decode cL_letOut 143 = .ok (.istore 13, 2) := by decide +kernel
theorem dL_letOut_145 : decode cL_letOut 145 = .ok (.iload 11, 2) := by decide +kernel
theorem dL_letOut_147 : decode cL_letOut 147 = .ok (.ifCond .eq 28, 3) := by decide +kernel
theorem dL_letOut_150 : decode cL_letOut 150 = .ok (.iload 13, 2) := by decide +kernel
theorem dL_letOut_152 : decode cL_letOut 152 = .ok (.ifCond .lt 23, 3) := by decide +kernel
theorem dL_letOut_155 : decode cL_letOut 155 = .ok (.iload 13, 2) := by decide +kernel
theorem dL_letOut_157 : decode cL_letOut 157 = .ok (.ifCond .eq 14, 3) := by decide +kernel
theorem dL_letOut_160 : decode cL_letOut 160 = .ok (.aload_n 0, 1) := by decide +kernel
theorem dL_letOut_161 : decode cL_letOut 161 = .ok (.iload 12, 2) := by decide +kernel
theorem dL_letOut_163 : decode cL_letOut 163 = .ok (.iconst 5, 1) := by decide +kernel
theorem dL_letOut_164 : decode cL_letOut 164 = .ok (.invokestatic 98, 3) := by decide +kernel
theorem dL_letOut_167 : decode cL_letOut 167 = .ok (.iload_n 1, 1) := by decide +kernel
theorem dL_letOut_168 : decode cL_letOut 168 = .ok (.if_icmp .le 7, 3) := by decide +kernel
theorem dL_letOut_171 : decode cL_letOut 171 = .ok (.iconst 1, 1) := by decide +kernel
theorem dL_letOut_172 : decode cL_letOut 172 = .ok (.goto 4, 3) := by decide +kernel
theorem dL_letOut_175 : decode cL_letOut 175 = .ok (.iconst 0, 1) := by decide +kernel
theorem dL_letOut_176 : decode cL_letOut 176 = .ok (.istore 11, 2) := by decide +kernel
theorem dL_letOut_178 : decode cL_letOut 178 = .ok (.iload 10, 2) := by decide +kernel
theorem dL_letOut_180 : decode cL_letOut 180 = .ok (.iload 13, 2) := by decide +kernel
theorem dL_letOut_182 : decode cL_letOut 182 = .ok (.aload_n 0, 1) := by decide +kernel
theorem dL_letOut_183 : decode cL_letOut 183 = .ok (.iload 12, 2) := by decide +kernel
theorem dL_letOut_185 : decode cL_letOut 185 = .ok (.iconst 2, 1) := by decide +kernel
theorem dL_letOut_186 : decode cL_letOut 186 = .ok (.invokestatic 98, 3) := by decide +kernel
theorem dL_letOut_189 : decode cL_letOut 189 = .ok (.imul, 1) := by decide +kernel
theorem dL_letOut_190 : decode cL_letOut 190 = .ok (.iadd, 1) := by decide +kernel
theorem dL_letOut_191 : decode cL_letOut 191 = .ok (.istore 10, 2) := by decide +kernel
theorem dL_letOut_193 : decode cL_letOut 193 = .ok (.iinc 12 1, 3) := by decide +kernel
theorem dL_letOut_196 : decode cL_letOut 196 = .ok (.goto (-72), 3) := by decide +kernel
theorem dL_letOut_199 : decode cL_letOut 199 = .ok (.iload 11, 2) := by decide +kernel
theorem dL_letOut_201 : decode cL_letOut 201 = .ok (.ifCond .eq 14, 3) := by decide +kernel
theorem dL_letOut_204 : decode cL_letOut 204 = .ok (.iload 10, 2) := by decide +kernel
theorem dL_letOut_206 : decode cL_letOut 206 = .ok (.iload 9, 2) := by decide +kernel
theorem dL_letOut_208 : decode cL_letOut 208 = .ok (.if_icmp .ne 7, 3) := by decide +kernel
theorem dL_letOut_211 : decode cL_letOut 211 = .ok (.iconst 1, 1) := by decide +kernel
theorem dL_letOut_212 : decode cL_letOut 212 = .ok (.goto 4, 3) := by decide +kernel
theorem dL_letOut_215 : decode cL_letOut 215 = .ok (.iconst 0, 1) := by decide +kernel
theorem dL_letOut_216 : decode cL_letOut 216 = .ok (.ireturn, 1) := by decide +kernel
theorem dL_isRead_0 : decode cL_isRead 0 = .ok (.aload_n 0, 1) := by decide +kernel
theorem dL_isRead_1 : decode cL_isRead 1 = .ok (.invokevirtual 178, 3) := by decide +kernel
theorem dL_isRead_4 : decode cL_isRead 4 = .ok (.istore_n 1, 1) := by decide +kernel
theorem dL_isRead_5 : decode cL_isRead 5 = .ok (.iload_n 1, 1) := by decide +kernel
theorem dL_isRead_6 : decode cL_isRead 6 = .ok (.ifCond .lt 7, 3) := by decide +kernel
theorem dL_isRead_9 : decode cL_isRead 9 = .ok (.iconst 1, 1) := by decide +kernel
theorem dL_isRead_10 : decode cL_isRead 10 = .ok (.goto 4, 3) := by decide +kernel
theorem dL_isRead_13 : decode cL_isRead 13 = .ok (.iconst 0, 1) := by decide +kernel
theorem dL_isRead_14 : decode cL_isRead 14 = .ok (.istore_n 2, 1) := by decide +kernel
theorem dL_isRead_15 : decode cL_isRead 15 = .ok (.aload_n 0, 1) := by decide +kernel
theorem dL_isRead_16 : decode cL_isRead 16 = .ok (.iconst 3, 1) := by decide +kernel
theorem dL_isRead_17 : decode cL_isRead 17 = .ok (.invokestatic 93, 3) := by decide +kernel
theorem dL_isRead_20 : decode cL_isRead 20 = .ok (.istore_n 3, 1) := by decide +kernel
theorem dL_isRead_21 : decode cL_isRead 21 = .ok (.iconst 0, 1) := by decide +kernel
theorem dL_isRead_22 : decode cL_isRead 22 = .ok (.istore 4, 2) := by decide +kernel
theorem dL_isRead_24 : decode cL_isRead 24 = .ok (.iload 4, 2) := by decide +kernel
theorem dL_isRead_26 : decode cL_isRead 26 = .ok (.iload_n 3, 1) := by decide +kernel
theorem dL_isRead_27 : decode cL_isRead 27 = .ok (.if_icmp .ge 35, 3) := by decide +kernel
theorem dL_isRead_30 : decode cL_isRead 30 = .ok (.iload_n 2, 1) := by decide +kernel
theorem dL_isRead_31 : decode cL_isRead 31 = .ok (.ifCond .eq 31, 3) := by decide +kernel
theorem dL_isRead_34 : decode cL_isRead 34 = .ok (.aload_n 0, 1) := by decide +kernel
theorem dL_isRead_35 : decode cL_isRead 35 = .ok (.bipush 48, 2) := by decide +kernel
theorem dL_isRead_37 : decode cL_isRead 37 = .ok (.aload_n 0, 1) := by decide +kernel
theorem dL_isRead_38 : decode cL_isRead 38 = .ok (.iload 4, 2) := by decide +kernel
theorem dL_isRead_40 : decode cL_isRead 40 = .ok (.invokestatic 101, 3) := by decide +kernel
theorem dL_isRead_43 : decode cL_isRead 43 = .ok (.iadd, 1) := by decide +kernel
theorem dL_isRead_44 : decode cL_isRead 44 = .ok (.invokestatic 143, 3) := by decide +kernel
theorem dL_isRead_47 : decode cL_isRead 47 = .ok (.ifCond .le 7, 3) := by decide +kernel
theorem dL_isRead_50 : decode cL_isRead 50 = .ok (.iconst 1, 1) := by decide +kernel
theorem dL_isRead_51 : decode cL_isRead 51 = .ok (.goto 4, 3) := by decide +kernel
theorem dL_isRead_54 : decode cL_isRead 54 = .ok (.iconst 0, 1) := by decide +kernel
theorem dL_isRead_55 : decode cL_isRead 55 = .ok (.istore_n 2, 1) := by decide +kernel
theorem dL_isRead_56 : decode cL_isRead 56 = .ok (.iinc 4 1, 3) := by decide +kernel
theorem dL_isRead_59 : decode cL_isRead 59 = .ok (.goto (-35), 3) := by decide +kernel
theorem dL_isRead_62 : decode cL_isRead 62 = .ok (.iload_n 2, 1) := by decide +kernel
theorem dL_isRead_63 : decode cL_isRead 63 = .ok (.ifCond .eq 34, 3) := by decide +kernel
theorem dL_isRead_66 : decode cL_isRead 66 = .ok (.aload_n 0, 1) := by decide +kernel
theorem dL_isRead_67 : decode cL_isRead 67 = .ok (.bipush 46, 2) := by decide +kernel
theorem dL_isRead_69 : decode cL_isRead 69 = .ok (.invokestatic 143, 3) := by decide +kernel
theorem dL_isRead_72 : decode cL_isRead 72 = .ok (.ifCond .le 25, 3) := by decide +kernel
theorem dL_isRead_75 : decode cL_isRead 75 = .ok (.aload_n 0, 1) := by decide +kernel
theorem dL_isRead_76 : decode cL_isRead 76 = .ok (.bipush 48, 2) := by decide +kernel
theorem dL_isRead_78 : decode cL_isRead 78 = .ok (.aload_n 0, 1) := by decide +kernel
theorem dL_isRead_79 : decode cL_isRead 79 = .ok (.iconst 4, 1) := by decide +kernel
theorem dL_isRead_80 : decode cL_isRead 80 = .ok (.invokestatic 93, 3) := by decide +kernel
theorem dL_isRead_83 : decode cL_isRead 83 = .ok (.iadd, 1) := by decide +kernel
theorem dL_isRead_84 : decode cL_isRead 84 = .ok (.invokestatic 143, 3) := by decide +kernel
theorem dL_isRead_87 : decode cL_isRead 87 = .ok (.iload_n 3, 1) := by decide +kernel
theorem dL_isRead_88 : decode cL_isRead 88 = .ok (.iconst 2, 1) := by decide +kernel
theorem dL_isRead_89 : decode cL_isRead 89 = .ok (.iadd, 1) := by decide +kernel
theorem dL_isRead_90 : decode cL_isRead 90 = .ok (.if_icmp .ne 7, 3) := by decide +kernel
theorem dL_isRead_93 : decode cL_isRead 93 = .ok (.iconst 1, 1) := by decide +kernel
theorem dL_isRead_94 : decode cL_isRead 94 = .ok (.goto 4, 3) := by decide +kernel
theorem dL_isRead_97 : decode cL_isRead 97 = .ok (.iconst 0, 1) := by decide +kernel
theorem dL_isRead_98 : decode cL_isRead 98 = .ok (.istore_n 2, 1) := by decide +kernel
theorem dL_isRead_99 : decode cL_isRead 99 = .ok (.aload_n 0, 1) := by decide +kernel
theorem dL_isRead_100 : decode cL_isRead 100 = .ok (.iconst 4, 1) := by decide +kernel
theorem dL_isRead_101 : decode cL_isRead 101 = .ok (.invokestatic 93, 3) := by decide +kernel
theorem dL_isRead_104 : decode cL_isRead 104 = .ok (.istore 4, 2) := by decide +kernel
theorem dL_isRead_106 : decode cL_isRead 106 = .ok (.aload_n 0, 1) := by decide +kernel
theorem dL_isRead_107 : decode cL_isRead 107 = .ok (.iconst 0, 1) := by decide +kernel
theorem dL_isRead_108 : decode cL_isRead 108 = .ok (.invokestatic 93, 3) := by decide +kernel
theorem dL_isRead_111 : decode cL_isRead 111 = .ok (.sipush 10000, 3) := by decide +kernel
theorem dL_isRead_114 : decode cL_isRead 114 = .ok (.aload_n 0, 1) := by decide +kernel
theorem dL_isRead_115 : decode cL_isRead 115 = .ok (.iconst 5, 1) := by decide +kernel
theorem dL_isRead_116 : decode cL_isRead 116 = .ok (.invokestatic 93, 3) := by decide +kernel
theorem dL_isRead_119 : decode cL_isRead 119 = .ok (.imul, 1) := by decide +kernel
theorem dL_isRead_120 : decode cL_isRead 120 = .ok (.isub, 1) := by decide +kernel
theorem dL_isRead_121 : decode cL_isRead 121 = .ok (.istore 5, 2) := by decide +kernel
theorem dL_isRead_123 : decode cL_isRead 123 = .ok (.aload_n 0, 1) := by decide +kernel
theorem dL_isRead_124 : decode cL_isRead 124 = .ok (.invokestatic 109, 3) := by decide +kernel
theorem dL_isRead_127 : decode cL_isRead 127 = .ok (.lstore 6, 2) := by decide +kernel
theorem dL_isRead_129 : decode cL_isRead 129 = .ok (.aload_n 0, 1) := by decide +kernel
theorem dL_isRead_130 : decode cL_isRead 130 = .ok (.invokevirtual 181, 3) := by decide +kernel
theorem dL_isRead_133 : decode cL_isRead 133 = .ok (.istore 8, 2) := by decide +kernel
theorem dL_isRead_135 : decode cL_isRead 135 = .ok (.iload 5, 2) := by decide +kernel
theorem dL_isRead_137 : decode cL_isRead 137 = .ok (.ifCond .ge 29, 3) := by decide +kernel
theorem dL_isRead_140 : decode cL_isRead 140 = .ok (.iload_n 2, 1) := by decide +kernel
theorem dL_isRead_141 : decode cL_isRead 141 = .ok (.ifCond .eq 23, 3) := by decide +kernel
theorem dL_isRead_144 : decode cL_isRead 144 = .ok (.iload 8, 2) := by decide +kernel
theorem dL_isRead_146 : decode cL_isRead 146 = .ok (.iconst (-1), 1) := by decide +kernel
theorem dL_isRead_147 : decode cL_isRead 147 = .ok (.if_icmp .ne 17, 3) := by decide +kernel
theorem dL_isRead_150 : decode cL_isRead 150 = .ok (.aload_n 0, 1) := by decide +kernel
theorem dL_isRead_151 : decode cL_isRead 151 = .ok (.invokestatic 109, 3) := by decide +kernel
theorem dL_isRead_154 : decode cL_isRead 154 = .ok (.lload 6, 2) := by decide +kernel
theorem dL_isRead_156 : decode cL_isRead 156 = .ok (.lcmp, 1) := by decide +kernel
theorem dL_isRead_157 : decode cL_isRead 157 = .ok (.ifCond .ne 7, 3) := by decide +kernel
theorem dL_isRead_160 : decode cL_isRead 160 = .ok (.iconst 1, 1) := by decide +kernel
theorem dL_isRead_161 : decode cL_isRead 161 = .ok (.goto 4, 3) := by decide +kernel
theorem dL_isRead_164 : decode cL_isRead 164 = .ok (.iconst 0, 1) := by decide +kernel
theorem dL_isRead_165 : decode cL_isRead 165 = .ok (.ireturn, 1) := by decide +kernel
theorem dL_isRead_166 : decode cL_isRead 166 = .ok (.iload_n 2, 1) := by decide +kernel
theorem dL_isRead_167 : decode cL_isRead 167 = .ok (.ifCond .eq 43, 3) := by decide +kernel
theorem dL_isRead_170 : decode cL_isRead 170 = .ok (.iload 8, 2) := by decide +kernel
theorem dL_isRead_172 : decode cL_isRead 172 = .ok (.iload 5, 2) := by decide +kernel
theorem dL_isRead_174 : decode cL_isRead 174 = .ok (.if_icmp .ne 36, 3) := by decide +kernel
theorem dL_isRead_177 : decode cL_isRead 177 = .ok (.aload_n 0, 1) := by decide +kernel
theorem dL_isRead_178 : decode cL_isRead 178 = .ok (.iconst 1, 1) := by decide +kernel
theorem dL_isRead_179 : decode cL_isRead 179 = .ok (.invokestatic 93, 3) := by decide +kernel
theorem dL_isRead_182 : decode cL_isRead 182 = .ok (.iload 5, 2) := by decide +kernel
theorem dL_isRead_184 : decode cL_isRead 184 = .ok (.if_icmp .ne 26, 3) := by decide +kernel
theorem dL_isRead_187 : decode cL_isRead 187 = .ok (.aload_n 0, 1) := by decide +kernel
theorem dL_isRead_188 : decode cL_isRead 188 = .ok (.iconst 3, 1) := by decide +kernel
theorem dL_isRead_189 : decode cL_isRead 189 = .ok (.invokestatic 93, 3) := by decide +kernel
theorem dL_isRead_192 : decode cL_isRead 192 = .ok (.iload_n 3, 1) := by decide +kernel
theorem dL_isRead_193 : decode cL_isRead 193 = .ok (.if_icmp .ne 17, 3) := by decide +kernel
theorem dL_isRead_196 : decode cL_isRead 196 = .ok (.aload_n 0, 1) := by decide +kernel
theorem dL_isRead_197 : decode cL_isRead 197 = .ok (.iconst 4, 1) := by decide +kernel
theorem dL_isRead_198 : decode cL_isRead 198 = .ok (.invokestatic 93, 3) := by decide +kernel
theorem dL_isRead_201 : decode cL_isRead 201 = .ok (.iload 4, 2) := by decide +kernel
theorem dL_isRead_203 : decode cL_isRead 203 = .ok (.if_icmp .ne 7, 3) := by decide +kernel
theorem dL_isRead_206 : decode cL_isRead 206 = .ok (.iconst 1, 1) := by decide +kernel
theorem dL_isRead_207 : decode cL_isRead 207 = .ok (.goto 4, 3) := by decide +kernel
theorem dL_isRead_210 : decode cL_isRead 210 = .ok (.iconst 0, 1) := by decide +kernel
theorem dL_isRead_211 : decode cL_isRead 211 = .ok (.istore_n 2, 1) := by decide +kernel
theorem dL_isRead_212 : decode cL_isRead 212 = .ok (.iconst 0, 1) := by decide +kernel
theorem dL_isRead_213 : decode cL_isRead 213 = .ok (.istore 9, 2) := by decide +kernel
theorem dL_isRead_215 : decode cL_isRead 215 = .ok (.iload 9, 2) := by decide +kernel
theorem dL_isRead_217 : decode cL_isRead 217 = .ok (.iconst 4, 1) := by decide +kernel
theorem dL_isRead_218 : decode cL_isRead 218 = .ok (.if_icmp .ge 29, 3) := by decide +kernel
theorem dL_isRead_221 : decode cL_isRead 221 = .ok (.iload_n 2, 1) := by decide +kernel
theorem dL_isRead_222 : decode cL_isRead 222 = .ok (.ifCond .eq 25, 3) := by decide +kernel
theorem dL_isRead_225 : decode cL_isRead 225 = .ok (.aload_n 0, 1) := by decide +kernel
theorem dL_isRead_226 : decode cL_isRead 226 = .ok (.iload 9, 2) := by decide +kernel
theorem dL_isRead_228 : decode cL_isRead 228 = .ok (.iconst 1, 1) := by decide +kernel
theorem dL_isRead_229 : decode cL_isRead 229 = .ok (.invokestatic 98, 3) := by decide +kernel
theorem dL_isRead_232 : decode cL_isRead 232 = .ok (.ifCond .ne 7, 3) := by decide +kernel
theorem dL_isRead_235 : decode cL_isRead 235 = .ok (.iconst 1, 1) := by decide +kernel
theorem dL_isRead_236 : decode cL_isRead 236 = .ok (.goto 4, 3) := by decide +kernel
theorem dL_isRead_239 : decode cL_isRead 239 = .ok (.iconst 0, 1) := by decide +kernel
theorem dL_isRead_240 : decode cL_isRead 240 = .ok (.istore_n 2, 1) := by decide +kernel
theorem dL_isRead_241 : decode cL_isRead 241 = .ok (.iinc 9 1, 3) := by decide +kernel
theorem dL_isRead_244 : decode cL_isRead 244 = .ok (.goto (-29), 3) := by decide +kernel
theorem dL_isRead_247 : decode cL_isRead 247 = .ok (.iload_n 2, 1) := by decide +kernel
theorem dL_isRead_248 : decode cL_isRead 248 = .ok (.ifCond .eq 24, 3) := by decide +kernel
theorem dL_isRead_251 : decode cL_isRead 251 = .ok (.aload_n 0, 1) := by decide +kernel
theorem dL_isRead_252 : decode cL_isRead 252 = .ok (.invokestatic 184, 3) := by decide +kernel
theorem dL_isRead_255 : decode cL_isRead 255 = .ok (.ifCond .lt 17, 3) := by decide +kernel
theorem dL_isRead_258 : decode cL_isRead 258 = .ok (.aload_n 0, 1) := by decide +kernel
theorem dL_isRead_259 : decode cL_isRead 259 = .ok (.invokestatic 109, 3) := by decide +kernel
theorem dL_isRead_262 : decode cL_isRead 262 = .ok (.lload 6, 2) := by decide +kernel
theorem dL_isRead_264 : decode cL_isRead 264 = .ok (.lcmp, 1) := by decide +kernel
theorem dL_isRead_265 : decode cL_isRead 265 = .ok (.ifCond .ne 7, 3) := by decide +kernel
theorem dL_isRead_268 : decode cL_isRead 268 = .ok (.iconst 1, 1) := by decide +kernel
theorem dL_isRead_269 : decode cL_isRead 269 = .ok (.goto 4, 3) := by decide +kernel
theorem dL_isRead_272 : decode cL_isRead 272 = .ok (.iconst 0, 1) := by decide +kernel
theorem dL_isRead_273 : decode cL_isRead 273 = .ok (.ireturn, 1) := by decide +kernel
theorem dL_acts_0 : decode cL_acts 0 = .ok (.iload_n 2, 1) := by decide +kernel
theorem dL_acts_1 : decode cL_acts 1 = .ok (.iconst 4, 1) := by decide +kernel
theorem dL_acts_2 : decode cL_acts 2 = .ok (.invokestatic 164, 3) := by decide +kernel
theorem dL_acts_5 : decode cL_acts 5 = .ok (.istore 4, 2) := by decide +kernel
theorem dL_acts_7 : decode cL_acts 7 = .ok (.iload_n 1, 1) := by decide +kernel
theorem dL_acts_8 : decode cL_acts 8 = .ok (.tableswitch 419 0 11 #[64, 64, 64, 99, 99, 119, 169, 211, 267, 267, 351, 414], 64) := by decide +kernel
theorem dL_acts_72 : decode cL_acts 72 = .ok (.aload_n 0, 1) := by decide +kernel
theorem dL_acts_73 : decode cL_acts 73 = .ok (.iload_n 3, 1) := by decide +kernel
theorem dL_acts_74 : decode cL_acts 74 = .ok (.iconst 4, 1) := by decide +kernel
theorem dL_acts_75 : decode cL_acts 75 = .ok (.invokestatic 164, 3) := by decide +kernel
theorem dL_acts_78 : decode cL_acts 78 = .ok (.ifCond .ne 8, 3) := by decide +kernel
theorem dL_acts_81 : decode cL_acts 81 = .ok (.ldc 162, 2) := by decide +kernel
theorem dL_acts_83 : decode cL_acts 83 = .ok (.goto 12, 3) := by decide +kernel
theorem dL_acts_86 : decode cL_acts 86 = .ok (.iload_n 3, 1) := by decide +kernel
theorem dL_acts_87 : decode cL_acts 87 = .ok (.iconst 2, 1) := by decide +kernel
theorem dL_acts_88 : decode cL_acts 88 = .ok (.ishr, 1) := by decide +kernel
theorem dL_acts_89 : decode cL_acts 89 = .ok (.sipush 2000, 3) := by decide +kernel
theorem dL_acts_92 : decode cL_acts 92 = .ok (.invokestatic 164, 3) := by decide +kernel
theorem dL_acts_95 : decode cL_acts 95 = .ok (.iload_n 2, 1) := by decide +kernel
theorem dL_acts_96 : decode cL_acts 96 = .ok (.iconst 2, 1) := by decide +kernel
theorem dL_acts_97 : decode cL_acts 97 = .ok (.ishr, 1) := by decide +kernel
theorem dL_acts_98 : decode cL_acts 98 = .ok (.ldc 187, 2) := by decide +kernel
theorem dL_acts_100 : decode cL_acts 100 = .ok (.invokestatic 164, 3) := by decide +kernel
theorem dL_acts_103 : decode cL_acts 103 = .ok (.invokestatic 188, 3) := by decide +kernel
theorem dL_acts_106 : decode cL_acts 106 = .ok (.ireturn, 1) := by decide +kernel
theorem dL_acts_107 : decode cL_acts 107 = .ok (.aload_n 0, 1) := by decide +kernel
theorem dL_acts_108 : decode cL_acts 108 = .ok (.iload_n 3, 1) := by decide +kernel
theorem dL_acts_109 : decode cL_acts 109 = .ok (.sipush 2000, 3) := by decide +kernel
theorem dL_acts_112 : decode cL_acts 112 = .ok (.invokestatic 164, 3) := by decide +kernel
theorem dL_acts_115 : decode cL_acts 115 = .ok (.iload_n 2, 1) := by decide +kernel
theorem dL_acts_116 : decode cL_acts 116 = .ok (.iconst 2, 1) := by decide +kernel
theorem dL_acts_117 : decode cL_acts 117 = .ok (.ishr, 1) := by decide +kernel
theorem dL_acts_118 : decode cL_acts 118 = .ok (.ldc 187, 2) := by decide +kernel
theorem dL_acts_120 : decode cL_acts 120 = .ok (.invokestatic 164, 3) := by decide +kernel
theorem dL_acts_123 : decode cL_acts 123 = .ok (.invokestatic 192, 3) := by decide +kernel
theorem dL_acts_126 : decode cL_acts 126 = .ok (.ireturn, 1) := by decide +kernel
theorem dL_acts_127 : decode cL_acts 127 = .ok (.aload_n 0, 1) := by decide +kernel
theorem dL_acts_128 : decode cL_acts 128 = .ok (.iload 4, 2) := by decide +kernel
theorem dL_acts_130 : decode cL_acts 130 = .ok (.iconst 0, 1) := by decide +kernel
theorem dL_acts_131 : decode cL_acts 131 = .ok (.invokestatic 98, 3) := by decide +kernel
theorem dL_acts_134 : decode cL_acts 134 = .ok (.istore 5, 2) := by decide +kernel
theorem dL_acts_136 : decode cL_acts 136 = .ok (.aload_n 0, 1) := by decide +kernel
theorem dL_acts_137 : decode cL_acts 137 = .ok (.iload 4, 2) := by decide +kernel
theorem dL_acts_139 : decode cL_acts 139 = .ok (.iload_n 3, 1) := by decide +kernel
theorem dL_acts_140 : decode cL_acts 140 = .ok (.sipush 6000, 3) := by decide +kernel
theorem dL_acts_143 : decode cL_acts 143 = .ok (.invokestatic 164, 3) := by decide +kernel
theorem dL_acts_146 : decode cL_acts 146 = .ok (.invokestatic 113, 3) := by decide +kernel
theorem dL_acts_149 : decode cL_acts 149 = .ok (.iload 5, 2) := by decide +kernel
theorem dL_acts_151 : decode cL_acts 151 = .ok (.if_icmp .ne 24, 3) := by decide +kernel
theorem dL_acts_154 : decode cL_acts 154 = .ok (.aload_n 0, 1) := by decide +kernel
theorem dL_acts_155 : decode cL_acts 155 = .ok (.iload 4, 2) := by decide +kernel
theorem dL_acts_157 : decode cL_acts 157 = .ok (.iconst 0, 1) := by decide +kernel
theorem dL_acts_158 : decode cL_acts 158 = .ok (.invokestatic 98, 3) := by decide +kernel
theorem dL_acts_161 : decode cL_acts 161 = .ok (.iload_n 3, 1) := by decide +kernel
theorem dL_acts_162 : decode cL_acts 162 = .ok (.sipush 6000, 3) := by decide +kernel
theorem dL_acts_165 : decode cL_acts 165 = .ok (.invokestatic 164, 3) := by decide +kernel
theorem dL_acts_168 : decode cL_acts 168 = .ok (.if_icmp .ne 7, 3) := by decide +kernel
theorem dL_acts_171 : decode cL_acts 171 = .ok (.iconst 1, 1) := by decide +kernel
theorem dL_acts_172 : decode cL_acts 172 = .ok (.goto 4, 3) := by decide +kernel
theorem dL_acts_175 : decode cL_acts 175 = .ok (.iconst 0, 1) := by decide +kernel
theorem dL_acts_176 : decode cL_acts 176 = .ok (.ireturn, 1) := by decide +kernel
theorem dL_acts_177 : decode cL_acts 177 = .ok (.aload_n 0, 1) := by decide +kernel
theorem dL_acts_178 : decode cL_acts 178 = .ok (.iconst 2, 1) := by decide +kernel
theorem dL_acts_179 : decode cL_acts 179 = .ok (.invokestatic 93, 3) := by decide +kernel
theorem dL_acts_182 : decode cL_acts 182 = .ok (.istore 5, 2) := by decide +kernel
theorem dL_acts_184 : decode cL_acts 184 = .ok (.aload_n 0, 1) := by decide +kernel
theorem dL_acts_185 : decode cL_acts 185 = .ok (.iload_n 3, 1) := by decide +kernel
theorem dL_acts_186 : decode cL_acts 186 = .ok (.bipush 31, 2) := by decide +kernel
theorem dL_acts_188 : decode cL_acts 188 = .ok (.invokestatic 164, 3) := by decide +kernel
theorem dL_acts_191 : decode cL_acts 191 = .ok (.invokestatic 116, 3) := by decide +kernel
theorem dL_acts_194 : decode cL_acts 194 = .ok (.iload 5, 2) := by decide +kernel
theorem dL_acts_196 : decode cL_acts 196 = .ok (.if_icmp .ne 21, 3) := by decide +kernel
theorem dL_acts_199 : decode cL_acts 199 = .ok (.aload_n 0, 1) := by decide +kernel
theorem dL_acts_200 : decode cL_acts 200 = .ok (.iconst 2, 1) := by decide +kernel
theorem dL_acts_201 : decode cL_acts 201 = .ok (.invokestatic 93, 3) := by decide +kernel
theorem dL_acts_204 : decode cL_acts 204 = .ok (.iload_n 3, 1) := by decide +kernel
theorem dL_acts_205 : decode cL_acts 205 = .ok (.bipush 31, 2) := by decide +kernel
theorem dL_acts_207 : decode cL_acts 207 = .ok (.invokestatic 164, 3) := by decide +kernel
theorem dL_acts_210 : decode cL_acts 210 = .ok (.if_icmp .ne 7, 3) := by decide +kernel
theorem dL_acts_213 : decode cL_acts 213 = .ok (.iconst 1, 1) := by decide +kernel
theorem dL_acts_214 : decode cL_acts 214 = .ok (.goto 4, 3) := by decide +kernel
theorem dL_acts_217 : decode cL_acts 217 = .ok (.iconst 0, 1) := by decide +kernel
theorem dL_acts_218 : decode cL_acts 218 = .ok (.ireturn, 1) := by decide +kernel
theorem dL_acts_219 : decode cL_acts 219 = .ok (.sipush 1000, 3) := by decide +kernel
theorem dL_acts_222 : decode cL_acts 222 = .ok (.iload_n 3, 1) := by decide +kernel
theorem dL_acts_223 : decode cL_acts 223 = .ok (.ldc 194, 2) := by decide +kernel
theorem dL_acts_225 : decode cL_acts 225 = .ok (.invokestatic 164, 3) := by decide +kernel
theorem dL_acts_228 : decode cL_acts 228 = .ok (.iadd, 1) := by decide +kernel
theorem dL_acts_229 : decode cL_acts 229 = .ok (.istore 5, 2) := by decide +kernel
theorem dL_acts_231 : decode cL_acts 231 = .ok (.aload_n 0, 1) := by decide +kernel
theorem dL_acts_232 : decode cL_acts 232 = .ok (.iload 5, 2) := by decide +kernel
theorem dL_acts_234 : decode cL_acts 234 = .ok (.invokestatic 119, 3) := by decide +kernel
theorem dL_acts_237 : decode cL_acts 237 = .ok (.istore 6, 2) := by decide +kernel
theorem dL_acts_239 : decode cL_acts 239 = .ok (.iload 6, 2) := by decide +kernel
theorem dL_acts_241 : decode cL_acts 241 = .ok (.iload 5, 2) := by decide +kernel
theorem dL_acts_243 : decode cL_acts 243 = .ok (.aload_n 0, 1) := by decide +kernel
theorem dL_acts_244 : decode cL_acts 244 = .ok (.bipush 6, 2) := by decide +kernel
theorem dL_acts_246 : decode cL_acts 246 = .ok (.invokestatic 93, 3) := by decide +kernel
theorem dL_acts_249 : decode cL_acts 249 = .ok (.if_icmp .ge 8, 3) := by decide +kernel
theorem dL_acts_252 : decode cL_acts 252 = .ok (.ldc 30, 2) := by decide +kernel
theorem dL_acts_254 : decode cL_acts 254 = .ok (.goto 12, 3) := by decide +kernel
theorem dL_acts_257 : decode cL_acts 257 = .ok (.iload 5, 2) := by decide +kernel
theorem dL_acts_259 : decode cL_acts 259 = .ok (.aload_n 0, 1) := by decide +kernel
theorem dL_acts_260 : decode cL_acts 260 = .ok (.bipush 6, 2) := by decide +kernel
theorem dL_acts_262 : decode cL_acts 262 = .ok (.invokestatic 93, 3) := by decide +kernel
theorem dL_acts_265 : decode cL_acts 265 = .ok (.isub, 1) := by decide +kernel
theorem dL_acts_266 : decode cL_acts 266 = .ok (.if_icmp .ne 7, 3) := by decide +kernel
theorem dL_acts_269 : decode cL_acts 269 = .ok (.iconst 1, 1) := by decide +kernel
theorem dL_acts_270 : decode cL_acts 270 = .ok (.goto 4, 3) := by decide +kernel
theorem dL_acts_273 : decode cL_acts 273 = .ok (.iconst 0, 1) := by decide +kernel
theorem dL_acts_274 : decode cL_acts 274 = .ok (.ireturn, 1) := by decide +kernel
theorem dL_acts_275 : decode cL_acts 275 = .ok (.aload_n 0, 1) := by decide +kernel
theorem dL_acts_276 : decode cL_acts 276 = .ok (.iconst 3, 1) := by decide +kernel
theorem dL_acts_277 : decode cL_acts 277 = .ok (.invokestatic 93, 3) := by decide +kernel
theorem dL_acts_280 : decode cL_acts 280 = .ok (.istore 5, 2) := by decide +kernel
theorem dL_acts_282 : decode cL_acts 282 = .ok (.aload_n 0, 1) := by decide +kernel
theorem dL_acts_283 : decode cL_acts 283 = .ok (.iload 4, 2) := by decide +kernel
theorem dL_acts_285 : decode cL_acts 285 = .ok (.invokestatic 122, 3) := by decide +kernel
theorem dL_acts_288 : decode cL_acts 288 = .ok (.istore 6, 2) := by decide +kernel
theorem dL_acts_290 : decode cL_acts 290 = .ok (.iload 6, 2) := by decide +kernel
theorem dL_acts_292 : decode cL_acts 292 = .ok (.ldc 30, 2) := by decide +kernel
theorem dL_acts_294 : decode cL_acts 294 = .ok (.if_icmp .ne 39, 3) := by decide +kernel
theorem dL_acts_297 : decode cL_acts 297 = .ok (.iload 5, 2) := by decide +kernel
theorem dL_acts_299 : decode cL_acts 299 = .ok (.bipush 10, 2) := by decide +kernel
theorem dL_acts_301 : decode cL_acts 301 = .ok (.if_icmp .eq 24, 3) := by decide +kernel
theorem dL_acts_304 : decode cL_acts 304 = .ok (.aload_n 0, 1) := by decide +kernel
theorem dL_acts_305 : decode cL_acts 305 = .ok (.iconst 1, 1) := by decide +kernel
theorem dL_acts_306 : decode cL_acts 306 = .ok (.invokestatic 93, 3) := by decide +kernel
theorem dL_acts_309 : decode cL_acts 309 = .ok (.iconst 2, 1) := by decide +kernel
theorem dL_acts_310 : decode cL_acts 310 = .ok (.sipush 10000, 3) := by decide +kernel
theorem dL_acts_313 : decode cL_acts 313 = .ok (.aload_n 0, 1) := by decide +kernel
theorem dL_acts_314 : decode cL_acts 314 = .ok (.iload 4, 2) := by decide +kernel
theorem dL_acts_316 : decode cL_acts 316 = .ok (.iconst 1, 1) := by decide +kernel
theorem dL_acts_317 : decode cL_acts 317 = .ok (.invokestatic 98, 3) := by decide +kernel
theorem dL_acts_320 : decode cL_acts 320 = .ok (.isub, 1) := by decide +kernel
theorem dL_acts_321 : decode cL_acts 321 = .ok (.imul, 1) := by decide +kernel
theorem dL_acts_322 : decode cL_acts 322 = .ok (.if_icmp .ge 7, 3) := by decide +kernel
theorem dL_acts_325 : decode cL_acts 325 = .ok (.iconst 1, 1) := by decide +kernel
theorem dL_acts_326 : decode cL_acts 326 = .ok (.goto 32, 3) := by decide +kernel
theorem dL_acts_329 : decode cL_acts 329 = .ok (.iconst 0, 1) := by decide +kernel
theorem dL_acts_330 : decode cL_acts 330 = .ok (.goto 28, 3) := by decide +kernel
theorem dL_acts_333 : decode cL_acts 333 = .ok (.iload 6, 2) := by decide +kernel
theorem dL_acts_335 : decode cL_acts 335 = .ok (.iload 5, 2) := by decide +kernel
theorem dL_acts_337 : decode cL_acts 337 = .ok (.iconst 1, 1) := by decide +kernel
theorem dL_acts_338 : decode cL_acts 338 = .ok (.iadd, 1) := by decide +kernel
theorem dL_acts_339 : decode cL_acts 339 = .ok (.if_icmp .ne 18, 3) := by decide +kernel
theorem dL_acts_342 : decode cL_acts 342 = .ok (.aload_n 0, 1) := by decide +kernel
theorem dL_acts_343 : decode cL_acts 343 = .ok (.iload 5, 2) := by decide +kernel
theorem dL_acts_345 : decode cL_acts 345 = .ok (.invokestatic 101, 3) := by decide +kernel
theorem dL_acts_348 : decode cL_acts 348 = .ok (.iload 4, 2) := by decide +kernel
theorem dL_acts_350 : decode cL_acts 350 = .ok (.if_icmp .ne 7, 3) := by decide +kernel
theorem dL_acts_353 : decode cL_acts 353 = .ok (.iconst 1, 1) := by decide +kernel
theorem dL_acts_354 : decode cL_acts 354 = .ok (.goto 4, 3) := by decide +kernel
theorem dL_acts_357 : decode cL_acts 357 = .ok (.iconst 0, 1) := by decide +kernel
theorem dL_acts_358 : decode cL_acts 358 = .ok (.ireturn, 1) := by decide +kernel
theorem dL_acts_359 : decode cL_acts 359 = .ok (.aload_n 0, 1) := by decide +kernel
theorem dL_acts_360 : decode cL_acts 360 = .ok (.iconst 3, 1) := by decide +kernel
theorem dL_acts_361 : decode cL_acts 361 = .ok (.invokestatic 93, 3) := by decide +kernel
theorem dL_acts_364 : decode cL_acts 364 = .ok (.istore 5, 2) := by decide +kernel
theorem dL_acts_366 : decode cL_acts 366 = .ok (.iload 5, 2) := by decide +kernel
theorem dL_acts_368 : decode cL_acts 368 = .ok (.ifCond .ne 8, 3) := by decide +kernel
theorem dL_acts_371 : decode cL_acts 371 = .ok (.ldc 30, 2) := by decide +kernel
theorem dL_acts_373 : decode cL_acts 373 = .ok (.goto 11, 3) := by decide +kernel
theorem dL_acts_376 : decode cL_acts 376 = .ok (.aload_n 0, 1) := by decide +kernel
theorem dL_acts_377 : decode cL_acts 377 = .ok (.iload 5, 2) := by decide +kernel
theorem dL_acts_379 : decode cL_acts 379 = .ok (.iconst 1, 1) := by decide +kernel
theorem dL_acts_380 : decode cL_acts 380 = .ok (.isub, 1) := by decide +kernel
theorem dL_acts_381 : decode cL_acts 381 = .ok (.invokestatic 101, 3) := by decide +kernel
theorem dL_acts_384 : decode cL_acts 384 = .ok (.istore 6, 2) := by decide +kernel
theorem dL_acts_386 : decode cL_acts 386 = .ok (.aload_n 0, 1) := by decide +kernel
theorem dL_acts_387 : decode cL_acts 387 = .ok (.invokestatic 151, 3) := by decide +kernel
theorem dL_acts_390 : decode cL_acts 390 = .ok (.iload 6, 2) := by decide +kernel
theorem dL_acts_392 : decode cL_acts 392 = .ok (.if_icmp .ne 28, 3) := by decide +kernel
theorem dL_acts_395 : decode cL_acts 395 = .ok (.aload_n 0, 1) := by decide +kernel
theorem dL_acts_396 : decode cL_acts 396 = .ok (.iconst 3, 1) := by decide +kernel
theorem dL_acts_397 : decode cL_acts 397 = .ok (.invokestatic 93, 3) := by decide +kernel
theorem dL_acts_400 : decode cL_acts 400 = .ok (.iload 5, 2) := by decide +kernel
theorem dL_acts_402 : decode cL_acts 402 = .ok (.ifCond .ne 7, 3) := by decide +kernel
theorem dL_acts_405 : decode cL_acts 405 = .ok (.iconst 0, 1) := by decide +kernel
theorem dL_acts_406 : decode cL_acts 406 = .ok (.goto 7, 3) := by decide +kernel
theorem dL_acts_409 : decode cL_acts 409 = .ok (.iload 5, 2) := by decide +kernel
theorem dL_acts_411 : decode cL_acts 411 = .ok (.iconst 1, 1) := by decide +kernel
theorem dL_acts_412 : decode cL_acts 412 = .ok (.isub, 1) := by decide +kernel
theorem dL_acts_413 : decode cL_acts 413 = .ok (.if_icmp .ne 7, 3) := by decide +kernel
theorem dL_acts_416 : decode cL_acts 416 = .ok (.iconst 1, 1) := by decide +kernel
theorem dL_acts_417 : decode cL_acts 417 = .ok (.goto 4, 3) := by decide +kernel
theorem dL_acts_420 : decode cL_acts 420 = .ok (.iconst 0, 1) := by decide +kernel
theorem dL_acts_421 : decode cL_acts 421 = .ok (.ireturn, 1) := by decide +kernel
theorem dL_acts_422 : decode cL_acts 422 = .ok (.aload_n 0, 1) := by decide +kernel
theorem dL_acts_423 : decode cL_acts 423 = .ok (.invokestatic 195, 3) := by decide +kernel
theorem dL_acts_426 : decode cL_acts 426 = .ok (.ireturn, 1) := by decide +kernel
theorem dL_acts_427 : decode cL_acts 427 = .ok (.aload_n 0, 1) := by decide +kernel
theorem dL_acts_428 : decode cL_acts 428 = .ok (.iconst 4, 1) := by decide +kernel
theorem dL_acts_429 : decode cL_acts 429 = .ok (.invokestatic 93, 3) := by decide +kernel
theorem dL_acts_432 : decode cL_acts 432 = .ok (.istore 5, 2) := by decide +kernel
theorem dL_acts_434 : decode cL_acts 434 = .ok (.aload_n 0, 1) := by decide +kernel
theorem dL_acts_435 : decode cL_acts 435 = .ok (.iload_n 3, 1) := by decide +kernel
theorem dL_acts_436 : decode cL_acts 436 = .ok (.iconst 5, 1) := by decide +kernel
theorem dL_acts_437 : decode cL_acts 437 = .ok (.invokestatic 164, 3) := by decide +kernel
theorem dL_acts_440 : decode cL_acts 440 = .ok (.invokestatic 125, 3) := by decide +kernel
theorem dL_acts_443 : decode cL_acts 443 = .ok (.istore 6, 2) := by decide +kernel
theorem dL_acts_445 : decode cL_acts 445 = .ok (.iload 6, 2) := by decide +kernel
theorem dL_acts_447 : decode cL_acts 447 = .ok (.ldc 30, 2) := by decide +kernel
theorem dL_acts_449 : decode cL_acts 449 = .ok (.if_icmp .ne 21, 3) := by decide +kernel
theorem dL_acts_452 : decode cL_acts 452 = .ok (.aload_n 0, 1) := by decide +kernel
theorem dL_acts_453 : decode cL_acts 453 = .ok (.iconst 4, 1) := by decide +kernel
theorem dL_acts_454 : decode cL_acts 454 = .ok (.invokestatic 93, 3) := by decide +kernel
theorem dL_acts_457 : decode cL_acts 457 = .ok (.iload 5, 2) := by decide +kernel
theorem dL_acts_459 : decode cL_acts 459 = .ok (.if_icmp .ne 7, 3) := by decide +kernel
theorem dL_acts_462 : decode cL_acts 462 = .ok (.iconst 1, 1) := by decide +kernel
theorem dL_acts_463 : decode cL_acts 463 = .ok (.goto 32, 3) := by decide +kernel
theorem dL_acts_466 : decode cL_acts 466 = .ok (.iconst 0, 1) := by decide +kernel
theorem dL_acts_467 : decode cL_acts 467 = .ok (.goto 28, 3) := by decide +kernel
theorem dL_acts_470 : decode cL_acts 470 = .ok (.iload 6, 2) := by decide +kernel
theorem dL_acts_472 : decode cL_acts 472 = .ok (.iload 5, 2) := by decide +kernel
theorem dL_acts_474 : decode cL_acts 474 = .ok (.if_icmp .ne 20, 3) := by decide +kernel
theorem dL_acts_477 : decode cL_acts 477 = .ok (.aload_n 0, 1) := by decide +kernel
theorem dL_acts_478 : decode cL_acts 478 = .ok (.iconst 4, 1) := by decide +kernel
theorem dL_acts_479 : decode cL_acts 479 = .ok (.invokestatic 93, 3) := by decide +kernel
theorem dL_acts_482 : decode cL_acts 482 = .ok (.iload_n 3, 1) := by decide +kernel
theorem dL_acts_483 : decode cL_acts 483 = .ok (.iconst 5, 1) := by decide +kernel
theorem dL_acts_484 : decode cL_acts 484 = .ok (.invokestatic 164, 3) := by decide +kernel
theorem dL_acts_487 : decode cL_acts 487 = .ok (.if_icmp .ne 7, 3) := by decide +kernel
theorem dL_acts_490 : decode cL_acts 490 = .ok (.iconst 1, 1) := by decide +kernel
theorem dL_acts_491 : decode cL_acts 491 = .ok (.goto 4, 3) := by decide +kernel
theorem dL_acts_494 : decode cL_acts 494 = .ok (.iconst 0, 1) := by decide +kernel
theorem dL_acts_495 : decode cL_acts 495 = .ok (.ireturn, 1) := by decide +kernel
theorem dL_law_0 : decode cL_law 0 = .ok (.new 10, 3) := by decide +kernel
theorem dL_law_3 : decode cL_law 3 = .ok (.dup, 1) := by decide +kernel
theorem dL_law_4 : decode cL_law 4 = .ok (.invokespecial 199, 3) := by decide +kernel
theorem dL_law_7 : decode cL_law 7 = .ok (.astore_n 1, 1) := by decide +kernel
theorem dL_law_8 : decode cL_law 8 = .ok (.aload_n 1, 1) := by decide +kernel
theorem dL_law_9 : decode cL_law 9 = .ok (.invokestatic 184, 3) := by decide +kernel
theorem dL_law_12 : decode cL_law 12 = .ok (.ldc 30, 2) := by decide +kernel
theorem dL_law_14 : decode cL_law 14 = .ok (.if_icmp .ne 37, 3) := by decide +kernel
theorem dL_law_17 : decode cL_law 17 = .ok (.aload_n 1, 1) := by decide +kernel
theorem dL_law_18 : decode cL_law 18 = .ok (.invokestatic 200, 3) := by decide +kernel
theorem dL_law_21 : decode cL_law 21 = .ok (.ifCond .eq 30, 3) := by decide +kernel
theorem dL_law_24 : decode cL_law 24 = .ok (.aload_n 1, 1) := by decide +kernel
theorem dL_law_25 : decode cL_law 25 = .ok (.aload_n 0, 1) := by decide +kernel
theorem dL_law_26 : decode cL_law 26 = .ok (.iconst 0, 1) := by decide +kernel
theorem dL_law_27 : decode cL_law 27 = .ok (.invokestatic 203, 3) := by decide +kernel
theorem dL_law_30 : decode cL_law 30 = .ok (.invokestatic 207, 3) := by decide +kernel
theorem dL_law_33 : decode cL_law 33 = .ok (.ifCond .eq 18, 3) := by decide +kernel
theorem dL_law_36 : decode cL_law 36 = .ok (.aload_n 1, 1) := by decide +kernel
theorem dL_law_37 : decode cL_law 37 = .ok (.ldc 211, 2) := by decide +kernel
theorem dL_law_39 : decode cL_law 39 = .ok (.invokestatic 119, 3) := by decide +kernel
theorem dL_law_42 : decode cL_law 42 = .ok (.ldc 212, 2) := by decide +kernel
theorem dL_law_44 : decode cL_law 44 = .ok (.if_icmp .ne 7, 3) := by decide +kernel
theorem dL_law_47 : decode cL_law 47 = .ok (.iconst 1, 1) := by decide +kernel
theorem dL_law_48 : decode cL_law 48 = .ok (.goto 4, 3) := by decide +kernel
theorem dL_law_51 : decode cL_law 51 = .ok (.iconst 0, 1) := by decide +kernel
theorem dL_law_52 : decode cL_law 52 = .ok (.istore_n 2, 1) := by decide +kernel
theorem dL_law_53 : decode cL_law 53 = .ok (.iconst 0, 1) := by decide +kernel
theorem dL_law_54 : decode cL_law 54 = .ok (.istore_n 3, 1) := by decide +kernel
theorem dL_law_55 : decode cL_law 55 = .ok (.iload_n 3, 1) := by decide +kernel
theorem dL_law_56 : decode cL_law 56 = .ok (.bipush 30, 2) := by decide +kernel
theorem dL_law_58 : decode cL_law 58 = .ok (.if_icmp .ge 201, 3) := by decide +kernel
theorem dL_law_61 : decode cL_law 61 = .ok (.iload_n 2, 1) := by decide +kernel
theorem dL_law_62 : decode cL_law 62 = .ok (.ifCond .eq 197, 3) := by decide +kernel
theorem dL_law_65 : decode cL_law 65 = .ok (.aload_n 0, 1) := by decide +kernel
theorem dL_law_66 : decode cL_law 66 = .ok (.iconst 2, 1) := by decide +kernel
theorem dL_law_67 : decode cL_law 67 = .ok (.iload_n 3, 1) := by decide +kernel
theorem dL_law_68 : decode cL_law 68 = .ok (.imul, 1) := by decide +kernel
theorem dL_law_69 : decode cL_law 69 = .ok (.invokestatic 203, 3) := by decide +kernel
theorem dL_law_72 : decode cL_law 72 = .ok (.istore 4, 2) := by decide +kernel
theorem dL_law_74 : decode cL_law 74 = .ok (.aload_n 0, 1) := by decide +kernel
theorem dL_law_75 : decode cL_law 75 = .ok (.iconst 2, 1) := by decide +kernel
theorem dL_law_76 : decode cL_law 76 = .ok (.iload_n 3, 1) := by decide +kernel
theorem dL_law_77 : decode cL_law 77 = .ok (.imul, 1) := by decide +kernel
theorem dL_law_78 : decode cL_law 78 = .ok (.iconst 1, 1) := by decide +kernel
theorem dL_law_79 : decode cL_law 79 = .ok (.iadd, 1) := by decide +kernel
theorem dL_law_80 : decode cL_law 80 = .ok (.invokestatic 203, 3) := by decide +kernel
theorem dL_law_83 : decode cL_law 83 = .ok (.istore 5, 2) := by decide +kernel
theorem dL_law_85 : decode cL_law 85 = .ok (.aload_n 1, 1) := by decide +kernel
theorem dL_law_86 : decode cL_law 86 = .ok (.iload 4, 2) := by decide +kernel
theorem dL_law_88 : decode cL_law 88 = .ok (.iconst 3, 1) := by decide +kernel
theorem dL_law_89 : decode cL_law 89 = .ok (.ishr, 1) := by decide +kernel
theorem dL_law_90 : decode cL_law 90 = .ok (.bipush 14, 2) := by decide +kernel
theorem dL_law_92 : decode cL_law 92 = .ok (.invokestatic 164, 3) := by decide +kernel
theorem dL_law_95 : decode cL_law 95 = .ok (.iload 4, 2) := by decide +kernel
theorem dL_law_97 : decode cL_law 97 = .ok (.bipush 6, 2) := by decide +kernel
theorem dL_law_99 : decode cL_law 99 = .ok (.ishr, 1) := by decide +kernel
theorem dL_law_100 : decode cL_law 100 = .ok (.iload 5, 2) := by decide +kernel
theorem dL_law_102 : decode cL_law 102 = .ok (.invokestatic 213, 3) := by decide +kernel
theorem dL_law_105 : decode cL_law 105 = .ok (.ifCond .eq 34, 3) := by decide +kernel
theorem dL_law_108 : decode cL_law 108 = .ok (.aload_n 1, 1) := by decide +kernel
theorem dL_law_109 : decode cL_law 109 = .ok (.iload 4, 2) := by decide +kernel
theorem dL_law_111 : decode cL_law 111 = .ok (.iload 5, 2) := by decide +kernel
theorem dL_law_113 : decode cL_law 113 = .ok (.ixor, 1) := by decide +kernel
theorem dL_law_114 : decode cL_law 114 = .ok (.invokestatic 207, 3) := by decide +kernel
theorem dL_law_117 : decode cL_law 117 = .ok (.ifCond .eq 22, 3) := by decide +kernel
theorem dL_law_120 : decode cL_law 120 = .ok (.iload_n 3, 1) := by decide +kernel
theorem dL_law_121 : decode cL_law 121 = .ok (.bipush 7, 2) := by decide +kernel
theorem dL_law_123 : decode cL_law 123 = .ok (.irem, 1) := by decide +kernel
theorem dL_law_124 : decode cL_law 124 = .ok (.iconst 5, 1) := by decide +kernel
theorem dL_law_125 : decode cL_law 125 = .ok (.if_icmp .ne 10, 3) := by decide +kernel
theorem dL_law_128 : decode cL_law 128 = .ok (.aload_n 1, 1) := by decide +kernel
theorem dL_law_129 : decode cL_law 129 = .ok (.invokestatic 200, 3) := by decide +kernel
theorem dL_law_132 : decode cL_law 132 = .ok (.ifCond .eq 7, 3) := by decide +kernel
theorem dL_law_135 : decode cL_law 135 = .ok (.iconst 1, 1) := by decide +kernel
theorem dL_law_136 : decode cL_law 136 = .ok (.goto 4, 3) := by decide +kernel
theorem dL_law_139 : decode cL_law 139 = .ok (.iconst 0, 1) := by decide +kernel
theorem dL_law_140 : decode cL_law 140 = .ok (.istore_n 2, 1) := by decide +kernel
theorem dL_law_141 : decode cL_law 141 = .ok (.iload_n 2, 1) := by decide +kernel
theorem dL_law_142 : decode cL_law 142 = .ok (.ifCond .eq 111, 3) := by decide +kernel
theorem dL_law_145 : decode cL_law 145 = .ok (.iload_n 3, 1) := by decide +kernel
theorem dL_law_146 : decode cL_law 146 = .ok (.iconst 5, 1) := by decide +kernel
theorem dL_law_147 : decode cL_law 147 = .ok (.irem, 1) := by decide +kernel
theorem dL_law_148 : decode cL_law 148 = .ok (.iconst 4, 1) := by decide +kernel
theorem dL_law_149 : decode cL_law 149 = .ok (.if_icmp .ne 104, 3) := by decide +kernel
theorem dL_law_152 : decode cL_law 152 = .ok (.aload_n 1, 1) := by decide +kernel
theorem dL_law_153 : decode cL_law 153 = .ok (.invokestatic 109, 3) := by decide +kernel
theorem dL_law_156 : decode cL_law 156 = .ok (.lstore 6, 2) := by decide +kernel
theorem dL_law_158 : decode cL_law 158 = .ok (.aload_n 1, 1) := by decide +kernel
theorem dL_law_159 : decode cL_law 159 = .ok (.iload 5, 2) := by decide +kernel
theorem dL_law_161 : decode cL_law 161 = .ok (.iconst 4, 1) := by decide +kernel
theorem dL_law_162 : decode cL_law 162 = .ok (.invokestatic 164, 3) := by decide +kernel
theorem dL_law_165 : decode cL_law 165 = .ok (.iload 5, 2) := by decide +kernel
theorem dL_law_167 : decode cL_law 167 = .ok (.iconst 2, 1) := by decide +kernel
theorem dL_law_168 : decode cL_law 168 = .ok (.ishr, 1) := by decide +kernel
theorem dL_law_169 : decode cL_law 169 = .ok (.ldc 217, 2) := by decide +kernel
theorem dL_law_171 : decode cL_law 171 = .ok (.invokestatic 164, 3) := by decide +kernel
theorem dL_law_174 : decode cL_law 174 = .ok (.invokestatic 113, 3) := by decide +kernel
theorem dL_law_177 : decode cL_law 177 = .ok (.ifCond .lt 74, 3) := by decide +kernel
theorem dL_law_180 : decode cL_law 180 = .ok (.aload_n 1, 1) := by decide +kernel
theorem dL_law_181 : decode cL_law 181 = .ok (.iload 4, 2) := by decide +kernel
theorem dL_law_183 : decode cL_law 183 = .ok (.bipush 31, 2) := by decide +kernel
theorem dL_law_185 : decode cL_law 185 = .ok (.invokestatic 164, 3) := by decide +kernel
theorem dL_law_188 : decode cL_law 188 = .ok (.invokestatic 116, 3) := by decide +kernel
theorem dL_law_191 : decode cL_law 191 = .ok (.ifCond .lt 60, 3) := by decide +kernel
theorem dL_law_194 : decode cL_law 194 = .ok (.aload_n 1, 1) := by decide +kernel
theorem dL_law_195 : decode cL_law 195 = .ok (.iload 5, 2) := by decide +kernel
theorem dL_law_197 : decode cL_law 197 = .ok (.sipush 3000, 3) := by decide +kernel
theorem dL_law_200 : decode cL_law 200 = .ok (.invokestatic 164, 3) := by decide +kernel
theorem dL_law_203 : decode cL_law 203 = .ok (.iload 4, 2) := by decide +kernel
theorem dL_law_205 : decode cL_law 205 = .ok (.ldc 218, 2) := by decide +kernel
theorem dL_law_207 : decode cL_law 207 = .ok (.invokestatic 164, 3) := by decide +kernel
theorem dL_law_210 : decode cL_law 210 = .ok (.invokestatic 128, 3) := by decide +kernel
theorem dL_law_213 : decode cL_law 213 = .ok (.ifCond .lt 38, 3) := by decide +kernel
theorem dL_law_216 : decode cL_law 216 = .ok (.aload_n 1, 1) := by decide +kernel
theorem dL_law_217 : decode cL_law 217 = .ok (.invokestatic 184, 3) := by decide +kernel
theorem dL_law_220 : decode cL_law 220 = .ok (.ifCond .lt 31, 3) := by decide +kernel
theorem dL_law_223 : decode cL_law 223 = .ok (.aload_n 1, 1) := by decide +kernel
theorem dL_law_224 : decode cL_law 224 = .ok (.invokestatic 184, 3) := by decide +kernel
theorem dL_law_227 : decode cL_law 227 = .ok (.ifCond .lt 24, 3) := by decide +kernel
theorem dL_law_230 : decode cL_law 230 = .ok (.aload_n 1, 1) := by decide +kernel
theorem dL_law_231 : decode cL_law 231 = .ok (.invokestatic 184, 3) := by decide +kernel
theorem dL_law_234 : decode cL_law 234 = .ok (.ifCond .lt 17, 3) := by decide +kernel
theorem dL_law_237 : decode cL_law 237 = .ok (.aload_n 1, 1) := by decide +kernel
theorem dL_law_238 : decode cL_law 238 = .ok (.invokestatic 109, 3) := by decide +kernel
theorem dL_law_241 : decode cL_law 241 = .ok (.lload 6, 2) := by decide +kernel
theorem dL_law_243 : decode cL_law 243 = .ok (.lcmp, 1) := by decide +kernel
theorem dL_law_244 : decode cL_law 244 = .ok (.ifCond .ne 7, 3) := by decide +kernel
theorem dL_law_247 : decode cL_law 247 = .ok (.iconst 1, 1) := by decide +kernel
theorem dL_law_248 : decode cL_law 248 = .ok (.goto 4, 3) := by decide +kernel
theorem dL_law_251 : decode cL_law 251 = .ok (.iconst 0, 1) := by decide +kernel
theorem dL_law_252 : decode cL_law 252 = .ok (.istore_n 2, 1) := by decide +kernel
theorem dL_law_253 : decode cL_law 253 = .ok (.iinc 3 1, 3) := by decide +kernel
theorem dL_law_256 : decode cL_law 256 = .ok (.goto (-201), 3) := by decide +kernel
theorem dL_law_259 : decode cL_law 259 = .ok (.iload_n 2, 1) := by decide +kernel
theorem dL_law_260 : decode cL_law 260 = .ok (.ifCond .eq 14, 3) := by decide +kernel
theorem dL_law_263 : decode cL_law 263 = .ok (.aload_n 1, 1) := by decide +kernel
theorem dL_law_264 : decode cL_law 264 = .ok (.invokestatic 200, 3) := by decide +kernel
theorem dL_law_267 : decode cL_law 267 = .ok (.ifCond .eq 7, 3) := by decide +kernel
theorem dL_law_270 : decode cL_law 270 = .ok (.iconst 1, 1) := by decide +kernel
theorem dL_law_271 : decode cL_law 271 = .ok (.goto 4, 3) := by decide +kernel
theorem dL_law_274 : decode cL_law 274 = .ok (.iconst 0, 1) := by decide +kernel
theorem dL_law_275 : decode cL_law 275 = .ok (.ireturn, 1) := by decide +kernel
