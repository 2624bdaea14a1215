theorem dL_below_0 : decode cL_below 0 = .ok (.iload_n 0, 1) := by decide +kernel
theorem dL_below_1 : decode cL_below 1 = .ok (.ldc 7, 2) := by decide +kernel
theorem dL_below_3 : decode cL_below 3 = .ok (.iand, 1) := by decide +kernel
theorem dL_below_4 : decode cL_below 4 = .ok (.iload_n 1, 1) := by decide +kernel
theorem dL_below_5 : decode cL_below 5 = .ok (.irem, 1) := by decide +kernel
theorem dL_below_6 : decode cL_below 6 = .ok (.ireturn, 1) := by decide +kernel
theorem dL_cell_0 : decode cL_cell 0 = .ok (.iload_n 1, 1) := by decide +kernel
theorem dL_cell_1 : decode cL_cell 1 = .ok (.aload_n 0, 1) := by decide +kernel
theorem dL_cell_2 : decode cL_cell 2 = .ok (.arraylength, 1) := by decide +kernel
theorem dL_cell_3 : decode cL_cell 3 = .ok (.if_icmp .ge 9, 3) := by decide +kernel
theorem dL_cell_6 : decode cL_cell 6 = .ok (.aload_n 0, 1) := by decide +kernel
theorem dL_cell_7 : decode cL_cell 7 = .ok (.iload_n 1, 1) := by decide +kernel
theorem dL_cell_8 : decode cL_cell 8 = .ok (.iaload, 1) := by decide +kernel
theorem dL_cell_9 : decode cL_cell 9 = .ok (.goto 9, 3) := by decide +kernel
theorem dL_cell_12 : decode cL_cell 12 = .ok (.ldc 8, 2) := by decide +kernel
theorem dL_cell_14 : decode cL_cell 14 = .ok (.iload_n 1, 1) := by decide +kernel
theorem dL_cell_15 : decode cL_cell 15 = .ok (.iconst 3, 1) := by decide +kernel
theorem dL_cell_16 : decode cL_cell 16 = .ok (.iadd, 1) := by decide +kernel
theorem dL_cell_17 : decode cL_cell 17 = .ok (.imul, 1) := by decide +kernel
theorem dL_cell_18 : decode cL_cell 18 = .ok (.ireturn, 1) := by decide +kernel
theorem dL_of_0 : decode cL_of 0 = .ok (.new 9, 3) := by decide +kernel
theorem dL_of_3 : decode cL_of 3 = .ok (.dup, 1) := by decide +kernel
theorem dL_of_4 : decode cL_of 4 = .ok (.invokespecial 11, 3) := by decide +kernel
theorem dL_of_7 : decode cL_of 7 = .ok (.astore_n 1, 1) := by decide +kernel
theorem dL_of_8 : decode cL_of 8 = .ok (.iconst 1, 1) := by decide +kernel
theorem dL_of_9 : decode cL_of 9 = .ok (.aload_n 0, 1) := by decide +kernel
theorem dL_of_10 : decode cL_of 10 = .ok (.iconst 0, 1) := by decide +kernel
theorem dL_of_11 : decode cL_of 11 = .ok (.invokestatic 12, 3) := by decide +kernel
theorem dL_of_14 : decode cL_of 14 = .ok (.iconst 5, 1) := by decide +kernel
theorem dL_of_15 : decode cL_of 15 = .ok (.invokestatic 18, 3) := by decide +kernel
theorem dL_of_18 : decode cL_of 18 = .ok (.iadd, 1) := by decide +kernel
theorem dL_of_19 : decode cL_of 19 = .ok (.istore_n 2, 1) := by decide +kernel
theorem dL_of_20 : decode cL_of 20 = .ok (.iconst 0, 1) := by decide +kernel
theorem dL_of_21 : decode cL_of 21 = .ok (.istore_n 3, 1) := by decide +kernel
theorem dL_of_22 : decode cL_of 22 = .ok (.iload_n 3, 1) := by decide +kernel
theorem dL_of_23 : decode cL_of 23 = .ok (.iload_n 2, 1) := by decide +kernel
theorem dL_of_24 : decode cL_of 24 = .ok (.if_icmp .ge 96, 3) := by decide +kernel
theorem dL_of_27 : decode cL_of 27 = .ok (.aload_n 0, 1) := by decide +kernel
theorem dL_of_28 : decode cL_of 28 = .ok (.iconst 1, 1) := by decide +kernel
theorem dL_of_29 : decode cL_of 29 = .ok (.iload_n 3, 1) := by decide +kernel
theorem dL_of_30 : decode cL_of 30 = .ok (.iadd, 1) := by decide +kernel
theorem dL_of_31 : decode cL_of 31 = .ok (.invokestatic 12, 3) := by decide +kernel
theorem dL_of_34 : decode cL_of 34 = .ok (.istore 4, 2) := by decide +kernel
theorem dL_of_36 : decode cL_of 36 = .ok (.aload_n 1, 1) := by decide +kernel
theorem dL_of_37 : decode cL_of 37 = .ok (.bipush 10, 2) := by decide +kernel
theorem dL_of_39 : decode cL_of 39 = .ok (.iload 4, 2) := by decide +kernel
theorem dL_of_41 : decode cL_of 41 = .ok (.bipush 90, 2) := by decide +kernel
theorem dL_of_43 : decode cL_of 43 = .ok (.invokestatic 18, 3) := by decide +kernel
theorem dL_of_46 : decode cL_of 46 = .ok (.iadd, 1) := by decide +kernel
theorem dL_of_47 : decode cL_of 47 = .ok (.iload 4, 2) := by decide +kernel
theorem dL_of_49 : decode cL_of 49 = .ok (.iconst 3, 1) := by decide +kernel
theorem dL_of_50 : decode cL_of 50 = .ok (.ishr, 1) := by decide +kernel
theorem dL_of_51 : decode cL_of 51 = .ok (.iconst 2, 1) := by decide +kernel
theorem dL_of_52 : decode cL_of 52 = .ok (.invokestatic 18, 3) := by decide +kernel
theorem dL_of_55 : decode cL_of 55 = .ok (.iload 4, 2) := by decide +kernel
theorem dL_of_57 : decode cL_of 57 = .ok (.iconst 5, 1) := by decide +kernel
theorem dL_of_58 : decode cL_of 58 = .ok (.ishr, 1) := by decide +kernel
theorem dL_of_59 : decode cL_of 59 = .ok (.sipush 2001, 3) := by decide +kernel
theorem dL_of_62 : decode cL_of 62 = .ok (.invokestatic 18, 3) := by decide +kernel
theorem dL_of_65 : decode cL_of 65 = .ok (.iload 4, 2) := by decide +kernel
theorem dL_of_67 : decode cL_of 67 = .ok (.iconst 4, 1) := by decide +kernel
theorem dL_of_68 : decode cL_of 68 = .ok (.ishr, 1) := by decide +kernel
theorem dL_of_69 : decode cL_of 69 = .ok (.sipush 401, 3) := by decide +kernel
theorem dL_of_72 : decode cL_of 72 = .ok (.invokestatic 18, 3) := by decide +kernel
theorem dL_of_75 : decode cL_of 75 = .ok (.iload 4, 2) := by decide +kernel
theorem dL_of_77 : decode cL_of 77 = .ok (.bipush 6, 2) := by decide +kernel
theorem dL_of_79 : decode cL_of 79 = .ok (.ishr, 1) := by decide +kernel
theorem dL_of_80 : decode cL_of 80 = .ok (.iconst 3, 1) := by decide +kernel
theorem dL_of_81 : decode cL_of 81 = .ok (.invokestatic 18, 3) := by decide +kernel
theorem dL_of_84 : decode cL_of 84 = .ok (.ifCond .ne 16, 3) := by decide +kernel
theorem dL_of_87 : decode cL_of 87 = .ok (.iload 4, 2) := by decide +kernel
theorem dL_of_89 : decode cL_of 89 = .ok (.iconst 2, 1) := by decide +kernel
theorem dL_of_90 : decode cL_of 90 = .ok (.ishr, 1) := by decide +kernel
theorem dL_of_91 : decode cL_of 91 = .ok (.sipush 10000, 3) := by decide +kernel
theorem dL_of_94 : decode cL_of 94 = .ok (.invokestatic 18, 3) := by decide +kernel
theorem dL_of_97 : decode cL_of 97 = .ok (.goto 13, 3) := by decide +kernel
theorem dL_of_100 : decode cL_of 100 = .ok (.iload 4, 2) := by decide +kernel
theorem dL_of_102 : decode cL_of 102 = .ok (.iconst 2, 1) := by decide +kernel
theorem dL_of_103 : decode cL_of 103 = .ok (.ishr, 1) := by decide +kernel
theorem dL_of_104 : decode cL_of 104 = .ok (.sipush 300, 3) := by decide +kernel
theorem dL_of_107 : decode cL_of 107 = .ok (.invokestatic 18, 3) := by decide +kernel
theorem dL_of_110 : decode cL_of 110 = .ok (.invokevirtual 22, 3) := by decide +kernel
theorem dL_of_113 : decode cL_of 113 = .ok (.pop, 1) := by decide +kernel
theorem dL_of_114 : decode cL_of 114 = .ok (.iinc 3 1, 3) := by decide +kernel
theorem dL_of_117 : decode cL_of 117 = .ok (.goto (-95), 3) := by decide +kernel
theorem dL_of_120 : decode cL_of 120 = .ok (.iload_n 2, 1) := by decide +kernel
theorem dL_of_121 : decode cL_of 121 = .ok (.iconst 2, 1) := by decide +kernel
theorem dL_of_122 : decode cL_of 122 = .ok (.if_icmp .ge 7, 3) := by decide +kernel
theorem dL_of_125 : decode cL_of 125 = .ok (.iconst 0, 1) := by decide +kernel
theorem dL_of_126 : decode cL_of 126 = .ok (.goto 14, 3) := by decide +kernel
theorem dL_of_129 : decode cL_of 129 = .ok (.aload_n 0, 1) := by decide +kernel
theorem dL_of_130 : decode cL_of 130 = .ok (.bipush 6, 2) := by decide +kernel
theorem dL_of_132 : decode cL_of 132 = .ok (.invokestatic 12, 3) := by decide +kernel
theorem dL_of_135 : decode cL_of 135 = .ok (.bipush 7, 2) := by decide +kernel
theorem dL_of_137 : decode cL_of 137 = .ok (.invokestatic 18, 3) := by decide +kernel
theorem dL_of_140 : decode cL_of 140 = .ok (.istore_n 3, 1) := by decide +kernel
theorem dL_of_141 : decode cL_of 141 = .ok (.iconst 0, 1) := by decide +kernel
theorem dL_of_142 : decode cL_of 142 = .ok (.istore 4, 2) := by decide +kernel
theorem dL_of_144 : decode cL_of 144 = .ok (.iload 4, 2) := by decide +kernel
theorem dL_of_146 : decode cL_of 146 = .ok (.iload_n 3, 1) := by decide +kernel
theorem dL_of_147 : decode cL_of 147 = .ok (.if_icmp .ge 71, 3) := by decide +kernel
theorem dL_of_150 : decode cL_of 150 = .ok (.aload_n 0, 1) := by decide +kernel
theorem dL_of_151 : decode cL_of 151 = .ok (.bipush 7, 2) := by decide +kernel
theorem dL_of_153 : decode cL_of 153 = .ok (.invokestatic 12, 3) := by decide +kernel
theorem dL_of_156 : decode cL_of 156 = .ok (.iload 4, 2) := by decide +kernel
theorem dL_of_158 : decode cL_of 158 = .ok (.ishr, 1) := by decide +kernel
theorem dL_of_159 : decode cL_of 159 = .ok (.iload_n 2, 1) := by decide +kernel
theorem dL_of_160 : decode cL_of 160 = .ok (.invokestatic 18, 3) := by decide +kernel
theorem dL_of_163 : decode cL_of 163 = .ok (.istore 5, 2) := by decide +kernel
theorem dL_of_165 : decode cL_of 165 = .ok (.aload_n 1, 1) := by decide +kernel
theorem dL_of_166 : decode cL_of 166 = .ok (.iload 5, 2) := by decide +kernel
theorem dL_of_168 : decode cL_of 168 = .ok (.iload 5, 2) := by decide +kernel
theorem dL_of_170 : decode cL_of 170 = .ok (.iconst 1, 1) := by decide +kernel
theorem dL_of_171 : decode cL_of 171 = .ok (.iadd, 1) := by decide +kernel
theorem dL_of_172 : decode cL_of 172 = .ok (.aload_n 0, 1) := by decide +kernel
theorem dL_of_173 : decode cL_of 173 = .ok (.bipush 7, 2) := by decide +kernel
theorem dL_of_175 : decode cL_of 175 = .ok (.invokestatic 12, 3) := by decide +kernel
theorem dL_of_178 : decode cL_of 178 = .ok (.iconst 2, 1) := by decide +kernel
theorem dL_of_179 : decode cL_of 179 = .ok (.iload 4, 2) := by decide +kernel
theorem dL_of_181 : decode cL_of 181 = .ok (.imul, 1) := by decide +kernel
theorem dL_of_182 : decode cL_of 182 = .ok (.ishr, 1) := by decide +kernel
theorem dL_of_183 : decode cL_of 183 = .ok (.iload_n 2, 1) := by decide +kernel
theorem dL_of_184 : decode cL_of 184 = .ok (.iconst 1, 1) := by decide +kernel
theorem dL_of_185 : decode cL_of 185 = .ok (.isub, 1) := by decide +kernel
theorem dL_of_186 : decode cL_of 186 = .ok (.invokestatic 18, 3) := by decide +kernel
theorem dL_of_189 : decode cL_of 189 = .ok (.iadd, 1) := by decide +kernel
theorem dL_of_190 : decode cL_of 190 = .ok (.iload_n 2, 1) := by decide +kernel
theorem dL_of_191 : decode cL_of 191 = .ok (.irem, 1) := by decide +kernel
theorem dL_of_192 : decode cL_of 192 = .ok (.iconst 1, 1) := by decide +kernel
theorem dL_of_193 : decode cL_of 193 = .ok (.aload_n 0, 1) := by decide +kernel
theorem dL_of_194 : decode cL_of 194 = .ok (.bipush 8, 2) := by decide +kernel
theorem dL_of_196 : decode cL_of 196 = .ok (.invokestatic 12, 3) := by decide +kernel
theorem dL_of_199 : decode cL_of 199 = .ok (.iload 4, 2) := by decide +kernel
theorem dL_of_201 : decode cL_of 201 = .ok (.ishr, 1) := by decide +kernel
theorem dL_of_202 : decode cL_of 202 = .ok (.bipush 9, 2) := by decide +kernel
theorem dL_of_204 : decode cL_of 204 = .ok (.invokestatic 18, 3) := by decide +kernel
theorem dL_of_207 : decode cL_of 207 = .ok (.iadd, 1) := by decide +kernel
theorem dL_of_208 : decode cL_of 208 = .ok (.invokevirtual 26, 3) := by decide +kernel
theorem dL_of_211 : decode cL_of 211 = .ok (.pop, 1) := by decide +kernel
theorem dL_of_212 : decode cL_of 212 = .ok (.iinc 4 1, 3) := by decide +kernel
theorem dL_of_215 : decode cL_of 215 = .ok (.goto (-71), 3) := by decide +kernel
theorem dL_of_218 : decode cL_of 218 = .ok (.aload_n 0, 1) := by decide +kernel
theorem dL_of_219 : decode cL_of 219 = .ok (.bipush 9, 2) := by decide +kernel
theorem dL_of_221 : decode cL_of 221 = .ok (.invokestatic 12, 3) := by decide +kernel
theorem dL_of_224 : decode cL_of 224 = .ok (.bipush 7, 2) := by decide +kernel
theorem dL_of_226 : decode cL_of 226 = .ok (.invokestatic 18, 3) := by decide +kernel
theorem dL_of_229 : decode cL_of 229 = .ok (.istore 4, 2) := by decide +kernel
theorem dL_of_231 : decode cL_of 231 = .ok (.iconst 0, 1) := by decide +kernel
theorem dL_of_232 : decode cL_of 232 = .ok (.istore 5, 2) := by decide +kernel
theorem dL_of_234 : decode cL_of 234 = .ok (.iload 5, 2) := by decide +kernel
theorem dL_of_236 : decode cL_of 236 = .ok (.iload 4, 2) := by decide +kernel
theorem dL_of_238 : decode cL_of 238 = .ok (.if_icmp .ge 71, 3) := by decide +kernel
theorem dL_of_241 : decode cL_of 241 = .ok (.aload_n 1, 1) := by decide +kernel
theorem dL_of_242 : decode cL_of 242 = .ok (.aload_n 0, 1) := by decide +kernel
theorem dL_of_243 : decode cL_of 243 = .ok (.bipush 10, 2) := by decide +kernel
theorem dL_of_245 : decode cL_of 245 = .ok (.invokestatic 12, 3) := by decide +kernel
theorem dL_of_248 : decode cL_of 248 = .ok (.iload 5, 2) := by decide +kernel
theorem dL_of_250 : decode cL_of 250 = .ok (.ishr, 1) := by decide +kernel
theorem dL_of_251 : decode cL_of 251 = .ok (.iload_n 2, 1) := by decide +kernel
theorem dL_of_252 : decode cL_of 252 = .ok (.invokestatic 18, 3) := by decide +kernel
theorem dL_of_255 : decode cL_of 255 = .ok (.aload_n 0, 1) := by decide +kernel
theorem dL_of_256 : decode cL_of 256 = .ok (.bipush 10, 2) := by decide +kernel
theorem dL_of_258 : decode cL_of 258 = .ok (.invokestatic 12, 3) := by decide +kernel
theorem dL_of_261 : decode cL_of 261 = .ok (.iload 5, 2) := by decide +kernel
theorem dL_of_263 : decode cL_of 263 = .ok (.iconst 5, 1) := by decide +kernel
theorem dL_of_264 : decode cL_of 264 = .ok (.iadd, 1) := by decide +kernel
theorem dL_of_265 : decode cL_of 265 = .ok (.ishr, 1) := by decide +kernel
theorem dL_of_266 : decode cL_of 266 = .ok (.iconst 3, 1) := by decide +kernel
theorem dL_of_267 : decode cL_of 267 = .ok (.invokestatic 18, 3) := by decide +kernel
theorem dL_of_270 : decode cL_of 270 = .ok (.ifCond .ne 7, 3) := by decide +kernel
theorem dL_of_273 : decode cL_of 273 = .ok (.iconst 1, 1) := by decide +kernel
theorem dL_of_274 : decode cL_of 274 = .ok (.goto 4, 3) := by decide +kernel
theorem dL_of_277 : decode cL_of 277 = .ok (.iconst 0, 1) := by decide +kernel
theorem dL_of_278 : decode cL_of 278 = .ok (.invokevirtual 30, 3) := by decide +kernel
theorem dL_of_281 : decode cL_of 281 = .ok (.pop, 1) := by decide +kernel
theorem dL_of_282 : decode cL_of 282 = .ok (.aload_n 1, 1) := by decide +kernel
theorem dL_of_283 : decode cL_of 283 = .ok (.iload 5, 2) := by decide +kernel
theorem dL_of_285 : decode cL_of 285 = .ok (.aload_n 0, 1) := by decide +kernel
theorem dL_of_286 : decode cL_of 286 = .ok (.bipush 11, 2) := by decide +kernel
theorem dL_of_288 : decode cL_of 288 = .ok (.invokestatic 12, 3) := by decide +kernel
theorem dL_of_291 : decode cL_of 291 = .ok (.iload 5, 2) := by decide +kernel
theorem dL_of_293 : decode cL_of 293 = .ok (.ishr, 1) := by decide +kernel
theorem dL_of_294 : decode cL_of 294 = .ok (.bipush 10, 2) := by decide +kernel
theorem dL_of_296 : decode cL_of 296 = .ok (.invokestatic 18, 3) := by decide +kernel
theorem dL_of_299 : decode cL_of 299 = .ok (.invokevirtual 34, 3) := by decide +kernel
theorem dL_of_302 : decode cL_of 302 = .ok (.pop, 1) := by decide +kernel
theorem dL_of_303 : decode cL_of 303 = .ok (.iinc 5 1, 3) := by decide +kernel
theorem dL_of_306 : decode cL_of 306 = .ok (.goto (-72), 3) := by decide +kernel
theorem dL_of_309 : decode cL_of 309 = .ok (.aload_n 0, 1) := by decide +kernel
theorem dL_of_310 : decode cL_of 310 = .ok (.bipush 12, 2) := by decide +kernel
theorem dL_of_312 : decode cL_of 312 = .ok (.invokestatic 12, 3) := by decide +kernel
theorem dL_of_315 : decode cL_of 315 = .ok (.iconst 4, 1) := by decide +kernel
theorem dL_of_316 : decode cL_of 316 = .ok (.invokestatic 18, 3) := by decide +kernel
theorem dL_of_319 : decode cL_of 319 = .ok (.istore 5, 2) := by decide +kernel
theorem dL_of_321 : decode cL_of 321 = .ok (.iconst 0, 1) := by decide +kernel
theorem dL_of_322 : decode cL_of 322 = .ok (.istore 6, 2) := by decide +kernel
theorem dL_of_324 : decode cL_of 324 = .ok (.iload 6, 2) := by decide +kernel
theorem dL_of_326 : decode cL_of 326 = .ok (.iload 5, 2) := by decide +kernel
theorem dL_of_328 : decode cL_of 328 = .ok (.if_icmp .ge 60, 3) := by decide +kernel
theorem dL_of_331 : decode cL_of 331 = .ok (.aload_n 1, 1) := by decide +kernel
theorem dL_of_332 : decode cL_of 332 = .ok (.aload_n 0, 1) := by decide +kernel
theorem dL_of_333 : decode cL_of 333 = .ok (.bipush 13, 2) := by decide +kernel
theorem dL_of_335 : decode cL_of 335 = .ok (.invokestatic 12, 3) := by decide +kernel
theorem dL_of_338 : decode cL_of 338 = .ok (.iload 6, 2) := by decide +kernel
theorem dL_of_340 : decode cL_of 340 = .ok (.ishr, 1) := by decide +kernel
theorem dL_of_341 : decode cL_of 341 = .ok (.iload_n 2, 1) := by decide +kernel
theorem dL_of_342 : decode cL_of 342 = .ok (.invokestatic 18, 3) := by decide +kernel
theorem dL_of_345 : decode cL_of 345 = .ok (.aload_n 0, 1) := by decide +kernel
theorem dL_of_346 : decode cL_of 346 = .ok (.bipush 13, 2) := by decide +kernel
theorem dL_of_348 : decode cL_of 348 = .ok (.invokestatic 12, 3) := by decide +kernel
theorem dL_of_351 : decode cL_of 351 = .ok (.iload 6, 2) := by decide +kernel
theorem dL_of_353 : decode cL_of 353 = .ok (.iconst 3, 1) := by decide +kernel
theorem dL_of_354 : decode cL_of 354 = .ok (.iadd, 1) := by decide +kernel
theorem dL_of_355 : decode cL_of 355 = .ok (.ishr, 1) := by decide +kernel
theorem dL_of_356 : decode cL_of 356 = .ok (.sipush 301, 3) := by decide +kernel
theorem dL_of_359 : decode cL_of 359 = .ok (.invokestatic 18, 3) := by decide +kernel
theorem dL_of_362 : decode cL_of 362 = .ok (.aload_n 0, 1) := by decide +kernel
theorem dL_of_363 : decode cL_of 363 = .ok (.bipush 13, 2) := by decide +kernel
theorem dL_of_365 : decode cL_of 365 = .ok (.invokestatic 12, 3) := by decide +kernel
theorem dL_of_368 : decode cL_of 368 = .ok (.iload 6, 2) := by decide +kernel
theorem dL_of_370 : decode cL_of 370 = .ok (.iconst 2, 1) := by decide +kernel
theorem dL_of_371 : decode cL_of 371 = .ok (.iadd, 1) := by decide +kernel
theorem dL_of_372 : decode cL_of 372 = .ok (.ishr, 1) := by decide +kernel
theorem dL_of_373 : decode cL_of 373 = .ok (.bipush 51, 2) := by decide +kernel
theorem dL_of_375 : decode cL_of 375 = .ok (.invokestatic 18, 3) := by decide +kernel
theorem dL_of_378 : decode cL_of 378 = .ok (.invokevirtual 37, 3) := by decide +kernel
theorem dL_of_381 : decode cL_of 381 = .ok (.pop, 1) := by decide +kernel
theorem dL_of_382 : decode cL_of 382 = .ok (.iinc 6 1, 3) := by decide +kernel
theorem dL_of_385 : decode cL_of 385 = .ok (.goto (-61), 3) := by decide +kernel
theorem dL_of_388 : decode cL_of 388 = .ok (.aload_n 1, 1) := by decide +kernel
theorem dL_of_389 : decode cL_of 389 = .ok (.areturn, 1) := by decide +kernel
theorem dL_law_0 : decode cL_law 0 = .ok (.aload_n 0, 1) := by decide +kernel
theorem dL_law_1 : decode cL_law 1 = .ok (.invokestatic 40, 3) := by decide +kernel
theorem dL_law_4 : decode cL_law 4 = .ok (.astore_n 1, 1) := by decide +kernel
theorem dL_law_5 : decode cL_law 5 = .ok (.aload_n 1, 1) := by decide +kernel
theorem dL_law_6 : decode cL_law 6 = .ok (.iconst 0, 1) := by decide +kernel
theorem dL_law_7 : decode cL_law 7 = .ok (.invokevirtual 44, 3) := by decide +kernel
theorem dL_law_10 : decode cL_law 10 = .ok (.istore_n 2, 1) := by decide +kernel
theorem dL_law_11 : decode cL_law 11 = .ok (.aload_n 1, 1) := by decide +kernel
theorem dL_law_12 : decode cL_law 12 = .ok (.iconst 2, 1) := by decide +kernel
theorem dL_law_13 : decode cL_law 13 = .ok (.invokevirtual 44, 3) := by decide +kernel
theorem dL_law_16 : decode cL_law 16 = .ok (.istore_n 3, 1) := by decide +kernel
theorem dL_law_17 : decode cL_law 17 = .ok (.aload_n 1, 1) := by decide +kernel
theorem dL_law_18 : decode cL_law 18 = .ok (.iconst 3, 1) := by decide +kernel
theorem dL_law_19 : decode cL_law 19 = .ok (.invokevirtual 44, 3) := by decide +kernel
theorem dL_law_22 : decode cL_law 22 = .ok (.istore 4, 2) := by decide +kernel
theorem dL_law_24 : decode cL_law 24 = .ok (.aload_n 1, 1) := by decide +kernel
theorem dL_law_25 : decode cL_law 25 = .ok (.iconst 1, 1) := by decide +kernel
theorem dL_law_26 : decode cL_law 26 = .ok (.invokevirtual 48, 3) := by decide +kernel
theorem dL_law_29 : decode cL_law 29 = .ok (.istore 5, 2) := by decide +kernel
theorem dL_law_31 : decode cL_law 31 = .ok (.bipush 20, 2) := by decide +kernel
theorem dL_law_33 : decode cL_law 33 = .ok (.istore 6, 2) := by decide +kernel
theorem dL_law_35 : decode cL_law 35 = .ok (.iconst 0, 1) := by decide +kernel
theorem dL_law_36 : decode cL_law 36 = .ok (.istore 7, 2) := by decide +kernel
theorem dL_law_38 : decode cL_law 38 = .ok (.iconst 0, 1) := by decide +kernel
theorem dL_law_39 : decode cL_law 39 = .ok (.istore 8, 2) := by decide +kernel
theorem dL_law_41 : decode cL_law 41 = .ok (.iconst 0, 1) := by decide +kernel
theorem dL_law_42 : decode cL_law 42 = .ok (.istore 9, 2) := by decide +kernel
theorem dL_law_44 : decode cL_law 44 = .ok (.iload 9, 2) := by decide +kernel
theorem dL_law_46 : decode cL_law 46 = .ok (.bipush 70, 2) := by decide +kernel
theorem dL_law_48 : decode cL_law 48 = .ok (.if_icmp .ge 532, 3) := by decide +kernel
theorem dL_law_51 : decode cL_law 51 = .ok (.aload_n 0, 1) := by decide +kernel
theorem dL_law_52 : decode cL_law 52 = .ok (.bipush 14, 2) := by decide +kernel
theorem dL_law_54 : decode cL_law 54 = .ok (.iload 9, 2) := by decide +kernel
theorem dL_law_56 : decode cL_law 56 = .ok (.bipush 16, 2) := by decide +kernel
theorem dL_law_58 : decode cL_law 58 = .ok (.irem, 1) := by decide +kernel
theorem dL_law_59 : decode cL_law 59 = .ok (.iadd, 1) := by decide +kernel
theorem dL_law_60 : decode cL_law 60 = .ok (.invokestatic 12, 3) := by decide +kernel
theorem dL_law_63 : decode cL_law 63 = .ok (.iload 9, 2) := by decide +kernel
theorem dL_law_65 : decode cL_law 65 = .ok (.bipush 16, 2) := by decide +kernel
theorem dL_law_67 : decode cL_law 67 = .ok (.idiv, 1) := by decide +kernel
theorem dL_law_68 : decode cL_law 68 = .ok (.iconst 3, 1) := by decide +kernel
theorem dL_law_69 : decode cL_law 69 = .ok (.imul, 1) := by decide +kernel
theorem dL_law_70 : decode cL_law 70 = .ok (.ishr, 1) := by decide +kernel
theorem dL_law_71 : decode cL_law 71 = .ok (.istore 10, 2) := by decide +kernel
theorem dL_law_73 : decode cL_law 73 = .ok (.iload_n 3, 1) := by decide +kernel
theorem dL_law_74 : decode cL_law 74 = .ok (.ifCond .ne 7, 3) := by decide +kernel
theorem dL_law_77 : decode cL_law 77 = .ok (.iconst (-1), 1) := by decide +kernel
theorem dL_law_78 : decode cL_law 78 = .ok (.goto 11, 3) := by decide +kernel
theorem dL_law_81 : decode cL_law 81 = .ok (.iload 10, 2) := by decide +kernel
theorem dL_law_83 : decode cL_law 83 = .ok (.iconst 4, 1) := by decide +kernel
theorem dL_law_84 : decode cL_law 84 = .ok (.ishr, 1) := by decide +kernel
theorem dL_law_85 : decode cL_law 85 = .ok (.iload_n 3, 1) := by decide +kernel
theorem dL_law_86 : decode cL_law 86 = .ok (.invokestatic 18, 3) := by decide +kernel
theorem dL_law_89 : decode cL_law 89 = .ok (.istore 11, 2) := by decide +kernel
theorem dL_law_91 : decode cL_law 91 = .ok (.iload 10, 2) := by decide +kernel
theorem dL_law_93 : decode cL_law 93 = .ok (.bipush 9, 2) := by decide +kernel
theorem dL_law_95 : decode cL_law 95 = .ok (.invokestatic 18, 3) := by decide +kernel
theorem dL_law_98 : decode cL_law 98 = .ok (.tableswitch 237 0 5 #[38, 38, 66, 120, 157, 201], 38) := by decide +kernel
theorem dL_law_136 : decode cL_law 136 = .ok (.iload 11, 2) := by decide +kernel
theorem dL_law_138 : decode cL_law 138 = .ok (.ifCond .lt 402, 3) := by decide +kernel
theorem dL_law_141 : decode cL_law 141 = .ok (.aload_n 1, 1) := by decide +kernel
theorem dL_law_142 : decode cL_law 142 = .ok (.iload 11, 2) := by decide +kernel
theorem dL_law_144 : decode cL_law 144 = .ok (.iload 10, 2) := by decide +kernel
theorem dL_law_146 : decode cL_law 146 = .ok (.bipush 6, 2) := by decide +kernel
theorem dL_law_148 : decode cL_law 148 = .ok (.ishr, 1) := by decide +kernel
theorem dL_law_149 : decode cL_law 149 = .ok (.bipush 10, 2) := by decide +kernel
theorem dL_law_151 : decode cL_law 151 = .ok (.invokestatic 18, 3) := by decide +kernel
theorem dL_law_154 : decode cL_law 154 = .ok (.invokevirtual 34, 3) := by decide +kernel
theorem dL_law_157 : decode cL_law 157 = .ok (.bipush 9, 2) := by decide +kernel
theorem dL_law_159 : decode cL_law 159 = .ok (.if_icmp .le 381, 3) := by decide +kernel
theorem dL_law_162 : decode cL_law 162 = .ok (.iconst 0, 1) := by decide +kernel
theorem dL_law_163 : decode cL_law 163 = .ok (.ireturn, 1) := by decide +kernel
theorem dL_law_164 : decode cL_law 164 = .ok (.iload 11, 2) := by decide +kernel
theorem dL_law_166 : decode cL_law 166 = .ok (.ifCond .lt 374, 3) := by decide +kernel
theorem dL_law_169 : decode cL_law 169 = .ok (.aload_n 1, 1) := by decide +kernel
theorem dL_law_170 : decode cL_law 170 = .ok (.aload_n 1, 1) := by decide +kernel
theorem dL_law_171 : decode cL_law 171 = .ok (.iload 11, 2) := by decide +kernel
theorem dL_law_173 : decode cL_law 173 = .ok (.iconst 0, 1) := by decide +kernel
theorem dL_law_174 : decode cL_law 174 = .ok (.invokevirtual 51, 3) := by decide +kernel
theorem dL_law_177 : decode cL_law 177 = .ok (.iconst 0, 1) := by decide +kernel
theorem dL_law_178 : decode cL_law 178 = .ok (.invokevirtual 54, 3) := by decide +kernel
theorem dL_law_181 : decode cL_law 181 = .ok (.ifCond .le 359, 3) := by decide +kernel
theorem dL_law_184 : decode cL_law 184 = .ok (.aload_n 1, 1) := by decide +kernel
theorem dL_law_185 : decode cL_law 185 = .ok (.iload 11, 2) := by decide +kernel
theorem dL_law_187 : decode cL_law 187 = .ok (.iconst 1, 1) := by decide +kernel
theorem dL_law_188 : decode cL_law 188 = .ok (.iload 10, 2) := by decide +kernel
theorem dL_law_190 : decode cL_law 190 = .ok (.iconst 5, 1) := by decide +kernel
theorem dL_law_191 : decode cL_law 191 = .ok (.ishr, 1) := by decide +kernel
theorem dL_law_192 : decode cL_law 192 = .ok (.bipush 50, 2) := by decide +kernel
theorem dL_law_194 : decode cL_law 194 = .ok (.invokestatic 18, 3) := by decide +kernel
theorem dL_law_197 : decode cL_law 197 = .ok (.iadd, 1) := by decide +kernel
theorem dL_law_198 : decode cL_law 198 = .ok (.invokevirtual 57, 3) := by decide +kernel
theorem dL_law_201 : decode cL_law 201 = .ok (.aload_n 1, 1) := by decide +kernel
theorem dL_law_202 : decode cL_law 202 = .ok (.aload_n 1, 1) := by decide +kernel
theorem dL_law_203 : decode cL_law 203 = .ok (.iload 11, 2) := by decide +kernel
theorem dL_law_205 : decode cL_law 205 = .ok (.iconst 0, 1) := by decide +kernel
theorem dL_law_206 : decode cL_law 206 = .ok (.invokevirtual 51, 3) := by decide +kernel
theorem dL_law_209 : decode cL_law 209 = .ok (.iconst 3, 1) := by decide +kernel
theorem dL_law_210 : decode cL_law 210 = .ok (.invokevirtual 54, 3) := by decide +kernel
theorem dL_law_213 : decode cL_law 213 = .ok (.if_icmp .eq 327, 3) := by decide +kernel
theorem dL_law_216 : decode cL_law 216 = .ok (.iconst 0, 1) := by decide +kernel
theorem dL_law_217 : decode cL_law 217 = .ok (.ireturn, 1) := by decide +kernel
theorem dL_law_218 : decode cL_law 218 = .ok (.iload 10, 2) := by decide +kernel
theorem dL_law_220 : decode cL_law 220 = .ok (.iconst 3, 1) := by decide +kernel
theorem dL_law_221 : decode cL_law 221 = .ok (.ishr, 1) := by decide +kernel
theorem dL_law_222 : decode cL_law 222 = .ok (.iconst 3, 1) := by decide +kernel
theorem dL_law_223 : decode cL_law 223 = .ok (.invokestatic 18, 3) := by decide +kernel
theorem dL_law_226 : decode cL_law 226 = .ok (.ifCond .ne 314, 3) := by decide +kernel
theorem dL_law_229 : decode cL_law 229 = .ok (.iload 11, 2) := by decide +kernel
theorem dL_law_231 : decode cL_law 231 = .ok (.ifCond .lt 309, 3) := by decide +kernel
theorem dL_law_234 : decode cL_law 234 = .ok (.aload_n 1, 1) := by decide +kernel
theorem dL_law_235 : decode cL_law 235 = .ok (.iload 11, 2) := by decide +kernel
theorem dL_law_237 : decode cL_law 237 = .ok (.iconst 3, 1) := by decide +kernel
theorem dL_law_238 : decode cL_law 238 = .ok (.invokevirtual 51, 3) := by decide +kernel
theorem dL_law_241 : decode cL_law 241 = .ok (.ifCond .le 299, 3) := by decide +kernel
theorem dL_law_244 : decode cL_law 244 = .ok (.aload_n 1, 1) := by decide +kernel
theorem dL_law_245 : decode cL_law 245 = .ok (.iload 11, 2) := by decide +kernel
theorem dL_law_247 : decode cL_law 247 = .ok (.invokestatic 60, 3) := by decide +kernel
theorem dL_law_250 : decode cL_law 250 = .ok (.ifCond .ne 290, 3) := by decide +kernel
theorem dL_law_253 : decode cL_law 253 = .ok (.iconst 0, 1) := by decide +kernel
theorem dL_law_254 : decode cL_law 254 = .ok (.ireturn, 1) := by decide +kernel
theorem dL_law_255 : decode cL_law 255 = .ok (.aload_n 1, 1) := by decide +kernel
theorem dL_law_256 : decode cL_law 256 = .ok (.iload 10, 2) := by decide +kernel
theorem dL_law_258 : decode cL_law 258 = .ok (.iconst 4, 1) := by decide +kernel
theorem dL_law_259 : decode cL_law 259 = .ok (.ishr, 1) := by decide +kernel
theorem dL_law_260 : decode cL_law 260 = .ok (.bipush 100, 2) := by decide +kernel
theorem dL_law_262 : decode cL_law 262 = .ok (.invokestatic 18, 3) := by decide +kernel
theorem dL_law_265 : decode cL_law 265 = .ok (.invokevirtual 64, 3) := by decide +kernel
theorem dL_law_268 : decode cL_law 268 = .ok (.iload 6, 2) := by decide +kernel
theorem dL_law_270 : decode cL_law 270 = .ok (.if_icmp .ne 13, 3) := by decide +kernel
theorem dL_law_273 : decode cL_law 273 = .ok (.aload_n 1, 1) := by decide +kernel
theorem dL_law_274 : decode cL_law 274 = .ok (.bipush 7, 2) := by decide +kernel
theorem dL_law_276 : decode cL_law 276 = .ok (.invokevirtual 44, 3) := by decide +kernel
theorem dL_law_279 : decode cL_law 279 = .ok (.iconst 1, 1) := by decide +kernel
theorem dL_law_280 : decode cL_law 280 = .ok (.if_icmp .eq 5, 3) := by decide +kernel
theorem dL_law_283 : decode cL_law 283 = .ok (.iconst 0, 1) := by decide +kernel
theorem dL_law_284 : decode cL_law 284 = .ok (.ireturn, 1) := by decide +kernel
theorem dL_law_285 : decode cL_law 285 = .ok (.iload 10, 2) := by decide +kernel
theorem dL_law_287 : decode cL_law 287 = .ok (.iconst 4, 1) := by decide +kernel
theorem dL_law_288 : decode cL_law 288 = .ok (.ishr, 1) := by decide +kernel
theorem dL_law_289 : decode cL_law 289 = .ok (.bipush 100, 2) := by decide +kernel
theorem dL_law_291 : decode cL_law 291 = .ok (.invokestatic 18, 3) := by decide +kernel
theorem dL_law_294 : decode cL_law 294 = .ok (.istore 6, 2) := by decide +kernel
theorem dL_law_296 : decode cL_law 296 = .ok (.goto 244, 3) := by decide +kernel
theorem dL_law_299 : decode cL_law 299 = .ok (.aload_n 1, 1) := by decide +kernel
theorem dL_law_300 : decode cL_law 300 = .ok (.iload 10, 2) := by decide +kernel
theorem dL_law_302 : decode cL_law 302 = .ok (.iconst 4, 1) := by decide +kernel
theorem dL_law_303 : decode cL_law 303 = .ok (.ishr, 1) := by decide +kernel
theorem dL_law_304 : decode cL_law 304 = .ok (.sipush 1000, 3) := by decide +kernel
theorem dL_law_307 : decode cL_law 307 = .ok (.invokestatic 18, 3) := by decide +kernel
theorem dL_law_310 : decode cL_law 310 = .ok (.invokevirtual 67, 3) := by decide +kernel
theorem dL_law_313 : decode cL_law 313 = .ok (.iload 8, 2) := by decide +kernel
theorem dL_law_315 : decode cL_law 315 = .ok (.if_icmp .eq 5, 3) := by decide +kernel
theorem dL_law_318 : decode cL_law 318 = .ok (.iconst 0, 1) := by decide +kernel
theorem dL_law_319 : decode cL_law 319 = .ok (.ireturn, 1) := by decide +kernel
theorem dL_law_320 : decode cL_law 320 = .ok (.iload 10, 2) := by decide +kernel
theorem dL_law_322 : decode cL_law 322 = .ok (.iconst 4, 1) := by decide +kernel
theorem dL_law_323 : decode cL_law 323 = .ok (.ishr, 1) := by decide +kernel
theorem dL_law_324 : decode cL_law 324 = .ok (.sipush 1000, 3) := by decide +kernel
theorem dL_law_327 : decode cL_law 327 = .ok (.invokestatic 18, 3) := by decide +kernel
theorem dL_law_330 : decode cL_law 330 = .ok (.istore 8, 2) := by decide +kernel
theorem dL_law_332 : decode cL_law 332 = .ok (.goto 208, 3) := by decide +kernel
theorem dL_law_335 : decode cL_law 335 = .ok (.aload_n 1, 1) := by decide +kernel
theorem dL_law_336 : decode cL_law 336 = .ok (.iconst 5, 1) := by decide +kernel
theorem dL_law_337 : decode cL_law 337 = .ok (.invokevirtual 44, 3) := by decide +kernel
theorem dL_law_340 : decode cL_law 340 = .ok (.istore 12, 2) := by decide +kernel
theorem dL_law_342 : decode cL_law 342 = .ok (.aload_n 1, 1) := by decide +kernel
theorem dL_law_343 : decode cL_law 343 = .ok (.iconst 3, 1) := by decide +kernel
theorem dL_law_344 : decode cL_law 344 = .ok (.invokevirtual 48, 3) := by decide +kernel
theorem dL_law_347 : decode cL_law 347 = .ok (.istore 13, 2) := by decide +kernel
theorem dL_law_349 : decode cL_law 349 = .ok (.aload_n 1, 1) := by decide +kernel
theorem dL_law_350 : decode cL_law 350 = .ok (.iconst 1, 1) := by decide +kernel
theorem dL_law_351 : decode cL_law 351 = .ok (.invokevirtual 70, 3) := by decide +kernel
theorem dL_law_354 : decode cL_law 354 = .ok (.istore 14, 2) := by decide +kernel
theorem dL_law_356 : decode cL_law 356 = .ok (.iload 7, 2) := by decide +kernel
theorem dL_law_358 : decode cL_law 358 = .ok (.iload 14, 2) := by decide +kernel
theorem dL_law_360 : decode cL_law 360 = .ok (.iadd, 1) := by decide +kernel
theorem dL_law_361 : decode cL_law 361 = .ok (.istore 7, 2) := by decide +kernel
theorem dL_law_363 : decode cL_law 363 = .ok (.iload 14, 2) := by decide +kernel
theorem dL_law_365 : decode cL_law 365 = .ok (.iconst 2, 1) := by decide +kernel
theorem dL_law_366 : decode cL_law 366 = .ok (.aload_n 1, 1) := by decide +kernel
theorem dL_law_367 : decode cL_law 367 = .ok (.iconst 3, 1) := by decide +kernel
theorem dL_law_368 : decode cL_law 368 = .ok (.invokevirtual 48, 3) := by decide +kernel
theorem dL_law_371 : decode cL_law 371 = .ok (.iload 13, 2) := by decide +kernel
theorem dL_law_373 : decode cL_law 373 = .ok (.isub, 1) := by decide +kernel
theorem dL_law_374 : decode cL_law 374 = .ok (.imul, 1) := by decide +kernel
theorem dL_law_375 : decode cL_law 375 = .ok (.if_icmp .ne 54, 3) := by decide +kernel
theorem dL_law_378 : decode cL_law 378 = .ok (.iload 14, 2) := by decide +kernel
theorem dL_law_380 : decode cL_law 380 = .ok (.iconst 2, 1) := by decide +kernel
theorem dL_law_381 : decode cL_law 381 = .ok (.iload 6, 2) := by decide +kernel
theorem dL_law_383 : decode cL_law 383 = .ok (.imul, 1) := by decide +kernel
theorem dL_law_384 : decode cL_law 384 = .ok (.if_icmp .gt 45, 3) := by decide +kernel
theorem dL_law_387 : decode cL_law 387 = .ok (.aload_n 1, 1) := by decide +kernel
theorem dL_law_388 : decode cL_law 388 = .ok (.bipush 9, 2) := by decide +kernel
theorem dL_law_390 : decode cL_law 390 = .ok (.invokevirtual 44, 3) := by decide +kernel
theorem dL_law_393 : decode cL_law 393 = .ok (.iload 14, 2) := by decide +kernel
theorem dL_law_395 : decode cL_law 395 = .ok (.if_icmp .ne 34, 3) := by decide +kernel
theorem dL_law_398 : decode cL_law 398 = .ok (.aload_n 1, 1) := by decide +kernel
theorem dL_law_399 : decode cL_law 399 = .ok (.bipush 10, 2) := by decide +kernel
theorem dL_law_401 : decode cL_law 401 = .ok (.invokevirtual 44, 3) := by decide +kernel
theorem dL_law_404 : decode cL_law 404 = .ok (.iload 7, 2) := by decide +kernel
theorem dL_law_406 : decode cL_law 406 = .ok (.if_icmp .ne 23, 3) := by decide +kernel
theorem dL_law_409 : decode cL_law 409 = .ok (.aload_n 1, 1) := by decide +kernel
theorem dL_law_410 : decode cL_law 410 = .ok (.bipush 11, 2) := by decide +kernel
theorem dL_law_412 : decode cL_law 412 = .ok (.invokevirtual 44, 3) := by decide +kernel
theorem dL_law_415 : decode cL_law 415 = .ok (.iload 8, 2) := by decide +kernel
theorem dL_law_417 : decode cL_law 417 = .ok (.if_icmp .gt 12, 3) := by decide +kernel
theorem dL_law_420 : decode cL_law 420 = .ok (.aload_n 1, 1) := by decide +kernel
theorem dL_law_421 : decode cL_law 421 = .ok (.bipush 6, 2) := by decide +kernel
theorem dL_law_423 : decode cL_law 423 = .ok (.invokevirtual 44, 3) := by decide +kernel
theorem dL_law_426 : decode cL_law 426 = .ok (.ifCond .ge 5, 3) := by decide +kernel
theorem dL_law_429 : decode cL_law 429 = .ok (.iconst 0, 1) := by decide +kernel
theorem dL_law_430 : decode cL_law 430 = .ok (.ireturn, 1) := by decide +kernel
theorem dL_law_431 : decode cL_law 431 = .ok (.iconst 0, 1) := by decide +kernel
theorem dL_law_432 : decode cL_law 432 = .ok (.istore 15, 2) := by decide +kernel
theorem dL_law_434 : decode cL_law 434 = .ok (.iload 15, 2) := by decide +kernel
theorem dL_law_436 : decode cL_law 436 = .ok (.iload_n 3, 1) := by decide +kernel
theorem dL_law_437 : decode cL_law 437 = .ok (.if_icmp .ge 103, 3) := by decide +kernel
theorem dL_law_440 : decode cL_law 440 = .ok (.iload 12, 2) := by decide +kernel
theorem dL_law_442 : decode cL_law 442 = .ok (.ifCond .ne 15, 3) := by decide +kernel
theorem dL_law_445 : decode cL_law 445 = .ok (.iconst 4, 1) := by decide +kernel
theorem dL_law_446 : decode cL_law 446 = .ok (.aload_n 1, 1) := by decide +kernel
theorem dL_law_447 : decode cL_law 447 = .ok (.iload 15, 2) := by decide +kernel
theorem dL_law_449 : decode cL_law 449 = .ok (.iconst 2, 1) := by decide +kernel
theorem dL_law_450 : decode cL_law 450 = .ok (.invokevirtual 51, 3) := by decide +kernel
theorem dL_law_453 : decode cL_law 453 = .ok (.imul, 1) := by decide +kernel
theorem dL_law_454 : decode cL_law 454 = .ok (.goto 22, 3) := by decide +kernel
theorem dL_law_457 : decode cL_law 457 = .ok (.iload 12, 2) := by decide +kernel
theorem dL_law_459 : decode cL_law 459 = .ok (.iconst 1, 1) := by decide +kernel
theorem dL_law_460 : decode cL_law 460 = .ok (.if_icmp .ne 15, 3) := by decide +kernel
theorem dL_law_463 : decode cL_law 463 = .ok (.iconst 2, 1) := by decide +kernel
theorem dL_law_464 : decode cL_law 464 = .ok (.aload_n 1, 1) := by decide +kernel
theorem dL_law_465 : decode cL_law 465 = .ok (.iload 15, 2) := by decide +kernel
theorem dL_law_467 : decode cL_law 467 = .ok (.iconst 2, 1) := by decide +kernel
theorem dL_law_468 : decode cL_law 468 = .ok (.invokevirtual 51, 3) := by decide +kernel
theorem dL_law_471 : decode cL_law 471 = .ok (.imul, 1) := by decide +kernel
theorem dL_law_472 : decode cL_law 472 = .ok (.goto 4, 3) := by decide +kernel
theorem dL_law_475 : decode cL_law 475 = .ok (.iconst 0, 1) := by decide +kernel
theorem dL_law_476 : decode cL_law 476 = .ok (.istore 16, 2) := by decide +kernel
theorem dL_law_478 : decode cL_law 478 = .ok (.aload_n 1, 1) := by decide +kernel
theorem dL_law_479 : decode cL_law 479 = .ok (.iload 15, 2) := by decide +kernel
theorem dL_law_481 : decode cL_law 481 = .ok (.iconst 1, 1) := by decide +kernel
theorem dL_law_482 : decode cL_law 482 = .ok (.invokevirtual 51, 3) := by decide +kernel
theorem dL_law_485 : decode cL_law 485 = .ok (.iconst 1, 1) := by decide +kernel
theorem dL_law_486 : decode cL_law 486 = .ok (.if_icmp .ne 26, 3) := by decide +kernel
theorem dL_law_489 : decode cL_law 489 = .ok (.aload_n 1, 1) := by decide +kernel
theorem dL_law_490 : decode cL_law 490 = .ok (.iload 15, 2) := by decide +kernel
theorem dL_law_492 : decode cL_law 492 = .ok (.iconst 5, 1) := by decide +kernel
theorem dL_law_493 : decode cL_law 493 = .ok (.invokevirtual 51, 3) := by decide +kernel
theorem dL_law_496 : decode cL_law 496 = .ok (.iload 16, 2) := by decide +kernel
theorem dL_law_498 : decode cL_law 498 = .ok (.if_icmp .gt 34, 3) := by decide +kernel
theorem dL_law_501 : decode cL_law 501 = .ok (.aload_n 1, 1) := by decide +kernel
theorem dL_law_502 : decode cL_law 502 = .ok (.iload 15, 2) := by decide +kernel
theorem dL_law_504 : decode cL_law 504 = .ok (.bipush 6, 2) := by decide +kernel
theorem dL_law_506 : decode cL_law 506 = .ok (.invokevirtual 51, 3) := by decide +kernel
theorem dL_law_509 : decode cL_law 509 = .ok (.ifCond .ne 23, 3) := by decide +kernel
theorem dL_law_512 : decode cL_law 512 = .ok (.aload_n 1, 1) := by decide +kernel
theorem dL_law_513 : decode cL_law 513 = .ok (.iload 15, 2) := by decide +kernel
theorem dL_law_515 : decode cL_law 515 = .ok (.iconst 2, 1) := by decide +kernel
theorem dL_law_516 : decode cL_law 516 = .ok (.invokevirtual 51, 3) := by decide +kernel
theorem dL_law_519 : decode cL_law 519 = .ok (.ifCond .ne 15, 3) := by decide +kernel
theorem dL_law_522 : decode cL_law 522 = .ok (.aload_n 1, 1) := by decide +kernel
theorem dL_law_523 : decode cL_law 523 = .ok (.iload 15, 2) := by decide +kernel
theorem dL_law_525 : decode cL_law 525 = .ok (.iconst 5, 1) := by decide +kernel
theorem dL_law_526 : decode cL_law 526 = .ok (.invokevirtual 51, 3) := by decide +kernel
theorem dL_law_529 : decode cL_law 529 = .ok (.ifCond .eq 5, 3) := by decide +kernel
theorem dL_law_532 : decode cL_law 532 = .ok (.iconst 0, 1) := by decide +kernel
theorem dL_law_533 : decode cL_law 533 = .ok (.ireturn, 1) := by decide +kernel
theorem dL_law_534 : decode cL_law 534 = .ok (.iinc 15 1, 3) := by decide +kernel
theorem dL_law_537 : decode cL_law 537 = .ok (.goto (-103), 3) := by decide +kernel
theorem dL_law_540 : decode cL_law 540 = .ok (.aload_n 1, 1) := by decide +kernel
theorem dL_law_541 : decode cL_law 541 = .ok (.iconst 0, 1) := by decide +kernel
theorem dL_law_542 : decode cL_law 542 = .ok (.invokevirtual 48, 3) := by decide +kernel
theorem dL_law_545 : decode cL_law 545 = .ok (.iload 5, 2) := by decide +kernel
theorem dL_law_547 : decode cL_law 547 = .ok (.if_icmp .ne 25, 3) := by decide +kernel
theorem dL_law_550 : decode cL_law 550 = .ok (.aload_n 1, 1) := by decide +kernel
theorem dL_law_551 : decode cL_law 551 = .ok (.bipush 8, 2) := by decide +kernel
theorem dL_law_553 : decode cL_law 553 = .ok (.invokevirtual 44, 3) := by decide +kernel
theorem dL_law_556 : decode cL_law 556 = .ok (.iload 6, 2) := by decide +kernel
theorem dL_law_558 : decode cL_law 558 = .ok (.if_icmp .ne 14, 3) := by decide +kernel
theorem dL_law_561 : decode cL_law 561 = .ok (.aload_n 1, 1) := by decide +kernel
theorem dL_law_562 : decode cL_law 562 = .ok (.iload_n 2, 1) := by decide +kernel
theorem dL_law_563 : decode cL_law 563 = .ok (.iload_n 3, 1) := by decide +kernel
theorem dL_law_564 : decode cL_law 564 = .ok (.iload 4, 2) := by decide +kernel
theorem dL_law_566 : decode cL_law 566 = .ok (.invokestatic 73, 3) := by decide +kernel
theorem dL_law_569 : decode cL_law 569 = .ok (.ifCond .ne 5, 3) := by decide +kernel
theorem dL_law_572 : decode cL_law 572 = .ok (.iconst 0, 1) := by decide +kernel
theorem dL_law_573 : decode cL_law 573 = .ok (.ireturn, 1) := by decide +kernel
theorem dL_law_574 : decode cL_law 574 = .ok (.iinc 9 1, 3) := by decide +kernel
theorem dL_law_577 : decode cL_law 577 = .ok (.goto (-533), 3) := by decide +kernel
theorem dL_law_580 : decode cL_law 580 = .ok (.aload_n 1, 1) := by decide +kernel
theorem dL_law_581 : decode cL_law 581 = .ok (.invokevirtual 77, 3) := by decide +kernel
theorem dL_law_584 : decode cL_law 584 = .ok (.lstore 9, 2) := by decide +kernel
theorem dL_law_586 : decode cL_law 586 = .ok (.aload_n 1, 1) := by decide +kernel
theorem dL_law_587 : decode cL_law 587 = .ok (.iload_n 2, 1) := by decide +kernel
theorem dL_law_588 : decode cL_law 588 = .ok (.iload_n 3, 1) := by decide +kernel
theorem dL_law_589 : decode cL_law 589 = .ok (.iload 4, 2) := by decide +kernel
theorem dL_law_591 : decode cL_law 591 = .ok (.invokestatic 73, 3) := by decide +kernel
theorem dL_law_594 : decode cL_law 594 = .ok (.ifCond .eq 17, 3) := by decide +kernel
theorem dL_law_597 : decode cL_law 597 = .ok (.aload_n 1, 1) := by decide +kernel
theorem dL_law_598 : decode cL_law 598 = .ok (.invokevirtual 77, 3) := by decide +kernel
theorem dL_law_601 : decode cL_law 601 = .ok (.lload 9, 2) := by decide +kernel
theorem dL_law_603 : decode cL_law 603 = .ok (.lcmp, 1) := by decide +kernel
theorem dL_law_604 : decode cL_law 604 = .ok (.ifCond .ne 7, 3) := by decide +kernel
theorem dL_law_607 : decode cL_law 607 = .ok (.iconst 1, 1) := by decide +kernel
theorem dL_law_608 : decode cL_law 608 = .ok (.goto 4, 3) := by decide +kernel
theorem dL_law_611 : decode cL_law 611 = .ok (.iconst 0, 1) := by decide +kernel
theorem dL_law_612 : decode cL_law 612 = .ok (.ireturn, 1) := by decide +kernel
theorem dL_isCleaned_0 : decode cL_isCleaned 0 = .ok (.aload_n 0, 1) := by decide +kernel
theorem dL_isCleaned_1 : decode cL_isCleaned 1 = .ok (.iconst 0, 1) := by decide +kernel
theorem dL_isCleaned_2 : decode cL_isCleaned 2 = .ok (.iconst 0, 1) := by decide +kernel
theorem dL_isCleaned_3 : decode cL_isCleaned 3 = .ok (.invokevirtual 81, 3) := by decide +kernel
theorem dL_isCleaned_6 : decode cL_isCleaned 6 = .ok (.aload_n 0, 1) := by decide +kernel
theorem dL_isCleaned_7 : decode cL_isCleaned 7 = .ok (.iconst 1, 1) := by decide +kernel
theorem dL_isCleaned_8 : decode cL_isCleaned 8 = .ok (.iconst 0, 1) := by decide +kernel
theorem dL_isCleaned_9 : decode cL_isCleaned 9 = .ok (.invokevirtual 81, 3) := by decide +kernel
theorem dL_isCleaned_12 : decode cL_isCleaned 12 = .ok (.iadd, 1) := by decide +kernel
theorem dL_isCleaned_13 : decode cL_isCleaned 13 = .ok (.istore_n 2, 1) := by decide +kernel
theorem dL_isCleaned_14 : decode cL_isCleaned 14 = .ok (.aload_n 0, 1) := by decide +kernel
theorem dL_isCleaned_15 : decode cL_isCleaned 15 = .ok (.iload_n 1, 1) := by decide +kernel
theorem dL_isCleaned_16 : decode cL_isCleaned 16 = .ok (.iconst 3, 1) := by decide +kernel
theorem dL_isCleaned_17 : decode cL_isCleaned 17 = .ok (.invokevirtual 51, 3) := by decide +kernel
theorem dL_isCleaned_20 : decode cL_isCleaned 20 = .ok (.istore_n 3, 1) := by decide +kernel
theorem dL_isCleaned_21 : decode cL_isCleaned 21 = .ok (.aload_n 0, 1) := by decide +kernel
theorem dL_isCleaned_22 : decode cL_isCleaned 22 = .ok (.iload_n 1, 1) := by decide +kernel
theorem dL_isCleaned_23 : decode cL_isCleaned 23 = .ok (.invokevirtual 84, 3) := by decide +kernel
theorem dL_isCleaned_26 : decode cL_isCleaned 26 = .ok (.iload_n 3, 1) := by decide +kernel
theorem dL_isCleaned_27 : decode cL_isCleaned 27 = .ok (.if_icmp .ne 46, 3) := by decide +kernel
theorem dL_isCleaned_30 : decode cL_isCleaned 30 = .ok (.aload_n 0, 1) := by decide +kernel
theorem dL_isCleaned_31 : decode cL_isCleaned 31 = .ok (.iload_n 1, 1) := by decide +kernel
theorem dL_isCleaned_32 : decode cL_isCleaned 32 = .ok (.iconst 3, 1) := by decide +kernel
theorem dL_isCleaned_33 : decode cL_isCleaned 33 = .ok (.invokevirtual 51, 3) := by decide +kernel
theorem dL_isCleaned_36 : decode cL_isCleaned 36 = .ok (.ifCond .ne 37, 3) := by decide +kernel
theorem dL_isCleaned_39 : decode cL_isCleaned 39 = .ok (.aload_n 0, 1) := by decide +kernel
theorem dL_isCleaned_40 : decode cL_isCleaned 40 = .ok (.iload_n 1, 1) := by decide +kernel
theorem dL_isCleaned_41 : decode cL_isCleaned 41 = .ok (.iconst 4, 1) := by decide +kernel
theorem dL_isCleaned_42 : decode cL_isCleaned 42 = .ok (.invokevirtual 51, 3) := by decide +kernel
theorem dL_isCleaned_45 : decode cL_isCleaned 45 = .ok (.ifCond .ne 28, 3) := by decide +kernel
theorem dL_isCleaned_48 : decode cL_isCleaned 48 = .ok (.aload_n 0, 1) := by decide +kernel
theorem dL_isCleaned_49 : decode cL_isCleaned 49 = .ok (.iconst 0, 1) := by decide +kernel
theorem dL_isCleaned_50 : decode cL_isCleaned 50 = .ok (.iconst 0, 1) := by decide +kernel
theorem dL_isCleaned_51 : decode cL_isCleaned 51 = .ok (.invokevirtual 81, 3) := by decide +kernel
theorem dL_isCleaned_54 : decode cL_isCleaned 54 = .ok (.aload_n 0, 1) := by decide +kernel
theorem dL_isCleaned_55 : decode cL_isCleaned 55 = .ok (.iconst 1, 1) := by decide +kernel
theorem dL_isCleaned_56 : decode cL_isCleaned 56 = .ok (.iconst 0, 1) := by decide +kernel
theorem dL_isCleaned_57 : decode cL_isCleaned 57 = .ok (.invokevirtual 81, 3) := by decide +kernel
theorem dL_isCleaned_60 : decode cL_isCleaned 60 = .ok (.iadd, 1) := by decide +kernel
theorem dL_isCleaned_61 : decode cL_isCleaned 61 = .ok (.iload_n 2, 1) := by decide +kernel
theorem dL_isCleaned_62 : decode cL_isCleaned 62 = .ok (.iconst 5, 1) := by decide +kernel
theorem dL_isCleaned_63 : decode cL_isCleaned 63 = .ok (.iload_n 3, 1) := by decide +kernel
theorem dL_isCleaned_64 : decode cL_isCleaned 64 = .ok (.imul, 1) := by decide +kernel
theorem dL_isCleaned_65 : decode cL_isCleaned 65 = .ok (.isub, 1) := by decide +kernel
theorem dL_isCleaned_66 : decode cL_isCleaned 66 = .ok (.if_icmp .ne 7, 3) := by decide +kernel
theorem dL_isCleaned_69 : decode cL_isCleaned 69 = .ok (.iconst 1, 1) := by decide +kernel
theorem dL_isCleaned_70 : decode cL_isCleaned 70 = .ok (.goto 4, 3) := by decide +kernel
theorem dL_isCleaned_73 : decode cL_isCleaned 73 = .ok (.iconst 0, 1) := by decide +kernel
theorem dL_isCleaned_74 : decode cL_isCleaned 74 = .ok (.ireturn, 1) := by decide +kernel
theorem dL_isCleaned_75 : decode cL_isCleaned 75 = .ok (.astore 4, 2) := by decide +kernel
theorem dL_isCleaned_77 : decode cL_isCleaned 77 = .ok (.aload_n 0, 1) := by decide +kernel
theorem dL_isCleaned_78 : decode cL_isCleaned 78 = .ok (.iconst 0, 1) := by decide +kernel
theorem dL_isCleaned_79 : decode cL_isCleaned 79 = .ok (.iconst 0, 1) := by decide +kernel
theorem dL_isCleaned_80 : decode cL_isCleaned 80 = .ok (.invokevirtual 81, 3) := by decide +kernel
theorem dL_isCleaned_83 : decode cL_isCleaned 83 = .ok (.aload_n 0, 1) := by decide +kernel
theorem dL_isCleaned_84 : decode cL_isCleaned 84 = .ok (.iconst 1, 1) := by decide +kernel
theorem dL_isCleaned_85 : decode cL_isCleaned 85 = .ok (.iconst 0, 1) := by decide +kernel
theorem dL_isCleaned_86 : decode cL_isCleaned 86 = .ok (.invokevirtual 81, 3) := by decide +kernel
theorem dL_isCleaned_89 : decode cL_isCleaned 89 = .ok (.invokestatic 89, 3) := by decide +kernel
theorem dL_isCleaned_92 : decode cL_isCleaned 92 = .ok (.iconst 5, 1) := by decide +kernel
theorem dL_isCleaned_93 : decode cL_isCleaned 93 = .ok (.iload_n 3, 1) := by decide +kernel
theorem dL_isCleaned_94 : decode cL_isCleaned 94 = .ok (.imul, 1) := by decide +kernel
theorem dL_isCleaned_95 : decode cL_isCleaned 95 = .ok (.if_icmp .ge 17, 3) := by decide +kernel
theorem dL_isCleaned_98 : decode cL_isCleaned 98 = .ok (.aload_n 0, 1) := by decide +kernel
theorem dL_isCleaned_99 : decode cL_isCleaned 99 = .ok (.iload_n 1, 1) := by decide +kernel
theorem dL_isCleaned_100 : decode cL_isCleaned 100 = .ok (.iconst 3, 1) := by decide +kernel
theorem dL_isCleaned_101 : decode cL_isCleaned 101 = .ok (.invokevirtual 51, 3) := by decide +kernel
theorem dL_isCleaned_104 : decode cL_isCleaned 104 = .ok (.iload_n 3, 1) := by decide +kernel
theorem dL_isCleaned_105 : decode cL_isCleaned 105 = .ok (.if_icmp .ne 7, 3) := by decide +kernel
theorem dL_isCleaned_108 : decode cL_isCleaned 108 = .ok (.iconst 1, 1) := by decide +kernel
theorem dL_isCleaned_109 : decode cL_isCleaned 109 = .ok (.goto 4, 3) := by decide +kernel
theorem dL_isCleaned_112 : decode cL_isCleaned 112 = .ok (.iconst 0, 1) := by decide +kernel
theorem dL_isCleaned_113 : decode cL_isCleaned 113 = .ok (.ireturn, 1) := by decide +kernel
theorem dL_isSo_0 : decode cL_isSo 0 = .ok (.iconst 0, 1) := by decide +kernel
theorem dL_isSo_1 : decode cL_isSo 1 = .ok (.istore 4, 2) := by decide +kernel
theorem dL_isSo_3 : decode cL_isSo 3 = .ok (.sipush 400, 3) := by decide +kernel
theorem dL_isSo_6 : decode cL_isSo 6 = .ok (.istore 5, 2) := by decide +kernel
theorem dL_isSo_8 : decode cL_isSo 8 = .ok (.iconst 0, 1) := by decide +kernel
theorem dL_isSo_9 : decode cL_isSo 9 = .ok (.istore 6, 2) := by decide +kernel
theorem dL_isSo_11 : decode cL_isSo 11 = .ok (.iconst 0, 1) := by decide +kernel
theorem dL_isSo_12 : decode cL_isSo 12 = .ok (.istore 7, 2) := by decide +kernel
theorem dL_isSo_14 : decode cL_isSo 14 = .ok (.iload 7, 2) := by decide +kernel
theorem dL_isSo_16 : decode cL_isSo 16 = .ok (.iload_n 1, 1) := by decide +kernel
theorem dL_isSo_17 : decode cL_isSo 17 = .ok (.if_icmp .ge 78, 3) := by decide +kernel
theorem dL_isSo_20 : decode cL_isSo 20 = .ok (.iconst 0, 1) := by decide +kernel
theorem dL_isSo_21 : decode cL_isSo 21 = .ok (.istore 8, 2) := by decide +kernel
theorem dL_isSo_23 : decode cL_isSo 23 = .ok (.iload 8, 2) := by decide +kernel
theorem dL_isSo_25 : decode cL_isSo 25 = .ok (.bipush 6, 2) := by decide +kernel
theorem dL_isSo_27 : decode cL_isSo 27 = .ok (.if_icmp .ge 22, 3) := by decide +kernel
theorem dL_isSo_30 : decode cL_isSo 30 = .ok (.aload_n 0, 1) := by decide +kernel
theorem dL_isSo_31 : decode cL_isSo 31 = .ok (.iload 7, 2) := by decide +kernel
theorem dL_isSo_33 : decode cL_isSo 33 = .ok (.iload 8, 2) := by decide +kernel
theorem dL_isSo_35 : decode cL_isSo 35 = .ok (.invokevirtual 54, 3) := by decide +kernel
theorem dL_isSo_38 : decode cL_isSo 38 = .ok (.ifCond .ge 5, 3) := by decide +kernel
theorem dL_isSo_41 : decode cL_isSo 41 = .ok (.iconst 0, 1) := by decide +kernel
theorem dL_isSo_42 : decode cL_isSo 42 = .ok (.ireturn, 1) := by decide +kernel
theorem dL_isSo_43 : decode cL_isSo 43 = .ok (.iinc 8 1, 3) := by decide +kernel
theorem dL_isSo_46 : decode cL_isSo 46 = .ok (.goto (-23), 3) := by decide +kernel
theorem dL_isSo_49 : decode cL_isSo 49 = .ok (.iload 4, 2) := by decide +kernel
theorem dL_isSo_51 : decode cL_isSo 51 = .ok (.aload_n 0, 1) := by decide +kernel
theorem dL_isSo_52 : decode cL_isSo 52 = .ok (.iload 7, 2) := by decide +kernel
theorem dL_isSo_54 : decode cL_isSo 54 = .ok (.iconst 0, 1) := by decide +kernel
theorem dL_isSo_55 : decode cL_isSo 55 = .ok (.invokevirtual 54, 3) := by decide +kernel
theorem dL_isSo_58 : decode cL_isSo 58 = .ok (.iadd, 1) := by decide +kernel
theorem dL_isSo_59 : decode cL_isSo 59 = .ok (.istore 4, 2) := by decide +kernel
theorem dL_isSo_61 : decode cL_isSo 61 = .ok (.iload 5, 2) := by decide +kernel
theorem dL_isSo_63 : decode cL_isSo 63 = .ok (.aload_n 0, 1) := by decide +kernel
theorem dL_isSo_64 : decode cL_isSo 64 = .ok (.iload 7, 2) := by decide +kernel
theorem dL_isSo_66 : decode cL_isSo 66 = .ok (.iconst 5, 1) := by decide +kernel
theorem dL_isSo_67 : decode cL_isSo 67 = .ok (.invokevirtual 54, 3) := by decide +kernel
theorem dL_isSo_70 : decode cL_isSo 70 = .ok (.invokestatic 89, 3) := by decide +kernel
theorem dL_isSo_73 : decode cL_isSo 73 = .ok (.istore 5, 2) := by decide +kernel
theorem dL_isSo_75 : decode cL_isSo 75 = .ok (.iload 6, 2) := by decide +kernel
theorem dL_isSo_77 : decode cL_isSo 77 = .ok (.aload_n 0, 1) := by decide +kernel
theorem dL_isSo_78 : decode cL_isSo 78 = .ok (.iload 7, 2) := by decide +kernel
theorem dL_isSo_80 : decode cL_isSo 80 = .ok (.iconst 5, 1) := by decide +kernel
theorem dL_isSo_81 : decode cL_isSo 81 = .ok (.invokevirtual 54, 3) := by decide +kernel
theorem dL_isSo_84 : decode cL_isSo 84 = .ok (.invokestatic 94, 3) := by decide +kernel
theorem dL_isSo_87 : decode cL_isSo 87 = .ok (.istore 6, 2) := by decide +kernel
theorem dL_isSo_89 : decode cL_isSo 89 = .ok (.iinc 7 1, 3) := by decide +kernel
theorem dL_isSo_92 : decode cL_isSo 92 = .ok (.goto (-78), 3) := by decide +kernel
theorem dL_isSo_95 : decode cL_isSo 95 = .ok (.iconst 0, 1) := by decide +kernel
theorem dL_isSo_96 : decode cL_isSo 96 = .ok (.istore 7, 2) := by decide +kernel
theorem dL_isSo_98 : decode cL_isSo 98 = .ok (.iload 7, 2) := by decide +kernel
theorem dL_isSo_100 : decode cL_isSo 100 = .ok (.iconst 4, 1) := by decide +kernel
theorem dL_isSo_101 : decode cL_isSo 101 = .ok (.if_icmp .ge 20, 3) := by decide +kernel
theorem dL_isSo_104 : decode cL_isSo 104 = .ok (.aload_n 0, 1) := by decide +kernel
theorem dL_isSo_105 : decode cL_isSo 105 = .ok (.iload 7, 2) := by decide +kernel
theorem dL_isSo_107 : decode cL_isSo 107 = .ok (.invokevirtual 97, 3) := by decide +kernel
theorem dL_isSo_110 : decode cL_isSo 110 = .ok (.ifCond .ge 5, 3) := by decide +kernel
theorem dL_isSo_113 : decode cL_isSo 113 = .ok (.iconst 0, 1) := by decide +kernel
theorem dL_isSo_114 : decode cL_isSo 114 = .ok (.ireturn, 1) := by decide +kernel
theorem dL_isSo_115 : decode cL_isSo 115 = .ok (.iinc 7 1, 3) := by decide +kernel
theorem dL_isSo_118 : decode cL_isSo 118 = .ok (.goto (-20), 3) := by decide +kernel
theorem dL_isSo_121 : decode cL_isSo 121 = .ok (.iconst 0, 1) := by decide +kernel
theorem dL_isSo_122 : decode cL_isSo 122 = .ok (.istore 7, 2) := by decide +kernel
theorem dL_isSo_124 : decode cL_isSo 124 = .ok (.iconst 0, 1) := by decide +kernel
theorem dL_isSo_125 : decode cL_isSo 125 = .ok (.istore 8, 2) := by decide +kernel
theorem dL_isSo_127 : decode cL_isSo 127 = .ok (.iload 8, 2) := by decide +kernel
theorem dL_isSo_129 : decode cL_isSo 129 = .ok (.iload_n 2, 1) := by decide +kernel
theorem dL_isSo_130 : decode cL_isSo 130 = .ok (.if_icmp .ge 94, 3) := by decide +kernel
theorem dL_isSo_133 : decode cL_isSo 133 = .ok (.aload_n 0, 1) := by decide +kernel
theorem dL_isSo_134 : decode cL_isSo 134 = .ok (.iload 8, 2) := by decide +kernel
theorem dL_isSo_136 : decode cL_isSo 136 = .ok (.iconst 3, 1) := by decide +kernel
theorem dL_isSo_137 : decode cL_isSo 137 = .ok (.invokevirtual 51, 3) := by decide +kernel
theorem dL_isSo_140 : decode cL_isSo 140 = .ok (.bipush 9, 2) := by decide +kernel
theorem dL_isSo_142 : decode cL_isSo 142 = .ok (.if_icmp .gt 61, 3) := by decide +kernel
theorem dL_isSo_145 : decode cL_isSo 145 = .ok (.aload_n 0, 1) := by decide +kernel
theorem dL_isSo_146 : decode cL_isSo 146 = .ok (.iload 8, 2) := by decide +kernel
theorem dL_isSo_148 : decode cL_isSo 148 = .ok (.iconst 4, 1) := by decide +kernel
theorem dL_isSo_149 : decode cL_isSo 149 = .ok (.invokevirtual 51, 3) := by decide +kernel
theorem dL_isSo_152 : decode cL_isSo 152 = .ok (.iconst 4, 1) := by decide +kernel
theorem dL_isSo_153 : decode cL_isSo 153 = .ok (.if_icmp .gt 50, 3) := by decide +kernel
theorem dL_isSo_156 : decode cL_isSo 156 = .ok (.aload_n 0, 1) := by decide +kernel
theorem dL_isSo_157 : decode cL_isSo 157 = .ok (.iload 8, 2) := by decide +kernel
theorem dL_isSo_159 : decode cL_isSo 159 = .ok (.bipush 6, 2) := by decide +kernel
theorem dL_isSo_161 : decode cL_isSo 161 = .ok (.invokevirtual 51, 3) := by decide +kernel
theorem dL_isSo_164 : decode cL_isSo 164 = .ok (.aload_n 0, 1) := by decide +kernel
theorem dL_isSo_165 : decode cL_isSo 165 = .ok (.iload 8, 2) := by decide +kernel
theorem dL_isSo_167 : decode cL_isSo 167 = .ok (.iconst 5, 1) := by decide +kernel
theorem dL_isSo_168 : decode cL_isSo 168 = .ok (.invokevirtual 51, 3) := by decide +kernel
theorem dL_isSo_171 : decode cL_isSo 171 = .ok (.if_icmp .gt 32, 3) := by decide +kernel
theorem dL_isSo_174 : decode cL_isSo 174 = .ok (.aload_n 0, 1) := by decide +kernel
theorem dL_isSo_175 : decode cL_isSo 175 = .ok (.iload 8, 2) := by decide +kernel
theorem dL_isSo_177 : decode cL_isSo 177 = .ok (.bipush 8, 2) := by decide +kernel
theorem dL_isSo_179 : decode cL_isSo 179 = .ok (.invokevirtual 51, 3) := by decide +kernel
theorem dL_isSo_182 : decode cL_isSo 182 = .ok (.aload_n 0, 1) := by decide +kernel
theorem dL_isSo_183 : decode cL_isSo 183 = .ok (.iload 8, 2) := by decide +kernel
theorem dL_isSo_185 : decode cL_isSo 185 = .ok (.iconst 5, 1) := by decide +kernel
theorem dL_isSo_186 : decode cL_isSo 186 = .ok (.invokevirtual 51, 3) := by decide +kernel
theorem dL_isSo_189 : decode cL_isSo 189 = .ok (.if_icmp .lt 14, 3) := by decide +kernel
theorem dL_isSo_192 : decode cL_isSo 192 = .ok (.aload_n 0, 1) := by decide +kernel
theorem dL_isSo_193 : decode cL_isSo 193 = .ok (.iload 8, 2) := by decide +kernel
theorem dL_isSo_195 : decode cL_isSo 195 = .ok (.bipush 7, 2) := by decide +kernel
theorem dL_isSo_197 : decode cL_isSo 197 = .ok (.invokevirtual 51, 3) := by decide +kernel
theorem dL_isSo_200 : decode cL_isSo 200 = .ok (.ifCond .ge 5, 3) := by decide +kernel
theorem dL_isSo_203 : decode cL_isSo 203 = .ok (.iconst 0, 1) := by decide +kernel
theorem dL_isSo_204 : decode cL_isSo 204 = .ok (.ireturn, 1) := by decide +kernel
theorem dL_isSo_205 : decode cL_isSo 205 = .ok (.iload 7, 2) := by decide +kernel
theorem dL_isSo_207 : decode cL_isSo 207 = .ok (.aload_n 0, 1) := by decide +kernel
theorem dL_isSo_208 : decode cL_isSo 208 = .ok (.iload 8, 2) := by decide +kernel
theorem dL_isSo_210 : decode cL_isSo 210 = .ok (.bipush 6, 2) := by decide +kernel
theorem dL_isSo_212 : decode cL_isSo 212 = .ok (.invokevirtual 51, 3) := by decide +kernel
theorem dL_isSo_215 : decode cL_isSo 215 = .ok (.iadd, 1) := by decide +kernel
theorem dL_isSo_216 : decode cL_isSo 216 = .ok (.istore 7, 2) := by decide +kernel
theorem dL_isSo_218 : decode cL_isSo 218 = .ok (.iinc 8 1, 3) := by decide +kernel
theorem dL_isSo_221 : decode cL_isSo 221 = .ok (.goto (-94), 3) := by decide +kernel
theorem dL_isSo_224 : decode cL_isSo 224 = .ok (.iconst 0, 1) := by decide +kernel
theorem dL_isSo_225 : decode cL_isSo 225 = .ok (.istore 8, 2) := by decide +kernel
theorem dL_isSo_227 : decode cL_isSo 227 = .ok (.iconst 0, 1) := by decide +kernel
theorem dL_isSo_228 : decode cL_isSo 228 = .ok (.istore 9, 2) := by decide +kernel
theorem dL_isSo_230 : decode cL_isSo 230 = .ok (.iconst 0, 1) := by decide +kernel
theorem dL_isSo_231 : decode cL_isSo 231 = .ok (.istore 10, 2) := by decide +kernel
theorem dL_isSo_233 : decode cL_isSo 233 = .ok (.iload 10, 2) := by decide +kernel
theorem dL_isSo_235 : decode cL_isSo 235 = .ok (.iload_n 3, 1) := by decide +kernel
theorem dL_isSo_236 : decode cL_isSo 236 = .ok (.if_icmp .ge 84, 3) := by decide +kernel
theorem dL_isSo_239 : decode cL_isSo 239 = .ok (.iload 8, 2) := by decide +kernel
theorem dL_isSo_241 : decode cL_isSo 241 = .ok (.aload_n 0, 1) := by decide +kernel
theorem dL_isSo_242 : decode cL_isSo 242 = .ok (.iload 10, 2) := by decide +kernel
theorem dL_isSo_244 : decode cL_isSo 244 = .ok (.iconst 2, 1) := by decide +kernel
theorem dL_isSo_245 : decode cL_isSo 245 = .ok (.invokevirtual 100, 3) := by decide +kernel
theorem dL_isSo_248 : decode cL_isSo 248 = .ok (.iadd, 1) := by decide +kernel
theorem dL_isSo_249 : decode cL_isSo 249 = .ok (.istore 8, 2) := by decide +kernel
theorem dL_isSo_251 : decode cL_isSo 251 = .ok (.iload 9, 2) := by decide +kernel
theorem dL_isSo_253 : decode cL_isSo 253 = .ok (.aload_n 0, 1) := by decide +kernel
theorem dL_isSo_254 : decode cL_isSo 254 = .ok (.iload 10, 2) := by decide +kernel
theorem dL_isSo_256 : decode cL_isSo 256 = .ok (.iconst 3, 1) := by decide +kernel
theorem dL_isSo_257 : decode cL_isSo 257 = .ok (.invokevirtual 100, 3) := by decide +kernel
theorem dL_isSo_260 : decode cL_isSo 260 = .ok (.iadd, 1) := by decide +kernel
theorem dL_isSo_261 : decode cL_isSo 261 = .ok (.istore 9, 2) := by decide +kernel
theorem dL_isSo_263 : decode cL_isSo 263 = .ok (.aload_n 0, 1) := by decide +kernel
theorem dL_isSo_264 : decode cL_isSo 264 = .ok (.iload 10, 2) := by decide +kernel
theorem dL_isSo_266 : decode cL_isSo 266 = .ok (.iconst 0, 1) := by decide +kernel
theorem dL_isSo_267 : decode cL_isSo 267 = .ok (.invokevirtual 100, 3) := by decide +kernel
theorem dL_isSo_270 : decode cL_isSo 270 = .ok (.ifCond .lt 42, 3) := by decide +kernel
theorem dL_isSo_273 : decode cL_isSo 273 = .ok (.aload_n 0, 1) := by decide +kernel
theorem dL_isSo_274 : decode cL_isSo 274 = .ok (.iload 10, 2) := by decide +kernel
theorem dL_isSo_276 : decode cL_isSo 276 = .ok (.iconst 1, 1) := by decide +kernel
theorem dL_isSo_277 : decode cL_isSo 277 = .ok (.invokevirtual 100, 3) := by decide +kernel
theorem dL_isSo_280 : decode cL_isSo 280 = .ok (.ifCond .lt 32, 3) := by decide +kernel
theorem dL_isSo_283 : decode cL_isSo 283 = .ok (.aload_n 0, 1) := by decide +kernel
theorem dL_isSo_284 : decode cL_isSo 284 = .ok (.iload 10, 2) := by decide +kernel
theorem dL_isSo_286 : decode cL_isSo 286 = .ok (.iconst 1, 1) := by decide +kernel
theorem dL_isSo_287 : decode cL_isSo 287 = .ok (.invokevirtual 100, 3) := by decide +kernel
theorem dL_isSo_290 : decode cL_isSo 290 = .ok (.bipush 50, 2) := by decide +kernel
theorem dL_isSo_292 : decode cL_isSo 292 = .ok (.if_icmp .gt 20, 3) := by decide +kernel
theorem dL_isSo_295 : decode cL_isSo 295 = .ok (.aload_n 0, 1) := by decide +kernel
theorem dL_isSo_296 : decode cL_isSo 296 = .ok (.iload 10, 2) := by decide +kernel
theorem dL_isSo_298 : decode cL_isSo 298 = .ok (.iconst 2, 1) := by decide +kernel
theorem dL_isSo_299 : decode cL_isSo 299 = .ok (.invokevirtual 100, 3) := by decide +kernel
theorem dL_isSo_302 : decode cL_isSo 302 = .ok (.aload_n 0, 1) := by decide +kernel
theorem dL_isSo_303 : decode cL_isSo 303 = .ok (.iload 10, 2) := by decide +kernel
theorem dL_isSo_305 : decode cL_isSo 305 = .ok (.iconst 0, 1) := by decide +kernel
theorem dL_isSo_306 : decode cL_isSo 306 = .ok (.invokevirtual 100, 3) := by decide +kernel
theorem dL_isSo_309 : decode cL_isSo 309 = .ok (.if_icmp .ge 5, 3) := by decide +kernel
theorem dL_isSo_312 : decode cL_isSo 312 = .ok (.iconst 0, 1) := by decide +kernel
theorem dL_isSo_313 : decode cL_isSo 313 = .ok (.ireturn, 1) := by decide +kernel
theorem dL_isSo_314 : decode cL_isSo 314 = .ok (.iinc 10 1, 3) := by decide +kernel
theorem dL_isSo_317 : decode cL_isSo 317 = .ok (.goto (-84), 3) := by decide +kernel
theorem dL_isSo_320 : decode cL_isSo 320 = .ok (.iconst 0, 1) := by decide +kernel
theorem dL_isSo_321 : decode cL_isSo 321 = .ok (.istore 10, 2) := by decide +kernel
theorem dL_isSo_323 : decode cL_isSo 323 = .ok (.iload 10, 2) := by decide +kernel
theorem dL_isSo_325 : decode cL_isSo 325 = .ok (.aload_n 0, 1) := by decide +kernel
theorem dL_isSo_326 : decode cL_isSo 326 = .ok (.iconst 1, 1) := by decide +kernel
theorem dL_isSo_327 : decode cL_isSo 327 = .ok (.invokevirtual 44, 3) := by decide +kernel
theorem dL_isSo_330 : decode cL_isSo 330 = .ok (.if_icmp .ge 34, 3) := by decide +kernel
theorem dL_isSo_333 : decode cL_isSo 333 = .ok (.aload_n 0, 1) := by decide +kernel
theorem dL_isSo_334 : decode cL_isSo 334 = .ok (.iload 10, 2) := by decide +kernel
theorem dL_isSo_336 : decode cL_isSo 336 = .ok (.iconst 0, 1) := by decide +kernel
theorem dL_isSo_337 : decode cL_isSo 337 = .ok (.invokevirtual 103, 3) := by decide +kernel
theorem dL_isSo_340 : decode cL_isSo 340 = .ok (.iconst 1, 1) := by decide +kernel
theorem dL_isSo_341 : decode cL_isSo 341 = .ok (.if_icmp .lt 15, 3) := by decide +kernel
theorem dL_isSo_344 : decode cL_isSo 344 = .ok (.aload_n 0, 1) := by decide +kernel
theorem dL_isSo_345 : decode cL_isSo 345 = .ok (.iload 10, 2) := by decide +kernel
theorem dL_isSo_347 : decode cL_isSo 347 = .ok (.iconst 0, 1) := by decide +kernel
theorem dL_isSo_348 : decode cL_isSo 348 = .ok (.invokevirtual 103, 3) := by decide +kernel
theorem dL_isSo_351 : decode cL_isSo 351 = .ok (.bipush 9, 2) := by decide +kernel
theorem dL_isSo_353 : decode cL_isSo 353 = .ok (.if_icmp .le 5, 3) := by decide +kernel
theorem dL_isSo_356 : decode cL_isSo 356 = .ok (.iconst 0, 1) := by decide +kernel
theorem dL_isSo_357 : decode cL_isSo 357 = .ok (.ireturn, 1) := by decide +kernel
theorem dL_isSo_358 : decode cL_isSo 358 = .ok (.iinc 10 1, 3) := by decide +kernel
theorem dL_isSo_361 : decode cL_isSo 361 = .ok (.goto (-38), 3) := by decide +kernel
theorem dL_isSo_364 : decode cL_isSo 364 = .ok (.aload_n 0, 1) := by decide +kernel
theorem dL_isSo_365 : decode cL_isSo 365 = .ok (.invokevirtual 106, 3) := by decide +kernel
theorem dL_isSo_368 : decode cL_isSo 368 = .ok (.dstore 10, 2) := by decide +kernel
theorem dL_isSo_370 : decode cL_isSo 370 = .ok (.aload_n 0, 1) := by decide +kernel
theorem dL_isSo_371 : decode cL_isSo 371 = .ok (.invokevirtual 110, 3) := by decide +kernel
theorem dL_isSo_374 : decode cL_isSo 374 = .ok (.ifCond .eq 127, 3) := by decide +kernel
theorem dL_isSo_377 : decode cL_isSo 377 = .ok (.aload_n 0, 1) := by decide +kernel
theorem dL_isSo_378 : decode cL_isSo 378 = .ok (.iconst 1, 1) := by decide +kernel
theorem dL_isSo_379 : decode cL_isSo 379 = .ok (.invokevirtual 48, 3) := by decide +kernel
theorem dL_isSo_382 : decode cL_isSo 382 = .ok (.iload 4, 2) := by decide +kernel
theorem dL_isSo_384 : decode cL_isSo 384 = .ok (.if_icmp .ne 117, 3) := by decide +kernel
theorem dL_isSo_387 : decode cL_isSo 387 = .ok (.aload_n 0, 1) := by decide +kernel
theorem dL_isSo_388 : decode cL_isSo 388 = .ok (.iconst 2, 1) := by decide +kernel
theorem dL_isSo_389 : decode cL_isSo 389 = .ok (.invokevirtual 48, 3) := by decide +kernel
theorem dL_isSo_392 : decode cL_isSo 392 = .ok (.aload_n 0, 1) := by decide +kernel
theorem dL_isSo_393 : decode cL_isSo 393 = .ok (.iconst 0, 1) := by decide +kernel
theorem dL_isSo_394 : decode cL_isSo 394 = .ok (.invokevirtual 97, 3) := by decide +kernel
theorem dL_isSo_397 : decode cL_isSo 397 = .ok (.if_icmp .ne 104, 3) := by decide +kernel
theorem dL_isSo_400 : decode cL_isSo 400 = .ok (.aload_n 0, 1) := by decide +kernel
theorem dL_isSo_401 : decode cL_isSo 401 = .ok (.iconst 0, 1) := by decide +kernel
theorem dL_isSo_402 : decode cL_isSo 402 = .ok (.invokevirtual 97, 3) := by decide +kernel
theorem dL_isSo_405 : decode cL_isSo 405 = .ok (.sipush 500, 3) := by decide +kernel
theorem dL_isSo_408 : decode cL_isSo 408 = .ok (.if_icmp .gt 93, 3) := by decide +kernel
theorem dL_isSo_411 : decode cL_isSo 411 = .ok (.aload_n 0, 1) := by decide +kernel
theorem dL_isSo_412 : decode cL_isSo 412 = .ok (.bipush 6, 2) := by decide +kernel
theorem dL_isSo_414 : decode cL_isSo 414 = .ok (.invokevirtual 48, 3) := by decide +kernel
theorem dL_isSo_417 : decode cL_isSo 417 = .ok (.iload 8, 2) := by decide +kernel
theorem dL_isSo_419 : decode cL_isSo 419 = .ok (.if_icmp .ne 82, 3) := by decide +kernel
theorem dL_isSo_422 : decode cL_isSo 422 = .ok (.aload_n 0, 1) := by decide +kernel
theorem dL_isSo_423 : decode cL_isSo 423 = .ok (.bipush 12, 2) := by decide +kernel
theorem dL_isSo_425 : decode cL_isSo 425 = .ok (.invokevirtual 44, 3) := by decide +kernel
theorem dL_isSo_428 : decode cL_isSo 428 = .ok (.iload 9, 2) := by decide +kernel
theorem dL_isSo_430 : decode cL_isSo 430 = .ok (.if_icmp .ne 71, 3) := by decide +kernel
theorem dL_isSo_433 : decode cL_isSo 433 = .ok (.aload_n 0, 1) := by decide +kernel
theorem dL_isSo_434 : decode cL_isSo 434 = .ok (.bipush 9, 2) := by decide +kernel
theorem dL_isSo_436 : decode cL_isSo 436 = .ok (.invokevirtual 44, 3) := by decide +kernel
theorem dL_isSo_439 : decode cL_isSo 439 = .ok (.iconst 2, 1) := by decide +kernel
theorem dL_isSo_440 : decode cL_isSo 440 = .ok (.iload 7, 2) := by decide +kernel
theorem dL_isSo_442 : decode cL_isSo 442 = .ok (.imul, 1) := by decide +kernel
theorem dL_isSo_443 : decode cL_isSo 443 = .ok (.if_icmp .gt 58, 3) := by decide +kernel
theorem dL_isSo_446 : decode cL_isSo 446 = .ok (.aload_n 0, 1) := by decide +kernel
theorem dL_isSo_447 : decode cL_isSo 447 = .ok (.iconst 5, 1) := by decide +kernel
theorem dL_isSo_448 : decode cL_isSo 448 = .ok (.invokevirtual 44, 3) := by decide +kernel
theorem dL_isSo_451 : decode cL_isSo 451 = .ok (.iconst 2, 1) := by decide +kernel
theorem dL_isSo_452 : decode cL_isSo 452 = .ok (.if_icmp .gt 49, 3) := by decide +kernel
theorem dL_isSo_455 : decode cL_isSo 455 = .ok (.dload 10, 2) := by decide +kernel
theorem dL_isSo_457 : decode cL_isSo 457 = .ok (.iload 5, 2) := by decide +kernel
theorem dL_isSo_459 : decode cL_isSo 459 = .ok (.i2d, 1) := by decide +kernel
theorem dL_isSo_460 : decode cL_isSo 460 = .ok (.ldc2_w 114, 3) := by decide +kernel
theorem dL_isSo_463 : decode cL_isSo 463 = .ok (.dsub, 1) := by decide +kernel
theorem dL_isSo_464 : decode cL_isSo 464 = .ok (.dcmp .l, 1) := by decide +kernel
theorem dL_isSo_465 : decode cL_isSo 465 = .ok (.ifCond .le 36, 3) := by decide +kernel
theorem dL_isSo_468 : decode cL_isSo 468 = .ok (.dload 10, 2) := by decide +kernel
theorem dL_isSo_470 : decode cL_isSo 470 = .ok (.iload 6, 2) := by decide +kernel
theorem dL_isSo_472 : decode cL_isSo 472 = .ok (.i2d, 1) := by decide +kernel
theorem dL_isSo_473 : decode cL_isSo 473 = .ok (.ldc2_w 114, 3) := by decide +kernel
theorem dL_isSo_476 : decode cL_isSo 476 = .ok (.dadd, 1) := by decide +kernel
theorem dL_isSo_477 : decode cL_isSo 477 = .ok (.dcmp .g, 1) := by decide +kernel
theorem dL_isSo_478 : decode cL_isSo 478 = .ok (.ifCond .ge 23, 3) := by decide +kernel
theorem dL_isSo_481 : decode cL_isSo 481 = .ok (.aload_n 0, 1) := by decide +kernel
theorem dL_isSo_482 : decode cL_isSo 482 = .ok (.iconst 3, 1) := by decide +kernel
theorem dL_isSo_483 : decode cL_isSo 483 = .ok (.invokevirtual 48, 3) := by decide +kernel
theorem dL_isSo_486 : decode cL_isSo 486 = .ok (.iconst 2, 1) := by decide +kernel
theorem dL_isSo_487 : decode cL_isSo 487 = .ok (.imul, 1) := by decide +kernel
theorem dL_isSo_488 : decode cL_isSo 488 = .ok (.aload_n 0, 1) := by decide +kernel
theorem dL_isSo_489 : decode cL_isSo 489 = .ok (.bipush 10, 2) := by decide +kernel
theorem dL_isSo_491 : decode cL_isSo 491 = .ok (.invokevirtual 44, 3) := by decide +kernel
theorem dL_isSo_494 : decode cL_isSo 494 = .ok (.if_icmp .ne 7, 3) := by decide +kernel
theorem dL_isSo_497 : decode cL_isSo 497 = .ok (.iconst 1, 1) := by decide +kernel
theorem dL_isSo_498 : decode cL_isSo 498 = .ok (.goto 4, 3) := by decide +kernel
theorem dL_isSo_501 : decode cL_isSo 501 = .ok (.iconst 0, 1) := by decide +kernel
theorem dL_isSo_502 : decode cL_isSo 502 = .ok (.ireturn, 1) := by decide +kernel
