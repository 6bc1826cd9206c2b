theorem dL_below_0 : decode cL_below 0 = .ok (.iload_n 0, 1) := by decide +kernel
theorem dL_below_1 : decode cL_below 1 = .ok (.ldc 7, 2) := by decide +kernel
theorem dL_below_3 : decode cL_below 3 = .ok (.iand, 1) := by decide +kernel
theorem dL_below_4 : decode cL_below 4 = .ok (.iload_n 1, 1) := by decide +kernel
theorem dL_below_5 : decode cL_below 5 = .ok (.irem, 1) := by decide +kernel
theorem dL_below_6 : decode cL_below 6 = .ok (.ireturn, 1) := by decide +kernel
theorem dL_cell_0 : decode cL_cell 0 = .ok (.iload_n 1, 1) := by decide +kernel
theorem dL_cell_1 : decode cL_cell 1 = .ok (.aload_n 0, 1) := by decide +kernel
theorem dL_cell_2 : decode cL_cell 2 = .ok (.arraylength, 1) := by decide +kernel
theorem dL_cell_3 : decode cL_cell 3 = .ok (.if_icmp .ge 9, 3) := by decide +kernel
theorem dL_cell_6 : decode cL_cell 6 = .ok (.aload_n 0, 1) := by decide +kernel
theorem dL_cell_7 : decode cL_cell 7 = .ok (.iload_n 1, 1) := by decide +kernel
theorem dL_cell_8 : decode cL_cell 8 = .ok (.iaload, 1) := by decide +kernel
theorem dL_cell_9 : decode cL_cell 9 = .ok (.goto 9, 3) := by decide +kernel
theorem dL_cell_12 : decode cL_cell 12 = .ok (.ldc 8, 2) := by decide +kernel
theorem dL_cell_14 : decode cL_cell 14 = .ok (.iload_n 1, 1) := by decide +kernel
theorem dL_cell_15 : decode cL_cell 15 = .ok (.iconst 3, 1) := by decide +kernel
theorem dL_cell_16 : decode cL_cell 16 = .ok (.iadd, 1) := by decide +kernel
theorem dL_cell_17 : decode cL_cell 17 = .ok (.imul, 1) := by decide +kernel
theorem dL_cell_18 : decode cL_cell 18 = .ok (.ireturn, 1) := by decide +kernel
theorem dL_build_0 : decode cL_build 0 = .ok (.new 9, 3) := by decide +kernel
theorem dL_build_3 : decode cL_build 3 = .ok (.dup, 1) := by decide +kernel
theorem dL_build_4 : decode cL_build 4 = .ok (.invokespecial 11, 3) := by decide +kernel
theorem dL_build_7 : decode cL_build 7 = .ok (.astore_n 2, 1) := by decide +kernel
theorem dL_build_8 : decode cL_build 8 = .ok (.iconst 0, 1) := by decide +kernel
theorem dL_build_9 : decode cL_build 9 = .ok (.istore_n 3, 1) := by decide +kernel
theorem dL_build_10 : decode cL_build 10 = .ok (.iload_n 3, 1) := by decide +kernel
theorem dL_build_11 : decode cL_build 11 = .ok (.bipush 28, 2) := by decide +kernel
theorem dL_build_13 : decode cL_build 13 = .ok (.if_icmp .ge 105, 3) := by decide +kernel
theorem dL_build_16 : decode cL_build 16 = .ok (.aload_n 1, 1) := by decide +kernel
theorem dL_build_17 : decode cL_build 17 = .ok (.iconst 0, 1) := by decide +kernel
theorem dL_build_18 : decode cL_build 18 = .ok (.invokestatic 12, 3) := by decide +kernel
theorem dL_build_21 : decode cL_build 21 = .ok (.iload_n 3, 1) := by decide +kernel
theorem dL_build_22 : decode cL_build 22 = .ok (.ishr, 1) := by decide +kernel
theorem dL_build_23 : decode cL_build 23 = .ok (.iconst 3, 1) := by decide +kernel
theorem dL_build_24 : decode cL_build 24 = .ok (.invokestatic 18, 3) := by decide +kernel
theorem dL_build_27 : decode cL_build 27 = .ok (.ifCond .ne 21, 3) := by decide +kernel
theorem dL_build_30 : decode cL_build 30 = .ok (.aload_n 1, 1) := by decide +kernel
theorem dL_build_31 : decode cL_build 31 = .ok (.iconst 1, 1) := by decide +kernel
theorem dL_build_32 : decode cL_build 32 = .ok (.invokestatic 12, 3) := by decide +kernel
theorem dL_build_35 : decode cL_build 35 = .ok (.iload_n 3, 1) := by decide +kernel
theorem dL_build_36 : decode cL_build 36 = .ok (.bipush 20, 2) := by decide +kernel
theorem dL_build_38 : decode cL_build 38 = .ok (.irem, 1) := by decide +kernel
theorem dL_build_39 : decode cL_build 39 = .ok (.ishr, 1) := by decide +kernel
theorem dL_build_40 : decode cL_build 40 = .ok (.bipush 21, 2) := by decide +kernel
theorem dL_build_42 : decode cL_build 42 = .ok (.invokestatic 18, 3) := by decide +kernel
theorem dL_build_45 : decode cL_build 45 = .ok (.goto 4, 3) := by decide +kernel
theorem dL_build_48 : decode cL_build 48 = .ok (.iconst 0, 1) := by decide +kernel
theorem dL_build_49 : decode cL_build 49 = .ok (.istore 4, 2) := by decide +kernel
theorem dL_build_51 : decode cL_build 51 = .ok (.aload_n 1, 1) := by decide +kernel
theorem dL_build_52 : decode cL_build 52 = .ok (.iconst 2, 1) := by decide +kernel
theorem dL_build_53 : decode cL_build 53 = .ok (.invokestatic 12, 3) := by decide +kernel
theorem dL_build_56 : decode cL_build 56 = .ok (.iload_n 3, 1) := by decide +kernel
theorem dL_build_57 : decode cL_build 57 = .ok (.ishr, 1) := by decide +kernel
theorem dL_build_58 : decode cL_build 58 = .ok (.iconst 4, 1) := by decide +kernel
theorem dL_build_59 : decode cL_build 59 = .ok (.invokestatic 18, 3) := by decide +kernel
theorem dL_build_62 : decode cL_build 62 = .ok (.aload_n 1, 1) := by decide +kernel
theorem dL_build_63 : decode cL_build 63 = .ok (.iconst 0, 1) := by decide +kernel
theorem dL_build_64 : decode cL_build 64 = .ok (.invokestatic 12, 3) := by decide +kernel
theorem dL_build_67 : decode cL_build 67 = .ok (.iload_n 3, 1) := by decide +kernel
theorem dL_build_68 : decode cL_build 68 = .ok (.bipush 9, 2) := by decide +kernel
theorem dL_build_70 : decode cL_build 70 = .ok (.irem, 1) := by decide +kernel
theorem dL_build_71 : decode cL_build 71 = .ok (.ishr, 1) := by decide +kernel
theorem dL_build_72 : decode cL_build 72 = .ok (.iconst 2, 1) := by decide +kernel
theorem dL_build_73 : decode cL_build 73 = .ok (.invokestatic 18, 3) := by decide +kernel
theorem dL_build_76 : decode cL_build 76 = .ok (.imul, 1) := by decide +kernel
theorem dL_build_77 : decode cL_build 77 = .ok (.istore 5, 2) := by decide +kernel
theorem dL_build_79 : decode cL_build 79 = .ok (.aload_n 2, 1) := by decide +kernel
theorem dL_build_80 : decode cL_build 80 = .ok (.getfield 22, 3) := by decide +kernel
theorem dL_build_83 : decode cL_build 83 = .ok (.iload_n 3, 1) := by decide +kernel
theorem dL_build_84 : decode cL_build 84 = .ok (.iconst 2, 1) := by decide +kernel
theorem dL_build_85 : decode cL_build 85 = .ok (.newarray .int, 2) := by decide +kernel
theorem dL_build_87 : decode cL_build 87 = .ok (.dup, 1) := by decide +kernel
theorem dL_build_88 : decode cL_build 88 = .ok (.iconst 0, 1) := by decide +kernel
theorem dL_build_89 : decode cL_build 89 = .ok (.iload 4, 2) := by decide +kernel
theorem dL_build_91 : decode cL_build 91 = .ok (.iastore, 1) := by decide +kernel
theorem dL_build_92 : decode cL_build 92 = .ok (.dup, 1) := by decide +kernel
theorem dL_build_93 : decode cL_build 93 = .ok (.iconst 1, 1) := by decide +kernel
theorem dL_build_94 : decode cL_build 94 = .ok (.iload 5, 2) := by decide +kernel
theorem dL_build_96 : decode cL_build 96 = .ok (.iastore, 1) := by decide +kernel
theorem dL_build_97 : decode cL_build 97 = .ok (.aastore, 1) := by decide +kernel
theorem dL_build_98 : decode cL_build 98 = .ok (.aload_n 0, 1) := by decide +kernel
theorem dL_build_99 : decode cL_build 99 = .ok (.iload_n 3, 1) := by decide +kernel
theorem dL_build_100 : decode cL_build 100 = .ok (.iload 4, 2) := by decide +kernel
theorem dL_build_102 : decode cL_build 102 = .ok (.iload 5, 2) := by decide +kernel
theorem dL_build_104 : decode cL_build 104 = .ok (.invokevirtual 26, 3) := by decide +kernel
theorem dL_build_107 : decode cL_build 107 = .ok (.ifCond .eq 5, 3) := by decide +kernel
theorem dL_build_110 : decode cL_build 110 = .ok (.aconst_null, 1) := by decide +kernel
theorem dL_build_111 : decode cL_build 111 = .ok (.areturn, 1) := by decide +kernel
theorem dL_build_112 : decode cL_build 112 = .ok (.iinc 3 1, 3) := by decide +kernel
theorem dL_build_115 : decode cL_build 115 = .ok (.goto (-105), 3) := by decide +kernel
theorem dL_build_118 : decode cL_build 118 = .ok (.iconst 1, 1) := by decide +kernel
theorem dL_build_119 : decode cL_build 119 = .ok (.aload_n 1, 1) := by decide +kernel
theorem dL_build_120 : decode cL_build 120 = .ok (.iconst 3, 1) := by decide +kernel
theorem dL_build_121 : decode cL_build 121 = .ok (.invokestatic 12, 3) := by decide +kernel
theorem dL_build_124 : decode cL_build 124 = .ok (.bipush 8, 2) := by decide +kernel
theorem dL_build_126 : decode cL_build 126 = .ok (.invokestatic 18, 3) := by decide +kernel
theorem dL_build_129 : decode cL_build 129 = .ok (.iadd, 1) := by decide +kernel
theorem dL_build_130 : decode cL_build 130 = .ok (.istore_n 3, 1) := by decide +kernel
theorem dL_build_131 : decode cL_build 131 = .ok (.iconst 0, 1) := by decide +kernel
theorem dL_build_132 : decode cL_build 132 = .ok (.istore 4, 2) := by decide +kernel
theorem dL_build_134 : decode cL_build 134 = .ok (.iload 4, 2) := by decide +kernel
theorem dL_build_136 : decode cL_build 136 = .ok (.iload_n 3, 1) := by decide +kernel
theorem dL_build_137 : decode cL_build 137 = .ok (.if_icmp .ge 136, 3) := by decide +kernel
theorem dL_build_140 : decode cL_build 140 = .ok (.iconst 1, 1) := by decide +kernel
theorem dL_build_141 : decode cL_build 141 = .ok (.aload_n 1, 1) := by decide +kernel
theorem dL_build_142 : decode cL_build 142 = .ok (.iconst 4, 1) := by decide +kernel
theorem dL_build_143 : decode cL_build 143 = .ok (.invokestatic 12, 3) := by decide +kernel
theorem dL_build_146 : decode cL_build 146 = .ok (.iconst 2, 1) := by decide +kernel
theorem dL_build_147 : decode cL_build 147 = .ok (.iload 4, 2) := by decide +kernel
theorem dL_build_149 : decode cL_build 149 = .ok (.imul, 1) := by decide +kernel
theorem dL_build_150 : decode cL_build 150 = .ok (.ishr, 1) := by decide +kernel
theorem dL_build_151 : decode cL_build 151 = .ok (.bipush 30, 2) := by decide +kernel
theorem dL_build_153 : decode cL_build 153 = .ok (.invokestatic 18, 3) := by decide +kernel
theorem dL_build_156 : decode cL_build 156 = .ok (.iadd, 1) := by decide +kernel
theorem dL_build_157 : decode cL_build 157 = .ok (.istore 5, 2) := by decide +kernel
theorem dL_build_159 : decode cL_build 159 = .ok (.bipush 10, 2) := by decide +kernel
theorem dL_build_161 : decode cL_build 161 = .ok (.aload_n 1, 1) := by decide +kernel
theorem dL_build_162 : decode cL_build 162 = .ok (.iconst 5, 1) := by decide +kernel
theorem dL_build_163 : decode cL_build 163 = .ok (.invokestatic 12, 3) := by decide +kernel
theorem dL_build_166 : decode cL_build 166 = .ok (.iconst 2, 1) := by decide +kernel
theorem dL_build_167 : decode cL_build 167 = .ok (.iload 4, 2) := by decide +kernel
theorem dL_build_169 : decode cL_build 169 = .ok (.imul, 1) := by decide +kernel
theorem dL_build_170 : decode cL_build 170 = .ok (.ishr, 1) := by decide +kernel
theorem dL_build_171 : decode cL_build 171 = .ok (.aload_n 1, 1) := by decide +kernel
theorem dL_build_172 : decode cL_build 172 = .ok (.iconst 5, 1) := by decide +kernel
theorem dL_build_173 : decode cL_build 173 = .ok (.invokestatic 12, 3) := by decide +kernel
theorem dL_build_176 : decode cL_build 176 = .ok (.iload 4, 2) := by decide +kernel
theorem dL_build_178 : decode cL_build 178 = .ok (.ishr, 1) := by decide +kernel
theorem dL_build_179 : decode cL_build 179 = .ok (.iconst 2, 1) := by decide +kernel
theorem dL_build_180 : decode cL_build 180 = .ok (.invokestatic 18, 3) := by decide +kernel
theorem dL_build_183 : decode cL_build 183 = .ok (.ifCond .ne 9, 3) := by decide +kernel
theorem dL_build_186 : decode cL_build 186 = .ok (.sipush 891, 3) := by decide +kernel
theorem dL_build_189 : decode cL_build 189 = .ok (.goto 5, 3) := by decide +kernel
theorem dL_build_192 : decode cL_build 192 = .ok (.bipush 90, 2) := by decide +kernel
theorem dL_build_194 : decode cL_build 194 = .ok (.invokestatic 18, 3) := by decide +kernel
theorem dL_build_197 : decode cL_build 197 = .ok (.iadd, 1) := by decide +kernel
theorem dL_build_198 : decode cL_build 198 = .ok (.istore 6, 2) := by decide +kernel
theorem dL_build_200 : decode cL_build 200 = .ok (.aload_n 1, 1) := by decide +kernel
theorem dL_build_201 : decode cL_build 201 = .ok (.bipush 6, 2) := by decide +kernel
theorem dL_build_203 : decode cL_build 203 = .ok (.invokestatic 12, 3) := by decide +kernel
theorem dL_build_206 : decode cL_build 206 = .ok (.iconst 2, 1) := by decide +kernel
theorem dL_build_207 : decode cL_build 207 = .ok (.iload 4, 2) := by decide +kernel
theorem dL_build_209 : decode cL_build 209 = .ok (.imul, 1) := by decide +kernel
theorem dL_build_210 : decode cL_build 210 = .ok (.ishr, 1) := by decide +kernel
theorem dL_build_211 : decode cL_build 211 = .ok (.bipush 10, 2) := by decide +kernel
theorem dL_build_213 : decode cL_build 213 = .ok (.invokestatic 18, 3) := by decide +kernel
theorem dL_build_216 : decode cL_build 216 = .ok (.istore 7, 2) := by decide +kernel
theorem dL_build_218 : decode cL_build 218 = .ok (.aload_n 1, 1) := by decide +kernel
theorem dL_build_219 : decode cL_build 219 = .ok (.bipush 7, 2) := by decide +kernel
theorem dL_build_221 : decode cL_build 221 = .ok (.invokestatic 12, 3) := by decide +kernel
theorem dL_build_224 : decode cL_build 224 = .ok (.iconst 2, 1) := by decide +kernel
theorem dL_build_225 : decode cL_build 225 = .ok (.iload 4, 2) := by decide +kernel
theorem dL_build_227 : decode cL_build 227 = .ok (.imul, 1) := by decide +kernel
theorem dL_build_228 : decode cL_build 228 = .ok (.ishr, 1) := by decide +kernel
theorem dL_build_229 : decode cL_build 229 = .ok (.bipush 21, 2) := by decide +kernel
theorem dL_build_231 : decode cL_build 231 = .ok (.invokestatic 18, 3) := by decide +kernel
theorem dL_build_234 : decode cL_build 234 = .ok (.istore 8, 2) := by decide +kernel
theorem dL_build_236 : decode cL_build 236 = .ok (.aload_n 0, 1) := by decide +kernel
theorem dL_build_237 : decode cL_build 237 = .ok (.iload 5, 2) := by decide +kernel
theorem dL_build_239 : decode cL_build 239 = .ok (.iload 6, 2) := by decide +kernel
theorem dL_build_241 : decode cL_build 241 = .ok (.iload 7, 2) := by decide +kernel
theorem dL_build_243 : decode cL_build 243 = .ok (.iload 8, 2) := by decide +kernel
theorem dL_build_245 : decode cL_build 245 = .ok (.invokevirtual 32, 3) := by decide +kernel
theorem dL_build_248 : decode cL_build 248 = .ok (.iload 4, 2) := by decide +kernel
theorem dL_build_250 : decode cL_build 250 = .ok (.if_icmp .eq 5, 3) := by decide +kernel
theorem dL_build_253 : decode cL_build 253 = .ok (.aconst_null, 1) := by decide +kernel
theorem dL_build_254 : decode cL_build 254 = .ok (.areturn, 1) := by decide +kernel
theorem dL_build_255 : decode cL_build 255 = .ok (.aload_n 2, 1) := by decide +kernel
theorem dL_build_256 : decode cL_build 256 = .ok (.iload 5, 2) := by decide +kernel
theorem dL_build_258 : decode cL_build 258 = .ok (.iload 6, 2) := by decide +kernel
theorem dL_build_260 : decode cL_build 260 = .ok (.iload 7, 2) := by decide +kernel
theorem dL_build_262 : decode cL_build 262 = .ok (.iload 8, 2) := by decide +kernel
theorem dL_build_264 : decode cL_build 264 = .ok (.invokevirtual 36, 3) := by decide +kernel
theorem dL_build_267 : decode cL_build 267 = .ok (.iinc 4 1, 3) := by decide +kernel
theorem dL_build_270 : decode cL_build 270 = .ok (.goto (-136), 3) := by decide +kernel
theorem dL_build_273 : decode cL_build 273 = .ok (.iconst 0, 1) := by decide +kernel
theorem dL_build_274 : decode cL_build 274 = .ok (.istore 4, 2) := by decide +kernel
theorem dL_build_276 : decode cL_build 276 = .ok (.iload 4, 2) := by decide +kernel
theorem dL_build_278 : decode cL_build 278 = .ok (.iload_n 3, 1) := by decide +kernel
theorem dL_build_279 : decode cL_build 279 = .ok (.if_icmp .ge 87, 3) := by decide +kernel
theorem dL_build_282 : decode cL_build 282 = .ok (.aload_n 1, 1) := by decide +kernel
theorem dL_build_283 : decode cL_build 283 = .ok (.bipush 8, 2) := by decide +kernel
theorem dL_build_285 : decode cL_build 285 = .ok (.invokestatic 12, 3) := by decide +kernel
theorem dL_build_288 : decode cL_build 288 = .ok (.iconst 2, 1) := by decide +kernel
theorem dL_build_289 : decode cL_build 289 = .ok (.iload 4, 2) := by decide +kernel
theorem dL_build_291 : decode cL_build 291 = .ok (.imul, 1) := by decide +kernel
theorem dL_build_292 : decode cL_build 292 = .ok (.ishr, 1) := by decide +kernel
theorem dL_build_293 : decode cL_build 293 = .ok (.iload_n 3, 1) := by decide +kernel
theorem dL_build_294 : decode cL_build 294 = .ok (.iconst 1, 1) := by decide +kernel
theorem dL_build_295 : decode cL_build 295 = .ok (.iadd, 1) := by decide +kernel
theorem dL_build_296 : decode cL_build 296 = .ok (.invokestatic 18, 3) := by decide +kernel
theorem dL_build_299 : decode cL_build 299 = .ok (.iconst 1, 1) := by decide +kernel
theorem dL_build_300 : decode cL_build 300 = .ok (.isub, 1) := by decide +kernel
theorem dL_build_301 : decode cL_build 301 = .ok (.istore 5, 2) := by decide +kernel
theorem dL_build_303 : decode cL_build 303 = .ok (.iload 5, 2) := by decide +kernel
theorem dL_build_305 : decode cL_build 305 = .ok (.iload 4, 2) := by decide +kernel
theorem dL_build_307 : decode cL_build 307 = .ok (.if_icmp .eq 53, 3) := by decide +kernel
theorem dL_build_310 : decode cL_build 310 = .ok (.iload 5, 2) := by decide +kernel
theorem dL_build_312 : decode cL_build 312 = .ok (.ifCond .lt 17, 3) := by decide +kernel
theorem dL_build_315 : decode cL_build 315 = .ok (.aload_n 2, 1) := by decide +kernel
theorem dL_build_316 : decode cL_build 316 = .ok (.iload 5, 2) := by decide +kernel
theorem dL_build_318 : decode cL_build 318 = .ok (.iload 4, 2) := by decide +kernel
theorem dL_build_320 : decode cL_build 320 = .ok (.invokevirtual 39, 3) := by decide +kernel
theorem dL_build_323 : decode cL_build 323 = .ok (.ifCond .eq 6, 3) := by decide +kernel
theorem dL_build_326 : decode cL_build 326 = .ok (.goto 34, 3) := by decide +kernel
theorem dL_build_329 : decode cL_build 329 = .ok (.aload_n 2, 1) := by decide +kernel
theorem dL_build_330 : decode cL_build 330 = .ok (.getfield 43, 3) := by decide +kernel
theorem dL_build_333 : decode cL_build 333 = .ok (.iload 4, 2) := by decide +kernel
theorem dL_build_335 : decode cL_build 335 = .ok (.aaload, 1) := by decide +kernel
theorem dL_build_336 : decode cL_build 336 = .ok (.iload 5, 2) := by decide +kernel
theorem dL_build_338 : decode cL_build 338 = .ok (.putfield 47, 3) := by decide +kernel
theorem dL_build_341 : decode cL_build 341 = .ok (.aload_n 0, 1) := by decide +kernel
theorem dL_build_342 : decode cL_build 342 = .ok (.iload 4, 2) := by decide +kernel
theorem dL_build_344 : decode cL_build 344 = .ok (.iload 5, 2) := by decide +kernel
theorem dL_build_346 : decode cL_build 346 = .ok (.invokevirtual 53, 3) := by decide +kernel
theorem dL_build_349 : decode cL_build 349 = .ok (.aload_n 2, 1) := by decide +kernel
theorem dL_build_350 : decode cL_build 350 = .ok (.iload 5, 2) := by decide +kernel
theorem dL_build_352 : decode cL_build 352 = .ok (.invokevirtual 56, 3) := by decide +kernel
theorem dL_build_355 : decode cL_build 355 = .ok (.if_icmp .eq 5, 3) := by decide +kernel
theorem dL_build_358 : decode cL_build 358 = .ok (.aconst_null, 1) := by decide +kernel
theorem dL_build_359 : decode cL_build 359 = .ok (.areturn, 1) := by decide +kernel
theorem dL_build_360 : decode cL_build 360 = .ok (.iinc 4 1, 3) := by decide +kernel
theorem dL_build_363 : decode cL_build 363 = .ok (.goto (-87), 3) := by decide +kernel
theorem dL_build_366 : decode cL_build 366 = .ok (.iload_n 3, 1) := by decide +kernel
theorem dL_build_367 : decode cL_build 367 = .ok (.iconst 2, 1) := by decide +kernel
theorem dL_build_368 : decode cL_build 368 = .ok (.if_icmp .ge 7, 3) := by decide +kernel
theorem dL_build_371 : decode cL_build 371 = .ok (.iconst 0, 1) := by decide +kernel
theorem dL_build_372 : decode cL_build 372 = .ok (.goto 14, 3) := by decide +kernel
theorem dL_build_375 : decode cL_build 375 = .ok (.aload_n 1, 1) := by decide +kernel
theorem dL_build_376 : decode cL_build 376 = .ok (.bipush 9, 2) := by decide +kernel
theorem dL_build_378 : decode cL_build 378 = .ok (.invokestatic 12, 3) := by decide +kernel
theorem dL_build_381 : decode cL_build 381 = .ok (.bipush 9, 2) := by decide +kernel
theorem dL_build_383 : decode cL_build 383 = .ok (.invokestatic 18, 3) := by decide +kernel
theorem dL_build_386 : decode cL_build 386 = .ok (.istore 4, 2) := by decide +kernel
theorem dL_build_388 : decode cL_build 388 = .ok (.iconst 0, 1) := by decide +kernel
theorem dL_build_389 : decode cL_build 389 = .ok (.istore 5, 2) := by decide +kernel
theorem dL_build_391 : decode cL_build 391 = .ok (.iload 5, 2) := by decide +kernel
theorem dL_build_393 : decode cL_build 393 = .ok (.iload 4, 2) := by decide +kernel
theorem dL_build_395 : decode cL_build 395 = .ok (.if_icmp .ge 99, 3) := by decide +kernel
theorem dL_build_398 : decode cL_build 398 = .ok (.aload_n 1, 1) := by decide +kernel
theorem dL_build_399 : decode cL_build 399 = .ok (.bipush 10, 2) := by decide +kernel
theorem dL_build_401 : decode cL_build 401 = .ok (.invokestatic 12, 3) := by decide +kernel
theorem dL_build_404 : decode cL_build 404 = .ok (.iconst 2, 1) := by decide +kernel
theorem dL_build_405 : decode cL_build 405 = .ok (.iload 5, 2) := by decide +kernel
theorem dL_build_407 : decode cL_build 407 = .ok (.imul, 1) := by decide +kernel
theorem dL_build_408 : decode cL_build 408 = .ok (.ishr, 1) := by decide +kernel
theorem dL_build_409 : decode cL_build 409 = .ok (.iload_n 3, 1) := by decide +kernel
theorem dL_build_410 : decode cL_build 410 = .ok (.invokestatic 18, 3) := by decide +kernel
theorem dL_build_413 : decode cL_build 413 = .ok (.istore 6, 2) := by decide +kernel
theorem dL_build_415 : decode cL_build 415 = .ok (.iload 6, 2) := by decide +kernel
theorem dL_build_417 : decode cL_build 417 = .ok (.iconst 1, 1) := by decide +kernel
theorem dL_build_418 : decode cL_build 418 = .ok (.iadd, 1) := by decide +kernel
theorem dL_build_419 : decode cL_build 419 = .ok (.aload_n 1, 1) := by decide +kernel
theorem dL_build_420 : decode cL_build 420 = .ok (.bipush 11, 2) := by decide +kernel
theorem dL_build_422 : decode cL_build 422 = .ok (.invokestatic 12, 3) := by decide +kernel
theorem dL_build_425 : decode cL_build 425 = .ok (.iconst 2, 1) := by decide +kernel
theorem dL_build_426 : decode cL_build 426 = .ok (.iload 5, 2) := by decide +kernel
theorem dL_build_428 : decode cL_build 428 = .ok (.imul, 1) := by decide +kernel
theorem dL_build_429 : decode cL_build 429 = .ok (.ishr, 1) := by decide +kernel
theorem dL_build_430 : decode cL_build 430 = .ok (.iload_n 3, 1) := by decide +kernel
theorem dL_build_431 : decode cL_build 431 = .ok (.iconst 1, 1) := by decide +kernel
theorem dL_build_432 : decode cL_build 432 = .ok (.isub, 1) := by decide +kernel
theorem dL_build_433 : decode cL_build 433 = .ok (.invokestatic 18, 3) := by decide +kernel
theorem dL_build_436 : decode cL_build 436 = .ok (.iadd, 1) := by decide +kernel
theorem dL_build_437 : decode cL_build 437 = .ok (.iload_n 3, 1) := by decide +kernel
theorem dL_build_438 : decode cL_build 438 = .ok (.irem, 1) := by decide +kernel
theorem dL_build_439 : decode cL_build 439 = .ok (.istore 7, 2) := by decide +kernel
theorem dL_build_441 : decode cL_build 441 = .ok (.iconst 1, 1) := by decide +kernel
theorem dL_build_442 : decode cL_build 442 = .ok (.aload_n 1, 1) := by decide +kernel
theorem dL_build_443 : decode cL_build 443 = .ok (.bipush 12, 2) := by decide +kernel
theorem dL_build_445 : decode cL_build 445 = .ok (.invokestatic 12, 3) := by decide +kernel
theorem dL_build_448 : decode cL_build 448 = .ok (.iconst 2, 1) := by decide +kernel
theorem dL_build_449 : decode cL_build 449 = .ok (.iload 5, 2) := by decide +kernel
theorem dL_build_451 : decode cL_build 451 = .ok (.imul, 1) := by decide +kernel
theorem dL_build_452 : decode cL_build 452 = .ok (.ishr, 1) := by decide +kernel
theorem dL_build_453 : decode cL_build 453 = .ok (.bipush 50, 2) := by decide +kernel
theorem dL_build_455 : decode cL_build 455 = .ok (.invokestatic 18, 3) := by decide +kernel
theorem dL_build_458 : decode cL_build 458 = .ok (.iadd, 1) := by decide +kernel
theorem dL_build_459 : decode cL_build 459 = .ok (.istore 8, 2) := by decide +kernel
theorem dL_build_461 : decode cL_build 461 = .ok (.aload_n 0, 1) := by decide +kernel
theorem dL_build_462 : decode cL_build 462 = .ok (.iload 6, 2) := by decide +kernel
theorem dL_build_464 : decode cL_build 464 = .ok (.iload 7, 2) := by decide +kernel
theorem dL_build_466 : decode cL_build 466 = .ok (.iload 8, 2) := by decide +kernel
theorem dL_build_468 : decode cL_build 468 = .ok (.invokevirtual 60, 3) := by decide +kernel
theorem dL_build_471 : decode cL_build 471 = .ok (.iload 5, 2) := by decide +kernel
theorem dL_build_473 : decode cL_build 473 = .ok (.if_icmp .eq 5, 3) := by decide +kernel
theorem dL_build_476 : decode cL_build 476 = .ok (.aconst_null, 1) := by decide +kernel
theorem dL_build_477 : decode cL_build 477 = .ok (.areturn, 1) := by decide +kernel
theorem dL_build_478 : decode cL_build 478 = .ok (.aload_n 2, 1) := by decide +kernel
theorem dL_build_479 : decode cL_build 479 = .ok (.iload 6, 2) := by decide +kernel
theorem dL_build_481 : decode cL_build 481 = .ok (.iload 7, 2) := by decide +kernel
theorem dL_build_483 : decode cL_build 483 = .ok (.iload 8, 2) := by decide +kernel
theorem dL_build_485 : decode cL_build 485 = .ok (.invokevirtual 63, 3) := by decide +kernel
theorem dL_build_488 : decode cL_build 488 = .ok (.iinc 5 1, 3) := by decide +kernel
theorem dL_build_491 : decode cL_build 491 = .ok (.goto (-100), 3) := by decide +kernel
theorem dL_build_494 : decode cL_build 494 = .ok (.aload_n 2, 1) := by decide +kernel
theorem dL_build_495 : decode cL_build 495 = .ok (.areturn, 1) := by decide +kernel
theorem dL_act_0 : decode cL_act 0 = .ok (.aload_n 1, 1) := by decide +kernel
theorem dL_act_1 : decode cL_act 1 = .ok (.getfield 43, 3) := by decide +kernel
theorem dL_act_4 : decode cL_act 4 = .ok (.arraylength, 1) := by decide +kernel
theorem dL_act_5 : decode cL_act 5 = .ok (.istore_n 3, 1) := by decide +kernel
theorem dL_act_6 : decode cL_act 6 = .ok (.iload_n 2, 1) := by decide +kernel
theorem dL_act_7 : decode cL_act 7 = .ok (.iload_n 3, 1) := by decide +kernel
theorem dL_act_8 : decode cL_act 8 = .ok (.invokestatic 18, 3) := by decide +kernel
theorem dL_act_11 : decode cL_act 11 = .ok (.istore 4, 2) := by decide +kernel
theorem dL_act_13 : decode cL_act 13 = .ok (.aload_n 1, 1) := by decide +kernel
theorem dL_act_14 : decode cL_act 14 = .ok (.getfield 43, 3) := by decide +kernel
theorem dL_act_17 : decode cL_act 17 = .ok (.iload 4, 2) := by decide +kernel
theorem dL_act_19 : decode cL_act 19 = .ok (.aaload, 1) := by decide +kernel
theorem dL_act_20 : decode cL_act 20 = .ok (.astore 5, 2) := by decide +kernel
theorem dL_act_22 : decode cL_act 22 = .ok (.iload_n 2, 1) := by decide +kernel
theorem dL_act_23 : decode cL_act 23 = .ok (.bipush 7, 2) := by decide +kernel
theorem dL_act_25 : decode cL_act 25 = .ok (.ishr, 1) := by decide +kernel
theorem dL_act_26 : decode cL_act 26 = .ok (.bipush 7, 2) := by decide +kernel
theorem dL_act_28 : decode cL_act 28 = .ok (.invokestatic 18, 3) := by decide +kernel
theorem dL_act_31 : decode cL_act 31 = .ok (.tableswitch 320 0 5 #[37, 37, 86, 116, 210, 278], 37) := by decide +kernel
theorem dL_act_68 : decode cL_act 68 = .ok (.iconst 1, 1) := by decide +kernel
theorem dL_act_69 : decode cL_act 69 = .ok (.iload_n 2, 1) := by decide +kernel
theorem dL_act_70 : decode cL_act 70 = .ok (.iconst 3, 1) := by decide +kernel
theorem dL_act_71 : decode cL_act 71 = .ok (.ishr, 1) := by decide +kernel
theorem dL_act_72 : decode cL_act 72 = .ok (.sipush 500, 3) := by decide +kernel
theorem dL_act_75 : decode cL_act 75 = .ok (.invokestatic 18, 3) := by decide +kernel
theorem dL_act_78 : decode cL_act 78 = .ok (.iadd, 1) := by decide +kernel
theorem dL_act_79 : decode cL_act 79 = .ok (.istore 6, 2) := by decide +kernel
theorem dL_act_81 : decode cL_act 81 = .ok (.aload_n 1, 1) := by decide +kernel
theorem dL_act_82 : decode cL_act 82 = .ok (.dup, 1) := by decide +kernel
theorem dL_act_83 : decode cL_act 83 = .ok (.getfield 66, 3) := by decide +kernel
theorem dL_act_86 : decode cL_act 86 = .ok (.iload 6, 2) := by decide +kernel
theorem dL_act_88 : decode cL_act 88 = .ok (.iadd, 1) := by decide +kernel
theorem dL_act_89 : decode cL_act 89 = .ok (.putfield 66, 3) := by decide +kernel
theorem dL_act_92 : decode cL_act 92 = .ok (.aload_n 0, 1) := by decide +kernel
theorem dL_act_93 : decode cL_act 93 = .ok (.iload 4, 2) := by decide +kernel
theorem dL_act_95 : decode cL_act 95 = .ok (.iload 6, 2) := by decide +kernel
theorem dL_act_97 : decode cL_act 97 = .ok (.invokevirtual 69, 3) := by decide +kernel
theorem dL_act_100 : decode cL_act 100 = .ok (.aload_n 1, 1) := by decide +kernel
theorem dL_act_101 : decode cL_act 101 = .ok (.iload 4, 2) := by decide +kernel
theorem dL_act_103 : decode cL_act 103 = .ok (.iload 6, 2) := by decide +kernel
theorem dL_act_105 : decode cL_act 105 = .ok (.invokevirtual 72, 3) := by decide +kernel
theorem dL_act_108 : decode cL_act 108 = .ok (.if_icmp .ne 7, 3) := by decide +kernel
theorem dL_act_111 : decode cL_act 111 = .ok (.iconst 1, 1) := by decide +kernel
theorem dL_act_112 : decode cL_act 112 = .ok (.goto 4, 3) := by decide +kernel
theorem dL_act_115 : decode cL_act 115 = .ok (.iconst 0, 1) := by decide +kernel
theorem dL_act_116 : decode cL_act 116 = .ok (.ireturn, 1) := by decide +kernel
theorem dL_act_117 : decode cL_act 117 = .ok (.aload 5, 2) := by decide +kernel
theorem dL_act_119 : decode cL_act 119 = .ok (.getfield 75, 3) := by decide +kernel
theorem dL_act_122 : decode cL_act 122 = .ok (.istore 7, 2) := by decide +kernel
theorem dL_act_124 : decode cL_act 124 = .ok (.aload 5, 2) := by decide +kernel
theorem dL_act_126 : decode cL_act 126 = .ok (.iconst 0, 1) := by decide +kernel
theorem dL_act_127 : decode cL_act 127 = .ok (.putfield 75, 3) := by decide +kernel
theorem dL_act_130 : decode cL_act 130 = .ok (.aload_n 0, 1) := by decide +kernel
theorem dL_act_131 : decode cL_act 131 = .ok (.iload 4, 2) := by decide +kernel
theorem dL_act_133 : decode cL_act 133 = .ok (.invokevirtual 78, 3) := by decide +kernel
theorem dL_act_136 : decode cL_act 136 = .ok (.iload 7, 2) := by decide +kernel
theorem dL_act_138 : decode cL_act 138 = .ok (.if_icmp .ne 7, 3) := by decide +kernel
theorem dL_act_141 : decode cL_act 141 = .ok (.iconst 1, 1) := by decide +kernel
theorem dL_act_142 : decode cL_act 142 = .ok (.goto 4, 3) := by decide +kernel
theorem dL_act_145 : decode cL_act 145 = .ok (.iconst 0, 1) := by decide +kernel
theorem dL_act_146 : decode cL_act 146 = .ok (.ireturn, 1) := by decide +kernel
theorem dL_act_147 : decode cL_act 147 = .ok (.aload_n 1, 1) := by decide +kernel
theorem dL_act_148 : decode cL_act 148 = .ok (.getfield 81, 3) := by decide +kernel
theorem dL_act_151 : decode cL_act 151 = .ok (.arraylength, 1) := by decide +kernel
theorem dL_act_152 : decode cL_act 152 = .ok (.ifCond .ne 5, 3) := by decide +kernel
theorem dL_act_155 : decode cL_act 155 = .ok (.iconst 1, 1) := by decide +kernel
theorem dL_act_156 : decode cL_act 156 = .ok (.ireturn, 1) := by decide +kernel
theorem dL_act_157 : decode cL_act 157 = .ok (.iload_n 2, 1) := by decide +kernel
theorem dL_act_158 : decode cL_act 158 = .ok (.iconst 3, 1) := by decide +kernel
theorem dL_act_159 : decode cL_act 159 = .ok (.ishr, 1) := by decide +kernel
theorem dL_act_160 : decode cL_act 160 = .ok (.aload_n 1, 1) := by decide +kernel
theorem dL_act_161 : decode cL_act 161 = .ok (.getfield 81, 3) := by decide +kernel
theorem dL_act_164 : decode cL_act 164 = .ok (.arraylength, 1) := by decide +kernel
theorem dL_act_165 : decode cL_act 165 = .ok (.invokestatic 18, 3) := by decide +kernel
theorem dL_act_168 : decode cL_act 168 = .ok (.istore 8, 2) := by decide +kernel
theorem dL_act_170 : decode cL_act 170 = .ok (.aload_n 1, 1) := by decide +kernel
theorem dL_act_171 : decode cL_act 171 = .ok (.getfield 81, 3) := by decide +kernel
theorem dL_act_174 : decode cL_act 174 = .ok (.iload 8, 2) := by decide +kernel
theorem dL_act_176 : decode cL_act 176 = .ok (.aaload, 1) := by decide +kernel
theorem dL_act_177 : decode cL_act 177 = .ok (.iconst 3, 1) := by decide +kernel
theorem dL_act_178 : decode cL_act 178 = .ok (.iaload, 1) := by decide +kernel
theorem dL_act_179 : decode cL_act 179 = .ok (.iconst 1, 1) := by decide +kernel
theorem dL_act_180 : decode cL_act 180 = .ok (.if_icmp .ne 7, 3) := by decide +kernel
theorem dL_act_183 : decode cL_act 183 = .ok (.iconst 1, 1) := by decide +kernel
theorem dL_act_184 : decode cL_act 184 = .ok (.goto 4, 3) := by decide +kernel
theorem dL_act_187 : decode cL_act 187 = .ok (.iconst 0, 1) := by decide +kernel
theorem dL_act_188 : decode cL_act 188 = .ok (.istore 9, 2) := by decide +kernel
theorem dL_act_190 : decode cL_act 190 = .ok (.aload_n 1, 1) := by decide +kernel
theorem dL_act_191 : decode cL_act 191 = .ok (.getfield 81, 3) := by decide +kernel
theorem dL_act_194 : decode cL_act 194 = .ok (.iload 8, 2) := by decide +kernel
theorem dL_act_196 : decode cL_act 196 = .ok (.aaload, 1) := by decide +kernel
theorem dL_act_197 : decode cL_act 197 = .ok (.iconst 3, 1) := by decide +kernel
theorem dL_act_198 : decode cL_act 198 = .ok (.iload_n 2, 1) := by decide +kernel
theorem dL_act_199 : decode cL_act 199 = .ok (.iconst 5, 1) := by decide +kernel
theorem dL_act_200 : decode cL_act 200 = .ok (.ishr, 1) := by decide +kernel
theorem dL_act_201 : decode cL_act 201 = .ok (.iconst 2, 1) := by decide +kernel
theorem dL_act_202 : decode cL_act 202 = .ok (.invokestatic 18, 3) := by decide +kernel
theorem dL_act_205 : decode cL_act 205 = .ok (.iastore, 1) := by decide +kernel
theorem dL_act_206 : decode cL_act 206 = .ok (.aload_n 0, 1) := by decide +kernel
theorem dL_act_207 : decode cL_act 207 = .ok (.iload 8, 2) := by decide +kernel
theorem dL_act_209 : decode cL_act 209 = .ok (.aload_n 1, 1) := by decide +kernel
theorem dL_act_210 : decode cL_act 210 = .ok (.getfield 81, 3) := by decide +kernel
theorem dL_act_213 : decode cL_act 213 = .ok (.iload 8, 2) := by decide +kernel
theorem dL_act_215 : decode cL_act 215 = .ok (.aaload, 1) := by decide +kernel
theorem dL_act_216 : decode cL_act 216 = .ok (.iconst 3, 1) := by decide +kernel
theorem dL_act_217 : decode cL_act 217 = .ok (.iaload, 1) := by decide +kernel
theorem dL_act_218 : decode cL_act 218 = .ok (.iconst 1, 1) := by decide +kernel
theorem dL_act_219 : decode cL_act 219 = .ok (.if_icmp .ne 7, 3) := by decide +kernel
theorem dL_act_222 : decode cL_act 222 = .ok (.iconst 1, 1) := by decide +kernel
theorem dL_act_223 : decode cL_act 223 = .ok (.goto 4, 3) := by decide +kernel
theorem dL_act_226 : decode cL_act 226 = .ok (.iconst 0, 1) := by decide +kernel
theorem dL_act_227 : decode cL_act 227 = .ok (.invokevirtual 84, 3) := by decide +kernel
theorem dL_act_230 : decode cL_act 230 = .ok (.iload 9, 2) := by decide +kernel
theorem dL_act_232 : decode cL_act 232 = .ok (.if_icmp .ne 7, 3) := by decide +kernel
theorem dL_act_235 : decode cL_act 235 = .ok (.iconst 1, 1) := by decide +kernel
theorem dL_act_236 : decode cL_act 236 = .ok (.goto 4, 3) := by decide +kernel
theorem dL_act_239 : decode cL_act 239 = .ok (.iconst 0, 1) := by decide +kernel
theorem dL_act_240 : decode cL_act 240 = .ok (.ireturn, 1) := by decide +kernel
theorem dL_act_241 : decode cL_act 241 = .ok (.iload_n 2, 1) := by decide +kernel
theorem dL_act_242 : decode cL_act 242 = .ok (.iconst 3, 1) := by decide +kernel
theorem dL_act_243 : decode cL_act 243 = .ok (.ishr, 1) := by decide +kernel
theorem dL_act_244 : decode cL_act 244 = .ok (.iload_n 3, 1) := by decide +kernel
theorem dL_act_245 : decode cL_act 245 = .ok (.iconst 1, 1) := by decide +kernel
theorem dL_act_246 : decode cL_act 246 = .ok (.iadd, 1) := by decide +kernel
theorem dL_act_247 : decode cL_act 247 = .ok (.invokestatic 18, 3) := by decide +kernel
theorem dL_act_250 : decode cL_act 250 = .ok (.iconst 1, 1) := by decide +kernel
theorem dL_act_251 : decode cL_act 251 = .ok (.isub, 1) := by decide +kernel
theorem dL_act_252 : decode cL_act 252 = .ok (.istore 10, 2) := by decide +kernel
theorem dL_act_254 : decode cL_act 254 = .ok (.iload 10, 2) := by decide +kernel
theorem dL_act_256 : decode cL_act 256 = .ok (.iload 4, 2) := by decide +kernel
theorem dL_act_258 : decode cL_act 258 = .ok (.if_icmp .eq 19, 3) := by decide +kernel
theorem dL_act_261 : decode cL_act 261 = .ok (.iload 10, 2) := by decide +kernel
theorem dL_act_263 : decode cL_act 263 = .ok (.ifCond .lt 16, 3) := by decide +kernel
theorem dL_act_266 : decode cL_act 266 = .ok (.aload_n 1, 1) := by decide +kernel
theorem dL_act_267 : decode cL_act 267 = .ok (.iload 10, 2) := by decide +kernel
theorem dL_act_269 : decode cL_act 269 = .ok (.iload 4, 2) := by decide +kernel
theorem dL_act_271 : decode cL_act 271 = .ok (.invokevirtual 39, 3) := by decide +kernel
theorem dL_act_274 : decode cL_act 274 = .ok (.ifCond .eq 5, 3) := by decide +kernel
theorem dL_act_277 : decode cL_act 277 = .ok (.iconst 1, 1) := by decide +kernel
theorem dL_act_278 : decode cL_act 278 = .ok (.ireturn, 1) := by decide +kernel
theorem dL_act_279 : decode cL_act 279 = .ok (.aload 5, 2) := by decide +kernel
theorem dL_act_281 : decode cL_act 281 = .ok (.iload 10, 2) := by decide +kernel
theorem dL_act_283 : decode cL_act 283 = .ok (.putfield 47, 3) := by decide +kernel
theorem dL_act_286 : decode cL_act 286 = .ok (.aload_n 0, 1) := by decide +kernel
theorem dL_act_287 : decode cL_act 287 = .ok (.iload 4, 2) := by decide +kernel
theorem dL_act_289 : decode cL_act 289 = .ok (.iload 10, 2) := by decide +kernel
theorem dL_act_291 : decode cL_act 291 = .ok (.invokevirtual 53, 3) := by decide +kernel
theorem dL_act_294 : decode cL_act 294 = .ok (.aload_n 1, 1) := by decide +kernel
theorem dL_act_295 : decode cL_act 295 = .ok (.iload 10, 2) := by decide +kernel
theorem dL_act_297 : decode cL_act 297 = .ok (.invokevirtual 56, 3) := by decide +kernel
theorem dL_act_300 : decode cL_act 300 = .ok (.if_icmp .ne 7, 3) := by decide +kernel
theorem dL_act_303 : decode cL_act 303 = .ok (.iconst 1, 1) := by decide +kernel
theorem dL_act_304 : decode cL_act 304 = .ok (.goto 4, 3) := by decide +kernel
theorem dL_act_307 : decode cL_act 307 = .ok (.iconst 0, 1) := by decide +kernel
theorem dL_act_308 : decode cL_act 308 = .ok (.ireturn, 1) := by decide +kernel
theorem dL_act_309 : decode cL_act 309 = .ok (.aload 5, 2) := by decide +kernel
theorem dL_act_311 : decode cL_act 311 = .ok (.getfield 88, 3) := by decide +kernel
theorem dL_act_314 : decode cL_act 314 = .ok (.istore 11, 2) := by decide +kernel
theorem dL_act_316 : decode cL_act 316 = .ok (.aload 5, 2) := by decide +kernel
theorem dL_act_318 : decode cL_act 318 = .ok (.iload_n 2, 1) := by decide +kernel
theorem dL_act_319 : decode cL_act 319 = .ok (.iconst 4, 1) := by decide +kernel
theorem dL_act_320 : decode cL_act 320 = .ok (.ishr, 1) := by decide +kernel
theorem dL_act_321 : decode cL_act 321 = .ok (.bipush 10, 2) := by decide +kernel
theorem dL_act_323 : decode cL_act 323 = .ok (.invokestatic 18, 3) := by decide +kernel
theorem dL_act_326 : decode cL_act 326 = .ok (.putfield 88, 3) := by decide +kernel
theorem dL_act_329 : decode cL_act 329 = .ok (.aload_n 0, 1) := by decide +kernel
theorem dL_act_330 : decode cL_act 330 = .ok (.iload 4, 2) := by decide +kernel
theorem dL_act_332 : decode cL_act 332 = .ok (.aload 5, 2) := by decide +kernel
theorem dL_act_334 : decode cL_act 334 = .ok (.getfield 88, 3) := by decide +kernel
theorem dL_act_337 : decode cL_act 337 = .ok (.invokevirtual 91, 3) := by decide +kernel
theorem dL_act_340 : decode cL_act 340 = .ok (.iload 11, 2) := by decide +kernel
theorem dL_act_342 : decode cL_act 342 = .ok (.if_icmp .ne 7, 3) := by decide +kernel
theorem dL_act_345 : decode cL_act 345 = .ok (.iconst 1, 1) := by decide +kernel
theorem dL_act_346 : decode cL_act 346 = .ok (.goto 4, 3) := by decide +kernel
theorem dL_act_349 : decode cL_act 349 = .ok (.iconst 0, 1) := by decide +kernel
theorem dL_act_350 : decode cL_act 350 = .ok (.ireturn, 1) := by decide +kernel
theorem dL_act_351 : decode cL_act 351 = .ok (.iload_n 2, 1) := by decide +kernel
theorem dL_act_352 : decode cL_act 352 = .ok (.iconst 3, 1) := by decide +kernel
theorem dL_act_353 : decode cL_act 353 = .ok (.ishr, 1) := by decide +kernel
theorem dL_act_354 : decode cL_act 354 = .ok (.bipush 28, 2) := by decide +kernel
theorem dL_act_356 : decode cL_act 356 = .ok (.invokestatic 18, 3) := by decide +kernel
theorem dL_act_359 : decode cL_act 359 = .ok (.istore 12, 2) := by decide +kernel
theorem dL_act_361 : decode cL_act 361 = .ok (.aload_n 1, 1) := by decide +kernel
theorem dL_act_362 : decode cL_act 362 = .ok (.getfield 22, 3) := by decide +kernel
theorem dL_act_365 : decode cL_act 365 = .ok (.iload 12, 2) := by decide +kernel
theorem dL_act_367 : decode cL_act 367 = .ok (.aaload, 1) := by decide +kernel
theorem dL_act_368 : decode cL_act 368 = .ok (.astore 13, 2) := by decide +kernel
theorem dL_act_370 : decode cL_act 370 = .ok (.aload_n 1, 1) := by decide +kernel
theorem dL_act_371 : decode cL_act 371 = .ok (.getfield 22, 3) := by decide +kernel
theorem dL_act_374 : decode cL_act 374 = .ok (.iload 12, 2) := by decide +kernel
theorem dL_act_376 : decode cL_act 376 = .ok (.iconst 2, 1) := by decide +kernel
theorem dL_act_377 : decode cL_act 377 = .ok (.newarray .int, 2) := by decide +kernel
theorem dL_act_379 : decode cL_act 379 = .ok (.dup, 1) := by decide +kernel
theorem dL_act_380 : decode cL_act 380 = .ok (.iconst 0, 1) := by decide +kernel
theorem dL_act_381 : decode cL_act 381 = .ok (.iload_n 2, 1) := by decide +kernel
theorem dL_act_382 : decode cL_act 382 = .ok (.iconst 4, 1) := by decide +kernel
theorem dL_act_383 : decode cL_act 383 = .ok (.ishr, 1) := by decide +kernel
theorem dL_act_384 : decode cL_act 384 = .ok (.bipush 21, 2) := by decide +kernel
theorem dL_act_386 : decode cL_act 386 = .ok (.invokestatic 18, 3) := by decide +kernel
theorem dL_act_389 : decode cL_act 389 = .ok (.iastore, 1) := by decide +kernel
theorem dL_act_390 : decode cL_act 390 = .ok (.dup, 1) := by decide +kernel
theorem dL_act_391 : decode cL_act 391 = .ok (.iconst 1, 1) := by decide +kernel
theorem dL_act_392 : decode cL_act 392 = .ok (.iload_n 2, 1) := by decide +kernel
theorem dL_act_393 : decode cL_act 393 = .ok (.iconst 2, 1) := by decide +kernel
theorem dL_act_394 : decode cL_act 394 = .ok (.ishr, 1) := by decide +kernel
theorem dL_act_395 : decode cL_act 395 = .ok (.iconst 4, 1) := by decide +kernel
theorem dL_act_396 : decode cL_act 396 = .ok (.invokestatic 18, 3) := by decide +kernel
theorem dL_act_399 : decode cL_act 399 = .ok (.iastore, 1) := by decide +kernel
theorem dL_act_400 : decode cL_act 400 = .ok (.aastore, 1) := by decide +kernel
theorem dL_act_401 : decode cL_act 401 = .ok (.aload_n 0, 1) := by decide +kernel
theorem dL_act_402 : decode cL_act 402 = .ok (.iload 12, 2) := by decide +kernel
theorem dL_act_404 : decode cL_act 404 = .ok (.aload_n 1, 1) := by decide +kernel
theorem dL_act_405 : decode cL_act 405 = .ok (.getfield 22, 3) := by decide +kernel
theorem dL_act_408 : decode cL_act 408 = .ok (.iload 12, 2) := by decide +kernel
theorem dL_act_410 : decode cL_act 410 = .ok (.aaload, 1) := by decide +kernel
theorem dL_act_411 : decode cL_act 411 = .ok (.iconst 0, 1) := by decide +kernel
theorem dL_act_412 : decode cL_act 412 = .ok (.iaload, 1) := by decide +kernel
theorem dL_act_413 : decode cL_act 413 = .ok (.aload_n 1, 1) := by decide +kernel
theorem dL_act_414 : decode cL_act 414 = .ok (.getfield 22, 3) := by decide +kernel
theorem dL_act_417 : decode cL_act 417 = .ok (.iload 12, 2) := by decide +kernel
theorem dL_act_419 : decode cL_act 419 = .ok (.aaload, 1) := by decide +kernel
theorem dL_act_420 : decode cL_act 420 = .ok (.iconst 1, 1) := by decide +kernel
theorem dL_act_421 : decode cL_act 421 = .ok (.iaload, 1) := by decide +kernel
theorem dL_act_422 : decode cL_act 422 = .ok (.invokevirtual 26, 3) := by decide +kernel
theorem dL_act_425 : decode cL_act 425 = .ok (.bipush 10, 2) := by decide +kernel
theorem dL_act_427 : decode cL_act 427 = .ok (.aload 13, 2) := by decide +kernel
theorem dL_act_429 : decode cL_act 429 = .ok (.iconst 0, 1) := by decide +kernel
theorem dL_act_430 : decode cL_act 430 = .ok (.iaload, 1) := by decide +kernel
theorem dL_act_431 : decode cL_act 431 = .ok (.imul, 1) := by decide +kernel
theorem dL_act_432 : decode cL_act 432 = .ok (.aload 13, 2) := by decide +kernel
theorem dL_act_434 : decode cL_act 434 = .ok (.iconst 1, 1) := by decide +kernel
theorem dL_act_435 : decode cL_act 435 = .ok (.iaload, 1) := by decide +kernel
theorem dL_act_436 : decode cL_act 436 = .ok (.iadd, 1) := by decide +kernel
theorem dL_act_437 : decode cL_act 437 = .ok (.if_icmp .ne 7, 3) := by decide +kernel
theorem dL_act_440 : decode cL_act 440 = .ok (.iconst 1, 1) := by decide +kernel
theorem dL_act_441 : decode cL_act 441 = .ok (.goto 4, 3) := by decide +kernel
theorem dL_act_444 : decode cL_act 444 = .ok (.iconst 0, 1) := by decide +kernel
theorem dL_act_445 : decode cL_act 445 = .ok (.ireturn, 1) := by decide +kernel
theorem dL_law_0 : decode cL_law 0 = .ok (.new 27, 3) := by decide +kernel
theorem dL_law_3 : decode cL_law 3 = .ok (.dup, 1) := by decide +kernel
theorem dL_law_4 : decode cL_law 4 = .ok (.invokespecial 94, 3) := by decide +kernel
theorem dL_law_7 : decode cL_law 7 = .ok (.astore_n 1, 1) := by decide +kernel
theorem dL_law_8 : decode cL_law 8 = .ok (.aload_n 1, 1) := by decide +kernel
theorem dL_law_9 : decode cL_law 9 = .ok (.aload_n 0, 1) := by decide +kernel
theorem dL_law_10 : decode cL_law 10 = .ok (.invokestatic 95, 3) := by decide +kernel
theorem dL_law_13 : decode cL_law 13 = .ok (.astore_n 2, 1) := by decide +kernel
theorem dL_law_14 : decode cL_law 14 = .ok (.aload_n 2, 1) := by decide +kernel
theorem dL_law_15 : decode cL_law 15 = .ok (.ifnonnull 5, 3) := by decide +kernel
theorem dL_law_18 : decode cL_law 18 = .ok (.iconst 0, 1) := by decide +kernel
theorem dL_law_19 : decode cL_law 19 = .ok (.ireturn, 1) := by decide +kernel
theorem dL_law_20 : decode cL_law 20 = .ok (.aload_n 2, 1) := by decide +kernel
theorem dL_law_21 : decode cL_law 21 = .ok (.getfield 43, 3) := by decide +kernel
theorem dL_law_24 : decode cL_law 24 = .ok (.arraylength, 1) := by decide +kernel
theorem dL_law_25 : decode cL_law 25 = .ok (.istore_n 3, 1) := by decide +kernel
theorem dL_law_26 : decode cL_law 26 = .ok (.iconst 0, 1) := by decide +kernel
theorem dL_law_27 : decode cL_law 27 = .ok (.istore 4, 2) := by decide +kernel
theorem dL_law_29 : decode cL_law 29 = .ok (.iload 4, 2) := by decide +kernel
theorem dL_law_31 : decode cL_law 31 = .ok (.bipush 50, 2) := by decide +kernel
theorem dL_law_33 : decode cL_law 33 = .ok (.if_icmp .ge 1148, 3) := by decide +kernel
theorem dL_law_36 : decode cL_law 36 = .ok (.aload_n 0, 1) := by decide +kernel
theorem dL_law_37 : decode cL_law 37 = .ok (.iload 4, 2) := by decide +kernel
theorem dL_law_39 : decode cL_law 39 = .ok (.bipush 16, 2) := by decide +kernel
theorem dL_law_41 : decode cL_law 41 = .ok (.irem, 1) := by decide +kernel
theorem dL_law_42 : decode cL_law 42 = .ok (.invokestatic 12, 3) := by decide +kernel
theorem dL_law_45 : decode cL_law 45 = .ok (.iload 4, 2) := by decide +kernel
theorem dL_law_47 : decode cL_law 47 = .ok (.bipush 16, 2) := by decide +kernel
theorem dL_law_49 : decode cL_law 49 = .ok (.idiv, 1) := by decide +kernel
theorem dL_law_50 : decode cL_law 50 = .ok (.iconst 3, 1) := by decide +kernel
theorem dL_law_51 : decode cL_law 51 = .ok (.imul, 1) := by decide +kernel
theorem dL_law_52 : decode cL_law 52 = .ok (.ishr, 1) := by decide +kernel
theorem dL_law_53 : decode cL_law 53 = .ok (.bipush 67, 2) := by decide +kernel
theorem dL_law_55 : decode cL_law 55 = .ok (.iload 4, 2) := by decide +kernel
theorem dL_law_57 : decode cL_law 57 = .ok (.imul, 1) := by decide +kernel
theorem dL_law_58 : decode cL_law 58 = .ok (.iadd, 1) := by decide +kernel
theorem dL_law_59 : decode cL_law 59 = .ok (.istore 5, 2) := by decide +kernel
theorem dL_law_61 : decode cL_law 61 = .ok (.aload_n 1, 1) := by decide +kernel
theorem dL_law_62 : decode cL_law 62 = .ok (.aload_n 2, 1) := by decide +kernel
theorem dL_law_63 : decode cL_law 63 = .ok (.iload 5, 2) := by decide +kernel
theorem dL_law_65 : decode cL_law 65 = .ok (.invokestatic 98, 3) := by decide +kernel
theorem dL_law_68 : decode cL_law 68 = .ok (.ifCond .ne 5, 3) := by decide +kernel
theorem dL_law_71 : decode cL_law 71 = .ok (.iconst 0, 1) := by decide +kernel
theorem dL_law_72 : decode cL_law 72 = .ok (.ireturn, 1) := by decide +kernel
theorem dL_law_73 : decode cL_law 73 = .ok (.iload_n 3, 1) := by decide +kernel
theorem dL_law_74 : decode cL_law 74 = .ok (.bipush 10, 2) := by decide +kernel
theorem dL_law_76 : decode cL_law 76 = .ok (.multianewarray 102 2, 4) := by decide +kernel
theorem dL_law_80 : decode cL_law 80 = .ok (.astore 6, 2) := by decide +kernel
theorem dL_law_82 : decode cL_law 82 = .ok (.iconst 0, 1) := by decide +kernel
theorem dL_law_83 : decode cL_law 83 = .ok (.istore 7, 2) := by decide +kernel
theorem dL_law_85 : decode cL_law 85 = .ok (.iload 7, 2) := by decide +kernel
theorem dL_law_87 : decode cL_law 87 = .ok (.iload_n 3, 1) := by decide +kernel
theorem dL_law_88 : decode cL_law 88 = .ok (.if_icmp .ge 41, 3) := by decide +kernel
theorem dL_law_91 : decode cL_law 91 = .ok (.iconst 0, 1) := by decide +kernel
theorem dL_law_92 : decode cL_law 92 = .ok (.istore 8, 2) := by decide +kernel
theorem dL_law_94 : decode cL_law 94 = .ok (.iload 8, 2) := by decide +kernel
theorem dL_law_96 : decode cL_law 96 = .ok (.bipush 10, 2) := by decide +kernel
theorem dL_law_98 : decode cL_law 98 = .ok (.if_icmp .ge 25, 3) := by decide +kernel
theorem dL_law_101 : decode cL_law 101 = .ok (.aload 6, 2) := by decide +kernel
theorem dL_law_103 : decode cL_law 103 = .ok (.iload 7, 2) := by decide +kernel
theorem dL_law_105 : decode cL_law 105 = .ok (.aaload, 1) := by decide +kernel
theorem dL_law_106 : decode cL_law 106 = .ok (.iload 8, 2) := by decide +kernel
theorem dL_law_108 : decode cL_law 108 = .ok (.aload_n 1, 1) := by decide +kernel
theorem dL_law_109 : decode cL_law 109 = .ok (.iload 7, 2) := by decide +kernel
theorem dL_law_111 : decode cL_law 111 = .ok (.iload 8, 2) := by decide +kernel
theorem dL_law_113 : decode cL_law 113 = .ok (.invokevirtual 103, 3) := by decide +kernel
theorem dL_law_116 : decode cL_law 116 = .ok (.iastore, 1) := by decide +kernel
theorem dL_law_117 : decode cL_law 117 = .ok (.iinc 8 1, 3) := by decide +kernel
theorem dL_law_120 : decode cL_law 120 = .ok (.goto (-26), 3) := by decide +kernel
theorem dL_law_123 : decode cL_law 123 = .ok (.iinc 7 1, 3) := by decide +kernel
theorem dL_law_126 : decode cL_law 126 = .ok (.goto (-41), 3) := by decide +kernel
theorem dL_law_129 : decode cL_law 129 = .ok (.aload_n 2, 1) := by decide +kernel
theorem dL_law_130 : decode cL_law 130 = .ok (.getfield 81, 3) := by decide +kernel
theorem dL_law_133 : decode cL_law 133 = .ok (.arraylength, 1) := by decide +kernel
theorem dL_law_134 : decode cL_law 134 = .ok (.newarray .int, 2) := by decide +kernel
theorem dL_law_136 : decode cL_law 136 = .ok (.astore 7, 2) := by decide +kernel
theorem dL_law_138 : decode cL_law 138 = .ok (.iconst 0, 1) := by decide +kernel
theorem dL_law_139 : decode cL_law 139 = .ok (.istore 8, 2) := by decide +kernel
theorem dL_law_141 : decode cL_law 141 = .ok (.iload 8, 2) := by decide +kernel
theorem dL_law_143 : decode cL_law 143 = .ok (.aload 7, 2) := by decide +kernel
theorem dL_law_145 : decode cL_law 145 = .ok (.arraylength, 1) := by decide +kernel
theorem dL_law_146 : decode cL_law 146 = .ok (.if_icmp .ge 21, 3) := by decide +kernel
theorem dL_law_149 : decode cL_law 149 = .ok (.aload 7, 2) := by decide +kernel
theorem dL_law_151 : decode cL_law 151 = .ok (.iload 8, 2) := by decide +kernel
theorem dL_law_153 : decode cL_law 153 = .ok (.aload_n 1, 1) := by decide +kernel
theorem dL_law_154 : decode cL_law 154 = .ok (.iload 8, 2) := by decide +kernel
theorem dL_law_156 : decode cL_law 156 = .ok (.iconst 4, 1) := by decide +kernel
theorem dL_law_157 : decode cL_law 157 = .ok (.invokevirtual 106, 3) := by decide +kernel
theorem dL_law_160 : decode cL_law 160 = .ok (.iastore, 1) := by decide +kernel
theorem dL_law_161 : decode cL_law 161 = .ok (.iinc 8 1, 3) := by decide +kernel
theorem dL_law_164 : decode cL_law 164 = .ok (.goto (-23), 3) := by decide +kernel
theorem dL_law_167 : decode cL_law 167 = .ok (.iload_n 3, 1) := by decide +kernel
theorem dL_law_168 : decode cL_law 168 = .ok (.iload_n 3, 1) := by decide +kernel
theorem dL_law_169 : decode cL_law 169 = .ok (.multianewarray 102 2, 4) := by decide +kernel
theorem dL_law_173 : decode cL_law 173 = .ok (.astore 8, 2) := by decide +kernel
theorem dL_law_175 : decode cL_law 175 = .ok (.iconst 0, 1) := by decide +kernel
theorem dL_law_176 : decode cL_law 176 = .ok (.istore 9, 2) := by decide +kernel
theorem dL_law_178 : decode cL_law 178 = .ok (.iload 9, 2) := by decide +kernel
theorem dL_law_180 : decode cL_law 180 = .ok (.iload_n 3, 1) := by decide +kernel
theorem dL_law_181 : decode cL_law 181 = .ok (.if_icmp .ge 40, 3) := by decide +kernel
theorem dL_law_184 : decode cL_law 184 = .ok (.iconst 0, 1) := by decide +kernel
theorem dL_law_185 : decode cL_law 185 = .ok (.istore 10, 2) := by decide +kernel
theorem dL_law_187 : decode cL_law 187 = .ok (.iload 10, 2) := by decide +kernel
theorem dL_law_189 : decode cL_law 189 = .ok (.iload_n 3, 1) := by decide +kernel
theorem dL_law_190 : decode cL_law 190 = .ok (.if_icmp .ge 25, 3) := by decide +kernel
theorem dL_law_193 : decode cL_law 193 = .ok (.aload 8, 2) := by decide +kernel
theorem dL_law_195 : decode cL_law 195 = .ok (.iload 9, 2) := by decide +kernel
theorem dL_law_197 : decode cL_law 197 = .ok (.aaload, 1) := by decide +kernel
theorem dL_law_198 : decode cL_law 198 = .ok (.iload 10, 2) := by decide +kernel
theorem dL_law_200 : decode cL_law 200 = .ok (.aload_n 1, 1) := by decide +kernel
theorem dL_law_201 : decode cL_law 201 = .ok (.iload 9, 2) := by decide +kernel
theorem dL_law_203 : decode cL_law 203 = .ok (.iload 10, 2) := by decide +kernel
theorem dL_law_205 : decode cL_law 205 = .ok (.invokevirtual 109, 3) := by decide +kernel
theorem dL_law_208 : decode cL_law 208 = .ok (.iastore, 1) := by decide +kernel
theorem dL_law_209 : decode cL_law 209 = .ok (.iinc 10 1, 3) := by decide +kernel
theorem dL_law_212 : decode cL_law 212 = .ok (.goto (-25), 3) := by decide +kernel
theorem dL_law_215 : decode cL_law 215 = .ok (.iinc 9 1, 3) := by decide +kernel
theorem dL_law_218 : decode cL_law 218 = .ok (.goto (-40), 3) := by decide +kernel
theorem dL_law_221 : decode cL_law 221 = .ok (.iload 5, 2) := by decide +kernel
theorem dL_law_223 : decode cL_law 223 = .ok (.iload_n 3, 1) := by decide +kernel
theorem dL_law_224 : decode cL_law 224 = .ok (.invokestatic 18, 3) := by decide +kernel
theorem dL_law_227 : decode cL_law 227 = .ok (.istore 9, 2) := by decide +kernel
theorem dL_law_229 : decode cL_law 229 = .ok (.aload_n 1, 1) := by decide +kernel
theorem dL_law_230 : decode cL_law 230 = .ok (.iload 9, 2) := by decide +kernel
theorem dL_law_232 : decode cL_law 232 = .ok (.invokevirtual 112, 3) := by decide +kernel
theorem dL_law_235 : decode cL_law 235 = .ok (.istore 10, 2) := by decide +kernel
theorem dL_law_237 : decode cL_law 237 = .ok (.aload_n 1, 1) := by decide +kernel
theorem dL_law_238 : decode cL_law 238 = .ok (.iconst 1, 1) := by decide +kernel
theorem dL_law_239 : decode cL_law 239 = .ok (.iconst 0, 1) := by decide +kernel
theorem dL_law_240 : decode cL_law 240 = .ok (.invokevirtual 115, 3) := by decide +kernel
theorem dL_law_243 : decode cL_law 243 = .ok (.istore 11, 2) := by decide +kernel
theorem dL_law_245 : decode cL_law 245 = .ok (.aload_n 1, 1) := by decide +kernel
theorem dL_law_246 : decode cL_law 246 = .ok (.iconst 1, 1) := by decide +kernel
theorem dL_law_247 : decode cL_law 247 = .ok (.iconst 1, 1) := by decide +kernel
theorem dL_law_248 : decode cL_law 248 = .ok (.invokevirtual 115, 3) := by decide +kernel
theorem dL_law_251 : decode cL_law 251 = .ok (.istore 12, 2) := by decide +kernel
theorem dL_law_253 : decode cL_law 253 = .ok (.aload_n 1, 1) := by decide +kernel
theorem dL_law_254 : decode cL_law 254 = .ok (.iconst 1, 1) := by decide +kernel
theorem dL_law_255 : decode cL_law 255 = .ok (.iconst 2, 1) := by decide +kernel
theorem dL_law_256 : decode cL_law 256 = .ok (.invokevirtual 115, 3) := by decide +kernel
theorem dL_law_259 : decode cL_law 259 = .ok (.istore 13, 2) := by decide +kernel
theorem dL_law_261 : decode cL_law 261 = .ok (.bipush 11, 2) := by decide +kernel
theorem dL_law_263 : decode cL_law 263 = .ok (.newarray .int, 2) := by decide +kernel
theorem dL_law_265 : decode cL_law 265 = .ok (.astore 14, 2) := by decide +kernel
theorem dL_law_267 : decode cL_law 267 = .ok (.iconst 0, 1) := by decide +kernel
theorem dL_law_268 : decode cL_law 268 = .ok (.istore 15, 2) := by decide +kernel
theorem dL_law_270 : decode cL_law 270 = .ok (.iload 15, 2) := by decide +kernel
theorem dL_law_272 : decode cL_law 272 = .ok (.bipush 11, 2) := by decide +kernel
theorem dL_law_274 : decode cL_law 274 = .ok (.if_icmp .ge 20, 3) := by decide +kernel
theorem dL_law_277 : decode cL_law 277 = .ok (.aload 14, 2) := by decide +kernel
theorem dL_law_279 : decode cL_law 279 = .ok (.iload 15, 2) := by decide +kernel
theorem dL_law_281 : decode cL_law 281 = .ok (.aload_n 1, 1) := by decide +kernel
theorem dL_law_282 : decode cL_law 282 = .ok (.iload 15, 2) := by decide +kernel
theorem dL_law_284 : decode cL_law 284 = .ok (.invokevirtual 118, 3) := by decide +kernel
theorem dL_law_287 : decode cL_law 287 = .ok (.iastore, 1) := by decide +kernel
theorem dL_law_288 : decode cL_law 288 = .ok (.iinc 15 1, 3) := by decide +kernel
theorem dL_law_291 : decode cL_law 291 = .ok (.goto (-21), 3) := by decide +kernel
theorem dL_law_294 : decode cL_law 294 = .ok (.aload_n 2, 1) := by decide +kernel
theorem dL_law_295 : decode cL_law 295 = .ok (.getfield 22, 3) := by decide +kernel
theorem dL_law_298 : decode cL_law 298 = .ok (.aload_n 2, 1) := by decide +kernel
theorem dL_law_299 : decode cL_law 299 = .ok (.getfield 121, 3) := by decide +kernel
theorem dL_law_302 : decode cL_law 302 = .ok (.bipush 28, 2) := by decide +kernel
theorem dL_law_304 : decode cL_law 304 = .ok (.irem, 1) := by decide +kernel
theorem dL_law_305 : decode cL_law 305 = .ok (.aaload, 1) := by decide +kernel
theorem dL_law_306 : decode cL_law 306 = .ok (.astore 15, 2) := by decide +kernel
theorem dL_law_308 : decode cL_law 308 = .ok (.aload_n 1, 1) := by decide +kernel
theorem dL_law_309 : decode cL_law 309 = .ok (.iconst 1, 1) := by decide +kernel
theorem dL_law_310 : decode cL_law 310 = .ok (.invokevirtual 124, 3) := by decide +kernel
theorem dL_law_313 : decode cL_law 313 = .ok (.istore 16, 2) := by decide +kernel
theorem dL_law_315 : decode cL_law 315 = .ok (.aload_n 2, 1) := by decide +kernel
theorem dL_law_316 : decode cL_law 316 = .ok (.invokevirtual 127, 3) := by decide +kernel
theorem dL_law_319 : decode cL_law 319 = .ok (.pop, 1) := by decide +kernel
theorem dL_law_320 : decode cL_law 320 = .ok (.iload 16, 2) := by decide +kernel
theorem dL_law_322 : decode cL_law 322 = .ok (.iload 11, 2) := by decide +kernel
theorem dL_law_324 : decode cL_law 324 = .ok (.if_icmp .ne 85, 3) := by decide +kernel
theorem dL_law_327 : decode cL_law 327 = .ok (.aload_n 1, 1) := by decide +kernel
theorem dL_law_328 : decode cL_law 328 = .ok (.iconst 3, 1) := by decide +kernel
theorem dL_law_329 : decode cL_law 329 = .ok (.invokevirtual 118, 3) := by decide +kernel
theorem dL_law_332 : decode cL_law 332 = .ok (.iload 12, 2) := by decide +kernel
theorem dL_law_334 : decode cL_law 334 = .ok (.if_icmp .ne 75, 3) := by decide +kernel
theorem dL_law_337 : decode cL_law 337 = .ok (.aload_n 1, 1) := by decide +kernel
theorem dL_law_338 : decode cL_law 338 = .ok (.bipush 6, 2) := by decide +kernel
theorem dL_law_340 : decode cL_law 340 = .ok (.invokevirtual 118, 3) := by decide +kernel
theorem dL_law_343 : decode cL_law 343 = .ok (.aload 14, 2) := by decide +kernel
theorem dL_law_345 : decode cL_law 345 = .ok (.bipush 6, 2) := by decide +kernel
theorem dL_law_347 : decode cL_law 347 = .ok (.iaload, 1) := by decide +kernel
theorem dL_law_348 : decode cL_law 348 = .ok (.iload 13, 2) := by decide +kernel
theorem dL_law_350 : decode cL_law 350 = .ok (.iadd, 1) := by decide +kernel
theorem dL_law_351 : decode cL_law 351 = .ok (.if_icmp .ne 58, 3) := by decide +kernel
theorem dL_law_354 : decode cL_law 354 = .ok (.aload_n 1, 1) := by decide +kernel
theorem dL_law_355 : decode cL_law 355 = .ok (.iconst 0, 1) := by decide +kernel
theorem dL_law_356 : decode cL_law 356 = .ok (.invokevirtual 118, 3) := by decide +kernel
theorem dL_law_359 : decode cL_law 359 = .ok (.iload 4, 2) := by decide +kernel
theorem dL_law_361 : decode cL_law 361 = .ok (.iconst 1, 1) := by decide +kernel
theorem dL_law_362 : decode cL_law 362 = .ok (.iadd, 1) := by decide +kernel
theorem dL_law_363 : decode cL_law 363 = .ok (.if_icmp .ne 46, 3) := by decide +kernel
theorem dL_law_366 : decode cL_law 366 = .ok (.aload_n 1, 1) := by decide +kernel
theorem dL_law_367 : decode cL_law 367 = .ok (.iconst 4, 1) := by decide +kernel
theorem dL_law_368 : decode cL_law 368 = .ok (.invokevirtual 118, 3) := by decide +kernel
theorem dL_law_371 : decode cL_law 371 = .ok (.aload 14, 2) := by decide +kernel
theorem dL_law_373 : decode cL_law 373 = .ok (.iconst 4, 1) := by decide +kernel
theorem dL_law_374 : decode cL_law 374 = .ok (.iaload, 1) := by decide +kernel
theorem dL_law_375 : decode cL_law 375 = .ok (.iload 16, 2) := by decide +kernel
theorem dL_law_377 : decode cL_law 377 = .ok (.iadd, 1) := by decide +kernel
theorem dL_law_378 : decode cL_law 378 = .ok (.if_icmp .ne 31, 3) := by decide +kernel
theorem dL_law_381 : decode cL_law 381 = .ok (.aload_n 1, 1) := by decide +kernel
theorem dL_law_382 : decode cL_law 382 = .ok (.bipush 9, 2) := by decide +kernel
theorem dL_law_384 : decode cL_law 384 = .ok (.invokevirtual 118, 3) := by decide +kernel
theorem dL_law_387 : decode cL_law 387 = .ok (.aload 14, 2) := by decide +kernel
theorem dL_law_389 : decode cL_law 389 = .ok (.bipush 9, 2) := by decide +kernel
theorem dL_law_391 : decode cL_law 391 = .ok (.iaload, 1) := by decide +kernel
theorem dL_law_392 : decode cL_law 392 = .ok (.if_icmp .ne 17, 3) := by decide +kernel
theorem dL_law_395 : decode cL_law 395 = .ok (.aload_n 1, 1) := by decide +kernel
theorem dL_law_396 : decode cL_law 396 = .ok (.bipush 10, 2) := by decide +kernel
theorem dL_law_398 : decode cL_law 398 = .ok (.invokevirtual 118, 3) := by decide +kernel
theorem dL_law_401 : decode cL_law 401 = .ok (.aload 14, 2) := by decide +kernel
theorem dL_law_403 : decode cL_law 403 = .ok (.bipush 10, 2) := by decide +kernel
theorem dL_law_405 : decode cL_law 405 = .ok (.iaload, 1) := by decide +kernel
theorem dL_law_406 : decode cL_law 406 = .ok (.if_icmp .eq 5, 3) := by decide +kernel
theorem dL_law_409 : decode cL_law 409 = .ok (.iconst 0, 1) := by decide +kernel
theorem dL_law_410 : decode cL_law 410 = .ok (.ireturn, 1) := by decide +kernel
theorem dL_law_411 : decode cL_law 411 = .ok (.aload_n 1, 1) := by decide +kernel
theorem dL_law_412 : decode cL_law 412 = .ok (.iconst 5, 1) := by decide +kernel
theorem dL_law_413 : decode cL_law 413 = .ok (.invokevirtual 118, 3) := by decide +kernel
theorem dL_law_416 : decode cL_law 416 = .ok (.aload_n 1, 1) := by decide +kernel
theorem dL_law_417 : decode cL_law 417 = .ok (.bipush 9, 2) := by decide +kernel
theorem dL_law_419 : decode cL_law 419 = .ok (.invokevirtual 118, 3) := by decide +kernel
theorem dL_law_422 : decode cL_law 422 = .ok (.iadd, 1) := by decide +kernel
theorem dL_law_423 : decode cL_law 423 = .ok (.aload_n 1, 1) := by decide +kernel
theorem dL_law_424 : decode cL_law 424 = .ok (.iconst 3, 1) := by decide +kernel
theorem dL_law_425 : decode cL_law 425 = .ok (.invokevirtual 118, 3) := by decide +kernel
theorem dL_law_428 : decode cL_law 428 = .ok (.aload_n 1, 1) := by decide +kernel
theorem dL_law_429 : decode cL_law 429 = .ok (.bipush 6, 2) := by decide +kernel
theorem dL_law_431 : decode cL_law 431 = .ok (.invokevirtual 118, 3) := by decide +kernel
theorem dL_law_434 : decode cL_law 434 = .ok (.iadd, 1) := by decide +kernel
theorem dL_law_435 : decode cL_law 435 = .ok (.aload_n 1, 1) := by decide +kernel
theorem dL_law_436 : decode cL_law 436 = .ok (.bipush 7, 2) := by decide +kernel
theorem dL_law_438 : decode cL_law 438 = .ok (.invokevirtual 118, 3) := by decide +kernel
theorem dL_law_441 : decode cL_law 441 = .ok (.iadd, 1) := by decide +kernel
theorem dL_law_442 : decode cL_law 442 = .ok (.aload_n 1, 1) := by decide +kernel
theorem dL_law_443 : decode cL_law 443 = .ok (.bipush 8, 2) := by decide +kernel
theorem dL_law_445 : decode cL_law 445 = .ok (.invokevirtual 118, 3) := by decide +kernel
theorem dL_law_448 : decode cL_law 448 = .ok (.iadd, 1) := by decide +kernel
theorem dL_law_449 : decode cL_law 449 = .ok (.if_icmp .eq 5, 3) := by decide +kernel
theorem dL_law_452 : decode cL_law 452 = .ok (.iconst 0, 1) := by decide +kernel
theorem dL_law_453 : decode cL_law 453 = .ok (.ireturn, 1) := by decide +kernel
theorem dL_law_454 : decode cL_law 454 = .ok (.iload 10, 2) := by decide +kernel
theorem dL_law_456 : decode cL_law 456 = .ok (.iconst 1, 1) := by decide +kernel
theorem dL_law_457 : decode cL_law 457 = .ok (.if_icmp .le 24, 3) := by decide +kernel
theorem dL_law_460 : decode cL_law 460 = .ok (.iload 10, 2) := by decide +kernel
theorem dL_law_462 : decode cL_law 462 = .ok (.sipush 200, 3) := by decide +kernel
theorem dL_law_465 : decode cL_law 465 = .ok (.if_icmp .ge 16, 3) := by decide +kernel
theorem dL_law_468 : decode cL_law 468 = .ok (.aload_n 1, 1) := by decide +kernel
theorem dL_law_469 : decode cL_law 469 = .ok (.iload 9, 2) := by decide +kernel
theorem dL_law_471 : decode cL_law 471 = .ok (.invokevirtual 112, 3) := by decide +kernel
theorem dL_law_474 : decode cL_law 474 = .ok (.iload 10, 2) := by decide +kernel
theorem dL_law_476 : decode cL_law 476 = .ok (.iconst 1, 1) := by decide +kernel
theorem dL_law_477 : decode cL_law 477 = .ok (.isub, 1) := by decide +kernel
theorem dL_law_478 : decode cL_law 478 = .ok (.if_icmp .ne 53, 3) := by decide +kernel
theorem dL_law_481 : decode cL_law 481 = .ok (.iload 10, 2) := by decide +kernel
theorem dL_law_483 : decode cL_law 483 = .ok (.iconst 1, 1) := by decide +kernel
theorem dL_law_484 : decode cL_law 484 = .ok (.if_icmp .ne 22, 3) := by decide +kernel
theorem dL_law_487 : decode cL_law 487 = .ok (.aload_n 1, 1) := by decide +kernel
theorem dL_law_488 : decode cL_law 488 = .ok (.iload 9, 2) := by decide +kernel
theorem dL_law_490 : decode cL_law 490 = .ok (.bipush 7, 2) := by decide +kernel
theorem dL_law_492 : decode cL_law 492 = .ok (.invokevirtual 103, 3) := by decide +kernel
theorem dL_law_495 : decode cL_law 495 = .ok (.aload 6, 2) := by decide +kernel
theorem dL_law_497 : decode cL_law 497 = .ok (.iload 9, 2) := by decide +kernel
theorem dL_law_499 : decode cL_law 499 = .ok (.aaload, 1) := by decide +kernel
theorem dL_law_500 : decode cL_law 500 = .ok (.bipush 7, 2) := by decide +kernel
theorem dL_law_502 : decode cL_law 502 = .ok (.iaload, 1) := by decide +kernel
theorem dL_law_503 : decode cL_law 503 = .ok (.if_icmp .eq 28, 3) := by decide +kernel
theorem dL_law_506 : decode cL_law 506 = .ok (.iload 10, 2) := by decide +kernel
theorem dL_law_508 : decode cL_law 508 = .ok (.iconst 1, 1) := by decide +kernel
theorem dL_law_509 : decode cL_law 509 = .ok (.if_icmp .eq 24, 3) := by decide +kernel
theorem dL_law_512 : decode cL_law 512 = .ok (.aload_n 1, 1) := by decide +kernel
theorem dL_law_513 : decode cL_law 513 = .ok (.iload 9, 2) := by decide +kernel
theorem dL_law_515 : decode cL_law 515 = .ok (.bipush 7, 2) := by decide +kernel
theorem dL_law_517 : decode cL_law 517 = .ok (.invokevirtual 103, 3) := by decide +kernel
theorem dL_law_520 : decode cL_law 520 = .ok (.aload 6, 2) := by decide +kernel
theorem dL_law_522 : decode cL_law 522 = .ok (.iload 9, 2) := by decide +kernel
theorem dL_law_524 : decode cL_law 524 = .ok (.aaload, 1) := by decide +kernel
theorem dL_law_525 : decode cL_law 525 = .ok (.bipush 7, 2) := by decide +kernel
theorem dL_law_527 : decode cL_law 527 = .ok (.iaload, 1) := by decide +kernel
theorem dL_law_528 : decode cL_law 528 = .ok (.if_icmp .eq 5, 3) := by decide +kernel
theorem dL_law_531 : decode cL_law 531 = .ok (.iconst 0, 1) := by decide +kernel
theorem dL_law_532 : decode cL_law 532 = .ok (.ireturn, 1) := by decide +kernel
theorem dL_law_533 : decode cL_law 533 = .ok (.iconst 0, 1) := by decide +kernel
theorem dL_law_534 : decode cL_law 534 = .ok (.istore 17, 2) := by decide +kernel
theorem dL_law_536 : decode cL_law 536 = .ok (.iconst 0, 1) := by decide +kernel
theorem dL_law_537 : decode cL_law 537 = .ok (.istore 18, 2) := by decide +kernel
theorem dL_law_539 : decode cL_law 539 = .ok (.iconst 0, 1) := by decide +kernel
theorem dL_law_540 : decode cL_law 540 = .ok (.istore 19, 2) := by decide +kernel
theorem dL_law_542 : decode cL_law 542 = .ok (.iload 19, 2) := by decide +kernel
theorem dL_law_544 : decode cL_law 544 = .ok (.iload_n 3, 1) := by decide +kernel
theorem dL_law_545 : decode cL_law 545 = .ok (.if_icmp .ge 527, 3) := by decide +kernel
theorem dL_law_548 : decode cL_law 548 = .ok (.iload 17, 2) := by decide +kernel
theorem dL_law_550 : decode cL_law 550 = .ok (.aload 6, 2) := by decide +kernel
theorem dL_law_552 : decode cL_law 552 = .ok (.iload 19, 2) := by decide +kernel
theorem dL_law_554 : decode cL_law 554 = .ok (.aaload, 1) := by decide +kernel
theorem dL_law_555 : decode cL_law 555 = .ok (.iconst 0, 1) := by decide +kernel
theorem dL_law_556 : decode cL_law 556 = .ok (.iaload, 1) := by decide +kernel
theorem dL_law_557 : decode cL_law 557 = .ok (.aload 15, 2) := by decide +kernel
theorem dL_law_559 : decode cL_law 559 = .ok (.iconst 0, 1) := by decide +kernel
theorem dL_law_560 : decode cL_law 560 = .ok (.iaload, 1) := by decide +kernel
theorem dL_law_561 : decode cL_law 561 = .ok (.imul, 1) := by decide +kernel
theorem dL_law_562 : decode cL_law 562 = .ok (.bipush 10, 2) := by decide +kernel
theorem dL_law_564 : decode cL_law 564 = .ok (.aload 6, 2) := by decide +kernel
theorem dL_law_566 : decode cL_law 566 = .ok (.iload 19, 2) := by decide +kernel
theorem dL_law_568 : decode cL_law 568 = .ok (.aaload, 1) := by decide +kernel
theorem dL_law_569 : decode cL_law 569 = .ok (.iconst 5, 1) := by decide +kernel
theorem dL_law_570 : decode cL_law 570 = .ok (.iaload, 1) := by decide +kernel
theorem dL_law_571 : decode cL_law 571 = .ok (.isub, 1) := by decide +kernel
theorem dL_law_572 : decode cL_law 572 = .ok (.imul, 1) := by decide +kernel
theorem dL_law_573 : decode cL_law 573 = .ok (.bipush 10, 2) := by decide +kernel
theorem dL_law_575 : decode cL_law 575 = .ok (.idiv, 1) := by decide +kernel
theorem dL_law_576 : decode cL_law 576 = .ok (.iadd, 1) := by decide +kernel
theorem dL_law_577 : decode cL_law 577 = .ok (.istore 17, 2) := by decide +kernel
theorem dL_law_579 : decode cL_law 579 = .ok (.iload 18, 2) := by decide +kernel
theorem dL_law_581 : decode cL_law 581 = .ok (.iconst 3, 1) := by decide +kernel
theorem dL_law_582 : decode cL_law 582 = .ok (.aload 6, 2) := by decide +kernel
theorem dL_law_584 : decode cL_law 584 = .ok (.iload 19, 2) := by decide +kernel
theorem dL_law_586 : decode cL_law 586 = .ok (.aaload, 1) := by decide +kernel
theorem dL_law_587 : decode cL_law 587 = .ok (.iconst 3, 1) := by decide +kernel
theorem dL_law_588 : decode cL_law 588 = .ok (.iaload, 1) := by decide +kernel
theorem dL_law_589 : decode cL_law 589 = .ok (.imul, 1) := by decide +kernel
theorem dL_law_590 : decode cL_law 590 = .ok (.iadd, 1) := by decide +kernel
theorem dL_law_591 : decode cL_law 591 = .ok (.istore 18, 2) := by decide +kernel
theorem dL_law_593 : decode cL_law 593 = .ok (.aload_n 1, 1) := by decide +kernel
theorem dL_law_594 : decode cL_law 594 = .ok (.iload 19, 2) := by decide +kernel
theorem dL_law_596 : decode cL_law 596 = .ok (.iconst 2, 1) := by decide +kernel
theorem dL_law_597 : decode cL_law 597 = .ok (.invokevirtual 103, 3) := by decide +kernel
theorem dL_law_600 : decode cL_law 600 = .ok (.istore 20, 2) := by decide +kernel
theorem dL_law_602 : decode cL_law 602 = .ok (.aload_n 1, 1) := by decide +kernel
theorem dL_law_603 : decode cL_law 603 = .ok (.iload 19, 2) := by decide +kernel
theorem dL_law_605 : decode cL_law 605 = .ok (.bipush 7, 2) := by decide +kernel
theorem dL_law_607 : decode cL_law 607 = .ok (.invokevirtual 103, 3) := by decide +kernel
theorem dL_law_610 : decode cL_law 610 = .ok (.aload 6, 2) := by decide +kernel
theorem dL_law_612 : decode cL_law 612 = .ok (.iload 19, 2) := by decide +kernel
theorem dL_law_614 : decode cL_law 614 = .ok (.aaload, 1) := by decide +kernel
theorem dL_law_615 : decode cL_law 615 = .ok (.bipush 7, 2) := by decide +kernel
theorem dL_law_617 : decode cL_law 617 = .ok (.iaload, 1) := by decide +kernel
theorem dL_law_618 : decode cL_law 618 = .ok (.isub, 1) := by decide +kernel
theorem dL_law_619 : decode cL_law 619 = .ok (.istore 21, 2) := by decide +kernel
theorem dL_law_621 : decode cL_law 621 = .ok (.aload_n 1, 1) := by decide +kernel
theorem dL_law_622 : decode cL_law 622 = .ok (.iload 19, 2) := by decide +kernel
theorem dL_law_624 : decode cL_law 624 = .ok (.bipush 8, 2) := by decide +kernel
theorem dL_law_626 : decode cL_law 626 = .ok (.invokevirtual 103, 3) := by decide +kernel
theorem dL_law_629 : decode cL_law 629 = .ok (.aload 6, 2) := by decide +kernel
theorem dL_law_631 : decode cL_law 631 = .ok (.iload 19, 2) := by decide +kernel
theorem dL_law_633 : decode cL_law 633 = .ok (.aaload, 1) := by decide +kernel
theorem dL_law_634 : decode cL_law 634 = .ok (.bipush 8, 2) := by decide +kernel
theorem dL_law_636 : decode cL_law 636 = .ok (.iaload, 1) := by decide +kernel
theorem dL_law_637 : decode cL_law 637 = .ok (.isub, 1) := by decide +kernel
theorem dL_law_638 : decode cL_law 638 = .ok (.istore 22, 2) := by decide +kernel
theorem dL_law_640 : decode cL_law 640 = .ok (.iload 20, 2) := by decide +kernel
theorem dL_law_642 : decode cL_law 642 = .ok (.ifCond .lt 61, 3) := by decide +kernel
theorem dL_law_645 : decode cL_law 645 = .ok (.iload 20, 2) := by decide +kernel
theorem dL_law_647 : decode cL_law 647 = .ok (.aload 6, 2) := by decide +kernel
theorem dL_law_649 : decode cL_law 649 = .ok (.iload 19, 2) := by decide +kernel
theorem dL_law_651 : decode cL_law 651 = .ok (.aaload, 1) := by decide +kernel
theorem dL_law_652 : decode cL_law 652 = .ok (.iconst 1, 1) := by decide +kernel
theorem dL_law_653 : decode cL_law 653 = .ok (.iaload, 1) := by decide +kernel
theorem dL_law_654 : decode cL_law 654 = .ok (.if_icmp .gt 49, 3) := by decide +kernel
theorem dL_law_657 : decode cL_law 657 = .ok (.iload 21, 2) := by decide +kernel
theorem dL_law_659 : decode cL_law 659 = .ok (.ifCond .lt 44, 3) := by decide +kernel
theorem dL_law_662 : decode cL_law 662 = .ok (.iload 21, 2) := by decide +kernel
theorem dL_law_664 : decode cL_law 664 = .ok (.iconst 3, 1) := by decide +kernel
theorem dL_law_665 : decode cL_law 665 = .ok (.aload 6, 2) := by decide +kernel
theorem dL_law_667 : decode cL_law 667 = .ok (.iload 19, 2) := by decide +kernel
theorem dL_law_669 : decode cL_law 669 = .ok (.aaload, 1) := by decide +kernel
theorem dL_law_670 : decode cL_law 670 = .ok (.iconst 3, 1) := by decide +kernel
theorem dL_law_671 : decode cL_law 671 = .ok (.iaload, 1) := by decide +kernel
theorem dL_law_672 : decode cL_law 672 = .ok (.imul, 1) := by decide +kernel
theorem dL_law_673 : decode cL_law 673 = .ok (.if_icmp .gt 30, 3) := by decide +kernel
theorem dL_law_676 : decode cL_law 676 = .ok (.iload 22, 2) := by decide +kernel
theorem dL_law_678 : decode cL_law 678 = .ok (.ifCond .lt 25, 3) := by decide +kernel
theorem dL_law_681 : decode cL_law 681 = .ok (.iload 22, 2) := by decide +kernel
theorem dL_law_683 : decode cL_law 683 = .ok (.aload 6, 2) := by decide +kernel
theorem dL_law_685 : decode cL_law 685 = .ok (.iload 19, 2) := by decide +kernel
theorem dL_law_687 : decode cL_law 687 = .ok (.aaload, 1) := by decide +kernel
theorem dL_law_688 : decode cL_law 688 = .ok (.iconst 4, 1) := by decide +kernel
theorem dL_law_689 : decode cL_law 689 = .ok (.iaload, 1) := by decide +kernel
theorem dL_law_690 : decode cL_law 690 = .ok (.if_icmp .gt 13, 3) := by decide +kernel
theorem dL_law_693 : decode cL_law 693 = .ok (.iload 21, 2) := by decide +kernel
theorem dL_law_695 : decode cL_law 695 = .ok (.ifCond .le 10, 3) := by decide +kernel
theorem dL_law_698 : decode cL_law 698 = .ok (.iload 22, 2) := by decide +kernel
theorem dL_law_700 : decode cL_law 700 = .ok (.ifCond .le 5, 3) := by decide +kernel
theorem dL_law_703 : decode cL_law 703 = .ok (.iconst 0, 1) := by decide +kernel
theorem dL_law_704 : decode cL_law 704 = .ok (.ireturn, 1) := by decide +kernel
theorem dL_law_705 : decode cL_law 705 = .ok (.aload_n 1, 1) := by decide +kernel
theorem dL_law_706 : decode cL_law 706 = .ok (.iload 19, 2) := by decide +kernel
theorem dL_law_708 : decode cL_law 708 = .ok (.bipush 9, 2) := by decide +kernel
theorem dL_law_710 : decode cL_law 710 = .ok (.invokevirtual 103, 3) := by decide +kernel
theorem dL_law_713 : decode cL_law 713 = .ok (.aload 6, 2) := by decide +kernel
theorem dL_law_715 : decode cL_law 715 = .ok (.iload 19, 2) := by decide +kernel
theorem dL_law_717 : decode cL_law 717 = .ok (.aaload, 1) := by decide +kernel
theorem dL_law_718 : decode cL_law 718 = .ok (.bipush 9, 2) := by decide +kernel
theorem dL_law_720 : decode cL_law 720 = .ok (.iaload, 1) := by decide +kernel
theorem dL_law_721 : decode cL_law 721 = .ok (.iload 21, 2) := by decide +kernel
theorem dL_law_723 : decode cL_law 723 = .ok (.ifCond .le 7, 3) := by decide +kernel
theorem dL_law_726 : decode cL_law 726 = .ok (.iconst 1, 1) := by decide +kernel
theorem dL_law_727 : decode cL_law 727 = .ok (.goto 4, 3) := by decide +kernel
theorem dL_law_730 : decode cL_law 730 = .ok (.iconst 0, 1) := by decide +kernel
theorem dL_law_731 : decode cL_law 731 = .ok (.iadd, 1) := by decide +kernel
theorem dL_law_732 : decode cL_law 732 = .ok (.if_icmp .ne 66, 3) := by decide +kernel
theorem dL_law_735 : decode cL_law 735 = .ok (.aload_n 1, 1) := by decide +kernel
theorem dL_law_736 : decode cL_law 736 = .ok (.iload 19, 2) := by decide +kernel
theorem dL_law_738 : decode cL_law 738 = .ok (.iconst 5, 1) := by decide +kernel
theorem dL_law_739 : decode cL_law 739 = .ok (.invokevirtual 103, 3) := by decide +kernel
theorem dL_law_742 : decode cL_law 742 = .ok (.bipush 10, 2) := by decide +kernel
theorem dL_law_744 : decode cL_law 744 = .ok (.aload 6, 2) := by decide +kernel
theorem dL_law_746 : decode cL_law 746 = .ok (.iload 19, 2) := by decide +kernel
theorem dL_law_748 : decode cL_law 748 = .ok (.aaload, 1) := by decide +kernel
theorem dL_law_749 : decode cL_law 749 = .ok (.iconst 5, 1) := by decide +kernel
theorem dL_law_750 : decode cL_law 750 = .ok (.iaload, 1) := by decide +kernel
theorem dL_law_751 : decode cL_law 751 = .ok (.aload 15, 2) := by decide +kernel
theorem dL_law_753 : decode cL_law 753 = .ok (.iconst 1, 1) := by decide +kernel
theorem dL_law_754 : decode cL_law 754 = .ok (.iaload, 1) := by decide +kernel
theorem dL_law_755 : decode cL_law 755 = .ok (.iadd, 1) := by decide +kernel
theorem dL_law_756 : decode cL_law 756 = .ok (.invokestatic 130, 3) := by decide +kernel
theorem dL_law_759 : decode cL_law 759 = .ok (.if_icmp .ne 39, 3) := by decide +kernel
theorem dL_law_762 : decode cL_law 762 = .ok (.aload_n 1, 1) := by decide +kernel
theorem dL_law_763 : decode cL_law 763 = .ok (.iload 19, 2) := by decide +kernel
theorem dL_law_765 : decode cL_law 765 = .ok (.bipush 6, 2) := by decide +kernel
theorem dL_law_767 : decode cL_law 767 = .ok (.invokevirtual 103, 3) := by decide +kernel
theorem dL_law_770 : decode cL_law 770 = .ok (.aload 6, 2) := by decide +kernel
theorem dL_law_772 : decode cL_law 772 = .ok (.iload 19, 2) := by decide +kernel
theorem dL_law_774 : decode cL_law 774 = .ok (.aaload, 1) := by decide +kernel
theorem dL_law_775 : decode cL_law 775 = .ok (.bipush 6, 2) := by decide +kernel
theorem dL_law_777 : decode cL_law 777 = .ok (.iaload, 1) := by decide +kernel
theorem dL_law_778 : decode cL_law 778 = .ok (.if_icmp .ne 20, 3) := by decide +kernel
theorem dL_law_781 : decode cL_law 781 = .ok (.aload_n 1, 1) := by decide +kernel
theorem dL_law_782 : decode cL_law 782 = .ok (.iload 19, 2) := by decide +kernel
theorem dL_law_784 : decode cL_law 784 = .ok (.iconst 1, 1) := by decide +kernel
theorem dL_law_785 : decode cL_law 785 = .ok (.invokevirtual 103, 3) := by decide +kernel
theorem dL_law_788 : decode cL_law 788 = .ok (.aload 6, 2) := by decide +kernel
theorem dL_law_790 : decode cL_law 790 = .ok (.iload 19, 2) := by decide +kernel
theorem dL_law_792 : decode cL_law 792 = .ok (.aaload, 1) := by decide +kernel
theorem dL_law_793 : decode cL_law 793 = .ok (.iconst 1, 1) := by decide +kernel
theorem dL_law_794 : decode cL_law 794 = .ok (.iaload, 1) := by decide +kernel
theorem dL_law_795 : decode cL_law 795 = .ok (.if_icmp .eq 5, 3) := by decide +kernel
theorem dL_law_798 : decode cL_law 798 = .ok (.iconst 0, 1) := by decide +kernel
theorem dL_law_799 : decode cL_law 799 = .ok (.ireturn, 1) := by decide +kernel
theorem dL_law_800 : decode cL_law 800 = .ok (.iconst 0, 1) := by decide +kernel
theorem dL_law_801 : decode cL_law 801 = .ok (.istore 23, 2) := by decide +kernel
theorem dL_law_803 : decode cL_law 803 = .ok (.aload_n 2, 1) := by decide +kernel
theorem dL_law_804 : decode cL_law 804 = .ok (.getfield 81, 3) := by decide +kernel
theorem dL_law_807 : decode cL_law 807 = .ok (.astore 24, 2) := by decide +kernel
theorem dL_law_809 : decode cL_law 809 = .ok (.aload 24, 2) := by decide +kernel
theorem dL_law_811 : decode cL_law 811 = .ok (.arraylength, 1) := by decide +kernel
theorem dL_law_812 : decode cL_law 812 = .ok (.istore 25, 2) := by decide +kernel
theorem dL_law_814 : decode cL_law 814 = .ok (.iconst 0, 1) := by decide +kernel
theorem dL_law_815 : decode cL_law 815 = .ok (.istore 26, 2) := by decide +kernel
theorem dL_law_817 : decode cL_law 817 = .ok (.iload 26, 2) := by decide +kernel
theorem dL_law_819 : decode cL_law 819 = .ok (.iload 25, 2) := by decide +kernel
theorem dL_law_821 : decode cL_law 821 = .ok (.if_icmp .ge 46, 3) := by decide +kernel
theorem dL_law_824 : decode cL_law 824 = .ok (.aload 24, 2) := by decide +kernel
theorem dL_law_826 : decode cL_law 826 = .ok (.iload 26, 2) := by decide +kernel
theorem dL_law_828 : decode cL_law 828 = .ok (.aaload, 1) := by decide +kernel
theorem dL_law_829 : decode cL_law 829 = .ok (.astore 27, 2) := by decide +kernel
theorem dL_law_831 : decode cL_law 831 = .ok (.iload 23, 2) := by decide +kernel
theorem dL_law_833 : decode cL_law 833 = .ok (.ifCond .ne 21, 3) := by decide +kernel
theorem dL_law_836 : decode cL_law 836 = .ok (.aload 27, 2) := by decide +kernel
theorem dL_law_838 : decode cL_law 838 = .ok (.iconst 0, 1) := by decide +kernel
theorem dL_law_839 : decode cL_law 839 = .ok (.iaload, 1) := by decide +kernel
theorem dL_law_840 : decode cL_law 840 = .ok (.iload 19, 2) := by decide +kernel
theorem dL_law_842 : decode cL_law 842 = .ok (.if_icmp .eq 12, 3) := by decide +kernel
theorem dL_law_845 : decode cL_law 845 = .ok (.aload 27, 2) := by decide +kernel
theorem dL_law_847 : decode cL_law 847 = .ok (.iconst 1, 1) := by decide +kernel
theorem dL_law_848 : decode cL_law 848 = .ok (.iaload, 1) := by decide +kernel
theorem dL_law_849 : decode cL_law 849 = .ok (.iload 19, 2) := by decide +kernel
theorem dL_law_851 : decode cL_law 851 = .ok (.if_icmp .ne 7, 3) := by decide +kernel
theorem dL_law_854 : decode cL_law 854 = .ok (.iconst 1, 1) := by decide +kernel
theorem dL_law_855 : decode cL_law 855 = .ok (.goto 4, 3) := by decide +kernel
theorem dL_law_858 : decode cL_law 858 = .ok (.iconst 0, 1) := by decide +kernel
theorem dL_law_859 : decode cL_law 859 = .ok (.istore 23, 2) := by decide +kernel
theorem dL_law_861 : decode cL_law 861 = .ok (.iinc 26 1, 3) := by decide +kernel
theorem dL_law_864 : decode cL_law 864 = .ok (.goto (-47), 3) := by decide +kernel
theorem dL_law_867 : decode cL_law 867 = .ok (.iload 23, 2) := by decide +kernel
theorem dL_law_869 : decode cL_law 869 = .ok (.ifCond .ne 34, 3) := by decide +kernel
theorem dL_law_872 : decode cL_law 872 = .ok (.iload 21, 2) := by decide +kernel
theorem dL_law_874 : decode cL_law 874 = .ok (.ifCond .le 8, 3) := by decide +kernel
theorem dL_law_877 : decode cL_law 877 = .ok (.iload 20, 2) := by decide +kernel
theorem dL_law_879 : decode cL_law 879 = .ok (.ifCond .ne 22, 3) := by decide +kernel
theorem dL_law_882 : decode cL_law 882 = .ok (.iload 22, 2) := by decide +kernel
theorem dL_law_884 : decode cL_law 884 = .ok (.ifCond .le 19, 3) := by decide +kernel
theorem dL_law_887 : decode cL_law 887 = .ok (.iconst 2, 1) := by decide +kernel
theorem dL_law_888 : decode cL_law 888 = .ok (.iload 20, 2) := by decide +kernel
theorem dL_law_890 : decode cL_law 890 = .ok (.imul, 1) := by decide +kernel
theorem dL_law_891 : decode cL_law 891 = .ok (.aload 6, 2) := by decide +kernel
theorem dL_law_893 : decode cL_law 893 = .ok (.iload 19, 2) := by decide +kernel
theorem dL_law_895 : decode cL_law 895 = .ok (.aaload, 1) := by decide +kernel
theorem dL_law_896 : decode cL_law 896 = .ok (.iconst 1, 1) := by decide +kernel
theorem dL_law_897 : decode cL_law 897 = .ok (.iaload, 1) := by decide +kernel
theorem dL_law_898 : decode cL_law 898 = .ok (.if_icmp .ge 5, 3) := by decide +kernel
theorem dL_law_901 : decode cL_law 901 = .ok (.iconst 0, 1) := by decide +kernel
theorem dL_law_902 : decode cL_law 902 = .ok (.ireturn, 1) := by decide +kernel
theorem dL_law_903 : decode cL_law 903 = .ok (.iconst 0, 1) := by decide +kernel
theorem dL_law_904 : decode cL_law 904 = .ok (.istore 24, 2) := by decide +kernel
theorem dL_law_906 : decode cL_law 906 = .ok (.iload 24, 2) := by decide +kernel
theorem dL_law_908 : decode cL_law 908 = .ok (.iload_n 3, 1) := by decide +kernel
theorem dL_law_909 : decode cL_law 909 = .ok (.if_icmp .ge 157, 3) := by decide +kernel
theorem dL_law_912 : decode cL_law 912 = .ok (.aload_n 1, 1) := by decide +kernel
theorem dL_law_913 : decode cL_law 913 = .ok (.iload 19, 2) := by decide +kernel
theorem dL_law_915 : decode cL_law 915 = .ok (.iload 24, 2) := by decide +kernel
theorem dL_law_917 : decode cL_law 917 = .ok (.invokevirtual 109, 3) := by decide +kernel
theorem dL_law_920 : decode cL_law 920 = .ok (.aload 8, 2) := by decide +kernel
theorem dL_law_922 : decode cL_law 922 = .ok (.iload 19, 2) := by decide +kernel
theorem dL_law_924 : decode cL_law 924 = .ok (.aaload, 1) := by decide +kernel
theorem dL_law_925 : decode cL_law 925 = .ok (.iload 24, 2) := by decide +kernel
theorem dL_law_927 : decode cL_law 927 = .ok (.iaload, 1) := by decide +kernel
theorem dL_law_928 : decode cL_law 928 = .ok (.isub, 1) := by decide +kernel
theorem dL_law_929 : decode cL_law 929 = .ok (.istore 25, 2) := by decide +kernel
theorem dL_law_931 : decode cL_law 931 = .ok (.aload_n 1, 1) := by decide +kernel
theorem dL_law_932 : decode cL_law 932 = .ok (.iload 19, 2) := by decide +kernel
theorem dL_law_934 : decode cL_law 934 = .ok (.iload 24, 2) := by decide +kernel
theorem dL_law_936 : decode cL_law 936 = .ok (.invokevirtual 109, 3) := by decide +kernel
theorem dL_law_939 : decode cL_law 939 = .ok (.aload_n 1, 1) := by decide +kernel
theorem dL_law_940 : decode cL_law 940 = .ok (.iload 24, 2) := by decide +kernel
theorem dL_law_942 : decode cL_law 942 = .ok (.iload 19, 2) := by decide +kernel
theorem dL_law_944 : decode cL_law 944 = .ok (.invokevirtual 109, 3) := by decide +kernel
theorem dL_law_947 : decode cL_law 947 = .ok (.ineg, 1) := by decide +kernel
theorem dL_law_948 : decode cL_law 948 = .ok (.if_icmp .eq 5, 3) := by decide +kernel
theorem dL_law_951 : decode cL_law 951 = .ok (.iconst 0, 1) := by decide +kernel
theorem dL_law_952 : decode cL_law 952 = .ok (.ireturn, 1) := by decide +kernel
theorem dL_law_953 : decode cL_law 953 = .ok (.iconst 0, 1) := by decide +kernel
theorem dL_law_954 : decode cL_law 954 = .ok (.istore 26, 2) := by decide +kernel
theorem dL_law_956 : decode cL_law 956 = .ok (.aload_n 2, 1) := by decide +kernel
theorem dL_law_957 : decode cL_law 957 = .ok (.getfield 81, 3) := by decide +kernel
theorem dL_law_960 : decode cL_law 960 = .ok (.astore 27, 2) := by decide +kernel
theorem dL_law_962 : decode cL_law 962 = .ok (.aload 27, 2) := by decide +kernel
theorem dL_law_964 : decode cL_law 964 = .ok (.arraylength, 1) := by decide +kernel
theorem dL_law_965 : decode cL_law 965 = .ok (.istore 28, 2) := by decide +kernel
theorem dL_law_967 : decode cL_law 967 = .ok (.iconst 0, 1) := by decide +kernel
theorem dL_law_968 : decode cL_law 968 = .ok (.istore 29, 2) := by decide +kernel
theorem dL_law_970 : decode cL_law 970 = .ok (.iload 29, 2) := by decide +kernel
theorem dL_law_972 : decode cL_law 972 = .ok (.iload 28, 2) := by decide +kernel
theorem dL_law_974 : decode cL_law 974 = .ok (.if_icmp .ge 69, 3) := by decide +kernel
theorem dL_law_977 : decode cL_law 977 = .ok (.aload 27, 2) := by decide +kernel
theorem dL_law_979 : decode cL_law 979 = .ok (.iload 29, 2) := by decide +kernel
theorem dL_law_981 : decode cL_law 981 = .ok (.aaload, 1) := by decide +kernel
theorem dL_law_982 : decode cL_law 982 = .ok (.astore 30, 2) := by decide +kernel
theorem dL_law_984 : decode cL_law 984 = .ok (.aload 30, 2) := by decide +kernel
theorem dL_law_986 : decode cL_law 986 = .ok (.iconst 3, 1) := by decide +kernel
theorem dL_law_987 : decode cL_law 987 = .ok (.iaload, 1) := by decide +kernel
theorem dL_law_988 : decode cL_law 988 = .ok (.iconst 1, 1) := by decide +kernel
theorem dL_law_989 : decode cL_law 989 = .ok (.if_icmp .ne 48, 3) := by decide +kernel
theorem dL_law_992 : decode cL_law 992 = .ok (.aload 30, 2) := by decide +kernel
theorem dL_law_994 : decode cL_law 994 = .ok (.iconst 0, 1) := by decide +kernel
theorem dL_law_995 : decode cL_law 995 = .ok (.iaload, 1) := by decide +kernel
theorem dL_law_996 : decode cL_law 996 = .ok (.iload 19, 2) := by decide +kernel
theorem dL_law_998 : decode cL_law 998 = .ok (.if_icmp .ne 12, 3) := by decide +kernel
theorem dL_law_1001 : decode cL_law 1001 = .ok (.aload 30, 2) := by decide +kernel
theorem dL_law_1003 : decode cL_law 1003 = .ok (.iconst 1, 1) := by decide +kernel
theorem dL_law_1004 : decode cL_law 1004 = .ok (.iaload, 1) := by decide +kernel
theorem dL_law_1005 : decode cL_law 1005 = .ok (.iload 24, 2) := by decide +kernel
theorem dL_law_1007 : decode cL_law 1007 = .ok (.if_icmp .eq 21, 3) := by decide +kernel
theorem dL_law_1010 : decode cL_law 1010 = .ok (.aload 30, 2) := by decide +kernel
theorem dL_law_1012 : decode cL_law 1012 = .ok (.iconst 0, 1) := by decide +kernel
theorem dL_law_1013 : decode cL_law 1013 = .ok (.iaload, 1) := by decide +kernel
theorem dL_law_1014 : decode cL_law 1014 = .ok (.iload 24, 2) := by decide +kernel
theorem dL_law_1016 : decode cL_law 1016 = .ok (.if_icmp .ne 21, 3) := by decide +kernel
theorem dL_law_1019 : decode cL_law 1019 = .ok (.aload 30, 2) := by decide +kernel
theorem dL_law_1021 : decode cL_law 1021 = .ok (.iconst 1, 1) := by decide +kernel
theorem dL_law_1022 : decode cL_law 1022 = .ok (.iaload, 1) := by decide +kernel
theorem dL_law_1023 : decode cL_law 1023 = .ok (.iload 19, 2) := by decide +kernel
theorem dL_law_1025 : decode cL_law 1025 = .ok (.if_icmp .ne 12, 3) := by decide +kernel
theorem dL_law_1028 : decode cL_law 1028 = .ok (.iload 26, 2) := by decide +kernel
theorem dL_law_1030 : decode cL_law 1030 = .ok (.aload 30, 2) := by decide +kernel
theorem dL_law_1032 : decode cL_law 1032 = .ok (.iconst 2, 1) := by decide +kernel
theorem dL_law_1033 : decode cL_law 1033 = .ok (.iaload, 1) := by decide +kernel
theorem dL_law_1034 : decode cL_law 1034 = .ok (.iadd, 1) := by decide +kernel
theorem dL_law_1035 : decode cL_law 1035 = .ok (.istore 26, 2) := by decide +kernel
theorem dL_law_1037 : decode cL_law 1037 = .ok (.iinc 29 1, 3) := by decide +kernel
theorem dL_law_1040 : decode cL_law 1040 = .ok (.goto (-70), 3) := by decide +kernel
theorem dL_law_1043 : decode cL_law 1043 = .ok (.iload 25, 2) := by decide +kernel
theorem dL_law_1045 : decode cL_law 1045 = .ok (.iload 26, 2) := by decide +kernel
theorem dL_law_1047 : decode cL_law 1047 = .ok (.if_icmp .gt 11, 3) := by decide +kernel
theorem dL_law_1050 : decode cL_law 1050 = .ok (.iload 25, 2) := by decide +kernel
theorem dL_law_1052 : decode cL_law 1052 = .ok (.ineg, 1) := by decide +kernel
theorem dL_law_1053 : decode cL_law 1053 = .ok (.iload 26, 2) := by decide +kernel
theorem dL_law_1055 : decode cL_law 1055 = .ok (.if_icmp .le 5, 3) := by decide +kernel
theorem dL_law_1058 : decode cL_law 1058 = .ok (.iconst 0, 1) := by decide +kernel
theorem dL_law_1059 : decode cL_law 1059 = .ok (.ireturn, 1) := by decide +kernel
theorem dL_law_1060 : decode cL_law 1060 = .ok (.iinc 24 1, 3) := by decide +kernel
theorem dL_law_1063 : decode cL_law 1063 = .ok (.goto (-157), 3) := by decide +kernel
theorem dL_law_1066 : decode cL_law 1066 = .ok (.iinc 19 1, 3) := by decide +kernel
theorem dL_law_1069 : decode cL_law 1069 = .ok (.goto (-527), 3) := by decide +kernel
theorem dL_law_1072 : decode cL_law 1072 = .ok (.aload_n 1, 1) := by decide +kernel
theorem dL_law_1073 : decode cL_law 1073 = .ok (.iconst 5, 1) := by decide +kernel
theorem dL_law_1074 : decode cL_law 1074 = .ok (.invokevirtual 118, 3) := by decide +kernel
theorem dL_law_1077 : decode cL_law 1077 = .ok (.aload 14, 2) := by decide +kernel
theorem dL_law_1079 : decode cL_law 1079 = .ok (.iconst 5, 1) := by decide +kernel
theorem dL_law_1080 : decode cL_law 1080 = .ok (.iaload, 1) := by decide +kernel
theorem dL_law_1081 : decode cL_law 1081 = .ok (.iload 17, 2) := by decide +kernel
theorem dL_law_1083 : decode cL_law 1083 = .ok (.iadd, 1) := by decide +kernel
theorem dL_law_1084 : decode cL_law 1084 = .ok (.if_icmp .ne 23, 3) := by decide +kernel
theorem dL_law_1087 : decode cL_law 1087 = .ok (.aload_n 1, 1) := by decide +kernel
theorem dL_law_1088 : decode cL_law 1088 = .ok (.bipush 7, 2) := by decide +kernel
theorem dL_law_1090 : decode cL_law 1090 = .ok (.invokevirtual 118, 3) := by decide +kernel
theorem dL_law_1093 : decode cL_law 1093 = .ok (.aload 14, 2) := by decide +kernel
theorem dL_law_1095 : decode cL_law 1095 = .ok (.bipush 7, 2) := by decide +kernel
theorem dL_law_1097 : decode cL_law 1097 = .ok (.iaload, 1) := by decide +kernel
theorem dL_law_1098 : decode cL_law 1098 = .ok (.iload 18, 2) := by decide +kernel
theorem dL_law_1100 : decode cL_law 1100 = .ok (.iadd, 1) := by decide +kernel
theorem dL_law_1101 : decode cL_law 1101 = .ok (.iload 16, 2) := by decide +kernel
theorem dL_law_1103 : decode cL_law 1103 = .ok (.isub, 1) := by decide +kernel
theorem dL_law_1104 : decode cL_law 1104 = .ok (.if_icmp .eq 5, 3) := by decide +kernel
theorem dL_law_1107 : decode cL_law 1107 = .ok (.iconst 0, 1) := by decide +kernel
theorem dL_law_1108 : decode cL_law 1108 = .ok (.ireturn, 1) := by decide +kernel
theorem dL_law_1109 : decode cL_law 1109 = .ok (.iconst 0, 1) := by decide +kernel
theorem dL_law_1110 : decode cL_law 1110 = .ok (.istore 19, 2) := by decide +kernel
theorem dL_law_1112 : decode cL_law 1112 = .ok (.iload 19, 2) := by decide +kernel
theorem dL_law_1114 : decode cL_law 1114 = .ok (.aload 7, 2) := by decide +kernel
theorem dL_law_1116 : decode cL_law 1116 = .ok (.arraylength, 1) := by decide +kernel
theorem dL_law_1117 : decode cL_law 1117 = .ok (.if_icmp .ge 58, 3) := by decide +kernel
theorem dL_law_1120 : decode cL_law 1120 = .ok (.aload_n 1, 1) := by decide +kernel
theorem dL_law_1121 : decode cL_law 1121 = .ok (.iload 19, 2) := by decide +kernel
theorem dL_law_1123 : decode cL_law 1123 = .ok (.iconst 4, 1) := by decide +kernel
theorem dL_law_1124 : decode cL_law 1124 = .ok (.invokevirtual 106, 3) := by decide +kernel
theorem dL_law_1127 : decode cL_law 1127 = .ok (.aload 7, 2) := by decide +kernel
theorem dL_law_1129 : decode cL_law 1129 = .ok (.iload 19, 2) := by decide +kernel
theorem dL_law_1131 : decode cL_law 1131 = .ok (.iaload, 1) := by decide +kernel
theorem dL_law_1132 : decode cL_law 1132 = .ok (.isub, 1) := by decide +kernel
theorem dL_law_1133 : decode cL_law 1133 = .ok (.istore 20, 2) := by decide +kernel
theorem dL_law_1135 : decode cL_law 1135 = .ok (.iload 20, 2) := by decide +kernel
theorem dL_law_1137 : decode cL_law 1137 = .ok (.ifCond .lt 30, 3) := by decide +kernel
theorem dL_law_1140 : decode cL_law 1140 = .ok (.iload 20, 2) := by decide +kernel
theorem dL_law_1142 : decode cL_law 1142 = .ok (.aload_n 1, 1) := by decide +kernel
theorem dL_law_1143 : decode cL_law 1143 = .ok (.iload 19, 2) := by decide +kernel
theorem dL_law_1145 : decode cL_law 1145 = .ok (.iconst 2, 1) := by decide +kernel
theorem dL_law_1146 : decode cL_law 1146 = .ok (.invokevirtual 106, 3) := by decide +kernel
theorem dL_law_1149 : decode cL_law 1149 = .ok (.if_icmp .gt 18, 3) := by decide +kernel
theorem dL_law_1152 : decode cL_law 1152 = .ok (.aload_n 1, 1) := by decide +kernel
theorem dL_law_1153 : decode cL_law 1153 = .ok (.iload 19, 2) := by decide +kernel
theorem dL_law_1155 : decode cL_law 1155 = .ok (.iconst 3, 1) := by decide +kernel
theorem dL_law_1156 : decode cL_law 1156 = .ok (.invokevirtual 106, 3) := by decide +kernel
theorem dL_law_1159 : decode cL_law 1159 = .ok (.ifCond .ne 10, 3) := by decide +kernel
theorem dL_law_1162 : decode cL_law 1162 = .ok (.iload 20, 2) := by decide +kernel
theorem dL_law_1164 : decode cL_law 1164 = .ok (.ifCond .eq 5, 3) := by decide +kernel
theorem dL_law_1167 : decode cL_law 1167 = .ok (.iconst 0, 1) := by decide +kernel
theorem dL_law_1168 : decode cL_law 1168 = .ok (.ireturn, 1) := by decide +kernel
theorem dL_law_1169 : decode cL_law 1169 = .ok (.iinc 19 1, 3) := by decide +kernel
theorem dL_law_1172 : decode cL_law 1172 = .ok (.goto (-60), 3) := by decide +kernel
theorem dL_law_1175 : decode cL_law 1175 = .ok (.iinc 4 1, 3) := by decide +kernel
theorem dL_law_1178 : decode cL_law 1178 = .ok (.goto (-1149), 3) := by decide +kernel
theorem dL_law_1181 : decode cL_law 1181 = .ok (.aload_n 2, 1) := by decide +kernel
theorem dL_law_1182 : decode cL_law 1182 = .ok (.aload_n 1, 1) := by decide +kernel
theorem dL_law_1183 : decode cL_law 1183 = .ok (.invokevirtual 135, 3) := by decide +kernel
theorem dL_law_1186 : decode cL_law 1186 = .ok (.ireturn, 1) := by decide +kernel
