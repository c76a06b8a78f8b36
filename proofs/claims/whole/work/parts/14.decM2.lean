theorem dX3_sizes_0 : decode cX3_sizes 0 = .ok (.aload_n 0, 1) := by decide +kernel
theorem dX3_sizes_1 : decode cX3_sizes 1 = .ok (.lload_n 1, 1) := by decide +kernel
theorem dX3_sizes_2 : decode cX3_sizes 2 = .ok (.lconst 0, 1) := by decide +kernel
theorem dX3_sizes_3 : decode cX3_sizes 3 = .ok (.lcmp, 1) := by decide +kernel
theorem dX3_sizes_4 : decode cX3_sizes 4 = .ok (.ifCond .le 7, 3) := by decide +kernel
theorem dX3_sizes_7 : decode cX3_sizes 7 = .ok (.lload_n 1, 1) := by decide +kernel
theorem dX3_sizes_8 : decode cX3_sizes 8 = .ok (.goto 15, 3) := by decide +kernel
theorem dX3_sizes_11 : decode cX3_sizes 11 = .ok (.lload_n 3, 1) := by decide +kernel
theorem dX3_sizes_12 : decode cX3_sizes 12 = .ok (.lconst 0, 1) := by decide +kernel
theorem dX3_sizes_13 : decode cX3_sizes 13 = .ok (.lcmp, 1) := by decide +kernel
theorem dX3_sizes_14 : decode cX3_sizes 14 = .ok (.ifCond .ge 8, 3) := by decide +kernel
theorem dX3_sizes_17 : decode cX3_sizes 17 = .ok (.lload_n 3, 1) := by decide +kernel
theorem dX3_sizes_18 : decode cX3_sizes 18 = .ok (.lneg, 1) := by decide +kernel
theorem dX3_sizes_19 : decode cX3_sizes 19 = .ok (.goto 4, 3) := by decide +kernel
theorem dX3_sizes_22 : decode cX3_sizes 22 = .ok (.lconst 0, 1) := by decide +kernel
theorem dX3_sizes_23 : decode cX3_sizes 23 = .ok (.putfield 63, 3) := by decide +kernel
theorem dX3_sizes_26 : decode cX3_sizes 26 = .ok (.aload_n 0, 1) := by decide +kernel
theorem dX3_sizes_27 : decode cX3_sizes 27 = .ok (.lload_n 1, 1) := by decide +kernel
theorem dX3_sizes_28 : decode cX3_sizes 28 = .ok (.lneg, 1) := by decide +kernel
theorem dX3_sizes_29 : decode cX3_sizes 29 = .ok (.lload_n 3, 1) := by decide +kernel
theorem dX3_sizes_30 : decode cX3_sizes 30 = .ok (.invokestatic 113, 3) := by decide +kernel
theorem dX3_sizes_33 : decode cX3_sizes 33 = .ok (.putfield 67, 3) := by decide +kernel
theorem dX3_sizes_36 : decode cX3_sizes 36 = .ok (.return_, 1) := by decide +kernel
theorem dX3_two_0 : decode cX3_two 0 = .ok (.aload_n 0, 1) := by decide +kernel
theorem dX3_two_1 : decode cX3_two 1 = .ok (.aload_n 0, 1) := by decide +kernel
theorem dX3_two_2 : decode cX3_two 2 = .ok (.getfield 16, 3) := by decide +kernel
theorem dX3_two_5 : decode cX3_two 5 = .ok (.iload_n 2, 1) := by decide +kernel
theorem dX3_two_6 : decode cX3_two 6 = .ok (.baload, 1) := by decide +kernel
theorem dX3_two_7 : decode cX3_two 7 = .ok (.ifCond .eq 16, 3) := by decide +kernel
theorem dX3_two_10 : decode cX3_two 10 = .ok (.aload_n 0, 1) := by decide +kernel
theorem dX3_two_11 : decode cX3_two 11 = .ok (.getfield 16, 3) := by decide +kernel
theorem dX3_two_14 : decode cX3_two 14 = .ok (.iload_n 3, 1) := by decide +kernel
theorem dX3_two_15 : decode cX3_two 15 = .ok (.baload, 1) := by decide +kernel
theorem dX3_two_16 : decode cX3_two 16 = .ok (.ifCond .eq 7, 3) := by decide +kernel
theorem dX3_two_19 : decode cX3_two 19 = .ok (.iconst 1, 1) := by decide +kernel
theorem dX3_two_20 : decode cX3_two 20 = .ok (.goto 4, 3) := by decide +kernel
theorem dX3_two_23 : decode cX3_two 23 = .ok (.iconst 0, 1) := by decide +kernel
theorem dX3_two_24 : decode cX3_two 24 = .ok (.putfield 59, 3) := by decide +kernel
theorem dX3_two_27 : decode cX3_two 27 = .ok (.iload_n 1, 1) := by decide +kernel
theorem dX3_two_28 : decode cX3_two 28 = .ok (.iconst 4, 1) := by decide +kernel
theorem dX3_two_29 : decode cX3_two 29 = .ok (.if_icmp .ne 59, 3) := by decide +kernel
theorem dX3_two_32 : decode cX3_two 32 = .ok (.aload_n 0, 1) := by decide +kernel
theorem dX3_two_33 : decode cX3_two 33 = .ok (.getfield 59, 3) := by decide +kernel
theorem dX3_two_36 : decode cX3_two 36 = .ok (.ifCond .ne 52, 3) := by decide +kernel
theorem dX3_two_39 : decode cX3_two 39 = .ok (.aload_n 0, 1) := by decide +kernel
theorem dX3_two_40 : decode cX3_two 40 = .ok (.getfield 16, 3) := by decide +kernel
theorem dX3_two_43 : decode cX3_two 43 = .ok (.iload_n 2, 1) := by decide +kernel
theorem dX3_two_44 : decode cX3_two 44 = .ok (.baload, 1) := by decide +kernel
theorem dX3_two_45 : decode cX3_two 45 = .ok (.ifCond .eq 7, 3) := by decide +kernel
theorem dX3_two_48 : decode cX3_two 48 = .ok (.iload_n 2, 1) := by decide +kernel
theorem dX3_two_49 : decode cX3_two 49 = .ok (.goto 4, 3) := by decide +kernel
theorem dX3_two_52 : decode cX3_two 52 = .ok (.iload_n 3, 1) := by decide +kernel
theorem dX3_two_53 : decode cX3_two 53 = .ok (.istore 4, 2) := by decide +kernel
theorem dX3_two_55 : decode cX3_two 55 = .ok (.aload_n 0, 1) := by decide +kernel
theorem dX3_two_56 : decode cX3_two 56 = .ok (.aload_n 0, 1) := by decide +kernel
theorem dX3_two_57 : decode cX3_two 57 = .ok (.getfield 16, 3) := by decide +kernel
theorem dX3_two_60 : decode cX3_two 60 = .ok (.iload 4, 2) := by decide +kernel
theorem dX3_two_62 : decode cX3_two 62 = .ok (.baload, 1) := by decide +kernel
theorem dX3_two_63 : decode cX3_two 63 = .ok (.putfield 59, 3) := by decide +kernel
theorem dX3_two_66 : decode cX3_two 66 = .ok (.aload_n 0, 1) := by decide +kernel
theorem dX3_two_67 : decode cX3_two 67 = .ok (.aload_n 0, 1) := by decide +kernel
theorem dX3_two_68 : decode cX3_two 68 = .ok (.getfield 20, 3) := by decide +kernel
theorem dX3_two_71 : decode cX3_two 71 = .ok (.iload 4, 2) := by decide +kernel
theorem dX3_two_73 : decode cX3_two 73 = .ok (.laload, 1) := by decide +kernel
theorem dX3_two_74 : decode cX3_two 74 = .ok (.putfield 63, 3) := by decide +kernel
theorem dX3_two_77 : decode cX3_two 77 = .ok (.aload_n 0, 1) := by decide +kernel
theorem dX3_two_78 : decode cX3_two 78 = .ok (.aload_n 0, 1) := by decide +kernel
theorem dX3_two_79 : decode cX3_two 79 = .ok (.getfield 24, 3) := by decide +kernel
theorem dX3_two_82 : decode cX3_two 82 = .ok (.iload 4, 2) := by decide +kernel
theorem dX3_two_84 : decode cX3_two 84 = .ok (.laload, 1) := by decide +kernel
theorem dX3_two_85 : decode cX3_two 85 = .ok (.putfield 67, 3) := by decide +kernel
theorem dX3_two_88 : decode cX3_two 88 = .ok (.aload_n 0, 1) := by decide +kernel
theorem dX3_two_89 : decode cX3_two 89 = .ok (.getfield 59, 3) := by decide +kernel
theorem dX3_two_92 : decode cX3_two 92 = .ok (.ifCond .eq 26, 3) := by decide +kernel
theorem dX3_two_95 : decode cX3_two 95 = .ok (.iload_n 1, 1) := by decide +kernel
theorem dX3_two_96 : decode cX3_two 96 = .ok (.iconst 4, 1) := by decide +kernel
theorem dX3_two_97 : decode cX3_two 97 = .ok (.if_icmp .ne 22, 3) := by decide +kernel
theorem dX3_two_100 : decode cX3_two 100 = .ok (.aload_n 0, 1) := by decide +kernel
theorem dX3_two_101 : decode cX3_two 101 = .ok (.getfield 16, 3) := by decide +kernel
theorem dX3_two_104 : decode cX3_two 104 = .ok (.iload_n 2, 1) := by decide +kernel
theorem dX3_two_105 : decode cX3_two 105 = .ok (.baload, 1) := by decide +kernel
theorem dX3_two_106 : decode cX3_two 106 = .ok (.ifCond .eq 12, 3) := by decide +kernel
theorem dX3_two_109 : decode cX3_two 109 = .ok (.aload_n 0, 1) := by decide +kernel
theorem dX3_two_110 : decode cX3_two 110 = .ok (.getfield 16, 3) := by decide +kernel
theorem dX3_two_113 : decode cX3_two 113 = .ok (.iload_n 3, 1) := by decide +kernel
theorem dX3_two_114 : decode cX3_two 114 = .ok (.baload, 1) := by decide +kernel
theorem dX3_two_115 : decode cX3_two 115 = .ok (.ifCond .ne 4, 3) := by decide +kernel
theorem dX3_two_118 : decode cX3_two 118 = .ok (.return_, 1) := by decide +kernel
theorem dX3_two_119 : decode cX3_two 119 = .ok (.aload_n 0, 1) := by decide +kernel
theorem dX3_two_120 : decode cX3_two 120 = .ok (.getfield 20, 3) := by decide +kernel
theorem dX3_two_123 : decode cX3_two 123 = .ok (.iload_n 2, 1) := by decide +kernel
theorem dX3_two_124 : decode cX3_two 124 = .ok (.laload, 1) := by decide +kernel
theorem dX3_two_125 : decode cX3_two 125 = .ok (.lstore 4, 2) := by decide +kernel
theorem dX3_two_127 : decode cX3_two 127 = .ok (.aload_n 0, 1) := by decide +kernel
theorem dX3_two_128 : decode cX3_two 128 = .ok (.getfield 24, 3) := by decide +kernel
theorem dX3_two_131 : decode cX3_two 131 = .ok (.iload_n 2, 1) := by decide +kernel
theorem dX3_two_132 : decode cX3_two 132 = .ok (.laload, 1) := by decide +kernel
theorem dX3_two_133 : decode cX3_two 133 = .ok (.lstore 6, 2) := by decide +kernel
theorem dX3_two_135 : decode cX3_two 135 = .ok (.aload_n 0, 1) := by decide +kernel
theorem dX3_two_136 : decode cX3_two 136 = .ok (.getfield 20, 3) := by decide +kernel
theorem dX3_two_139 : decode cX3_two 139 = .ok (.iload_n 3, 1) := by decide +kernel
theorem dX3_two_140 : decode cX3_two 140 = .ok (.laload, 1) := by decide +kernel
theorem dX3_two_141 : decode cX3_two 141 = .ok (.lstore 8, 2) := by decide +kernel
theorem dX3_two_143 : decode cX3_two 143 = .ok (.aload_n 0, 1) := by decide +kernel
theorem dX3_two_144 : decode cX3_two 144 = .ok (.getfield 24, 3) := by decide +kernel
theorem dX3_two_147 : decode cX3_two 147 = .ok (.iload_n 3, 1) := by decide +kernel
theorem dX3_two_148 : decode cX3_two 148 = .ok (.laload, 1) := by decide +kernel
theorem dX3_two_149 : decode cX3_two 149 = .ok (.lstore 10, 2) := by decide +kernel
theorem dX3_two_151 : decode cX3_two 151 = .ok (.iload_n 1, 1) := by decide +kernel
theorem dX3_two_152 : decode cX3_two 152 = .ok (.tableswitch 213 0 6 #[44, 72, 102, 213, 117, 142, 188], 44) := by decide +kernel
theorem dX3_two_196 : decode cX3_two 196 = .ok (.aload_n 0, 1) := by decide +kernel
theorem dX3_two_197 : decode cX3_two 197 = .ok (.lload 4, 2) := by decide +kernel
theorem dX3_two_199 : decode cX3_two 199 = .ok (.lload 8, 2) := by decide +kernel
theorem dX3_two_201 : decode cX3_two 201 = .ok (.ldc2_w 57, 3) := by decide +kernel
theorem dX3_two_204 : decode cX3_two 204 = .ok (.invokestatic 116, 3) := by decide +kernel
theorem dX3_two_207 : decode cX3_two 207 = .ok (.lload 6, 2) := by decide +kernel
theorem dX3_two_209 : decode cX3_two 209 = .ok (.lload 10, 2) := by decide +kernel
theorem dX3_two_211 : decode cX3_two 211 = .ok (.ldc2_w 36, 3) := by decide +kernel
theorem dX3_two_214 : decode cX3_two 214 = .ok (.invokestatic 116, 3) := by decide +kernel
theorem dX3_two_217 : decode cX3_two 217 = .ok (.lconst 1, 1) := by decide +kernel
theorem dX3_two_218 : decode cX3_two 218 = .ok (.invokevirtual 89, 3) := by decide +kernel
theorem dX3_two_221 : decode cX3_two 221 = .ok (.goto 166, 3) := by decide +kernel
theorem dX3_two_224 : decode cX3_two 224 = .ok (.aload_n 0, 1) := by decide +kernel
theorem dX3_two_225 : decode cX3_two 225 = .ok (.lload 4, 2) := by decide +kernel
theorem dX3_two_227 : decode cX3_two 227 = .ok (.lload 10, 2) := by decide +kernel
theorem dX3_two_229 : decode cX3_two 229 = .ok (.lneg, 1) := by decide +kernel
theorem dX3_two_230 : decode cX3_two 230 = .ok (.ldc2_w 57, 3) := by decide +kernel
theorem dX3_two_233 : decode cX3_two 233 = .ok (.invokestatic 116, 3) := by decide +kernel
theorem dX3_two_236 : decode cX3_two 236 = .ok (.lload 6, 2) := by decide +kernel
theorem dX3_two_238 : decode cX3_two 238 = .ok (.lload 8, 2) := by decide +kernel
theorem dX3_two_240 : decode cX3_two 240 = .ok (.lneg, 1) := by decide +kernel
theorem dX3_two_241 : decode cX3_two 241 = .ok (.ldc2_w 36, 3) := by decide +kernel
theorem dX3_two_244 : decode cX3_two 244 = .ok (.invokestatic 116, 3) := by decide +kernel
theorem dX3_two_247 : decode cX3_two 247 = .ok (.lconst 1, 1) := by decide +kernel
theorem dX3_two_248 : decode cX3_two 248 = .ok (.invokevirtual 89, 3) := by decide +kernel
theorem dX3_two_251 : decode cX3_two 251 = .ok (.goto 136, 3) := by decide +kernel
theorem dX3_two_254 : decode cX3_two 254 = .ok (.aload_n 0, 1) := by decide +kernel
theorem dX3_two_255 : decode cX3_two 255 = .ok (.lload 4, 2) := by decide +kernel
theorem dX3_two_257 : decode cX3_two 257 = .ok (.lload 6, 2) := by decide +kernel
theorem dX3_two_259 : decode cX3_two 259 = .ok (.lload 8, 2) := by decide +kernel
theorem dX3_two_261 : decode cX3_two 261 = .ok (.lload 10, 2) := by decide +kernel
theorem dX3_two_263 : decode cX3_two 263 = .ok (.invokevirtual 120, 3) := by decide +kernel
theorem dX3_two_266 : decode cX3_two 266 = .ok (.goto 121, 3) := by decide +kernel
theorem dX3_two_269 : decode cX3_two 269 = .ok (.aload_n 0, 1) := by decide +kernel
theorem dX3_two_270 : decode cX3_two 270 = .ok (.lload 4, 2) := by decide +kernel
theorem dX3_two_272 : decode cX3_two 272 = .ok (.lload 8, 2) := by decide +kernel
theorem dX3_two_274 : decode cX3_two 274 = .ok (.invokestatic 123, 3) := by decide +kernel
theorem dX3_two_277 : decode cX3_two 277 = .ok (.putfield 63, 3) := by decide +kernel
theorem dX3_two_280 : decode cX3_two 280 = .ok (.aload_n 0, 1) := by decide +kernel
theorem dX3_two_281 : decode cX3_two 281 = .ok (.lload 6, 2) := by decide +kernel
theorem dX3_two_283 : decode cX3_two 283 = .ok (.lload 10, 2) := by decide +kernel
theorem dX3_two_285 : decode cX3_two 285 = .ok (.invokestatic 113, 3) := by decide +kernel
theorem dX3_two_288 : decode cX3_two 288 = .ok (.putfield 67, 3) := by decide +kernel
theorem dX3_two_291 : decode cX3_two 291 = .ok (.goto 96, 3) := by decide +kernel
theorem dX3_two_294 : decode cX3_two 294 = .ok (.aload_n 0, 1) := by decide +kernel
theorem dX3_two_295 : decode cX3_two 295 = .ok (.lload 4, 2) := by decide +kernel
theorem dX3_two_297 : decode cX3_two 297 = .ok (.lload 8, 2) := by decide +kernel
theorem dX3_two_299 : decode cX3_two 299 = .ok (.invokestatic 113, 3) := by decide +kernel
theorem dX3_two_302 : decode cX3_two 302 = .ok (.putfield 63, 3) := by decide +kernel
theorem dX3_two_305 : decode cX3_two 305 = .ok (.aload_n 0, 1) := by decide +kernel
theorem dX3_two_306 : decode cX3_two 306 = .ok (.lload 6, 2) := by decide +kernel
theorem dX3_two_308 : decode cX3_two 308 = .ok (.lload 10, 2) := by decide +kernel
theorem dX3_two_310 : decode cX3_two 310 = .ok (.invokestatic 123, 3) := by decide +kernel
theorem dX3_two_313 : decode cX3_two 313 = .ok (.putfield 67, 3) := by decide +kernel
theorem dX3_two_316 : decode cX3_two 316 = .ok (.aload_n 0, 1) := by decide +kernel
theorem dX3_two_317 : decode cX3_two 317 = .ok (.aload_n 0, 1) := by decide +kernel
theorem dX3_two_318 : decode cX3_two 318 = .ok (.getfield 63, 3) := by decide +kernel
theorem dX3_two_321 : decode cX3_two 321 = .ok (.aload_n 0, 1) := by decide +kernel
theorem dX3_two_322 : decode cX3_two 322 = .ok (.getfield 67, 3) := by decide +kernel
theorem dX3_two_325 : decode cX3_two 325 = .ok (.lcmp, 1) := by decide +kernel
theorem dX3_two_326 : decode cX3_two 326 = .ok (.ifCond .gt 7, 3) := by decide +kernel
theorem dX3_two_329 : decode cX3_two 329 = .ok (.iconst 1, 1) := by decide +kernel
theorem dX3_two_330 : decode cX3_two 330 = .ok (.goto 4, 3) := by decide +kernel
theorem dX3_two_333 : decode cX3_two 333 = .ok (.iconst 0, 1) := by decide +kernel
theorem dX3_two_334 : decode cX3_two 334 = .ok (.putfield 59, 3) := by decide +kernel
theorem dX3_two_337 : decode cX3_two 337 = .ok (.goto 50, 3) := by decide +kernel
theorem dX3_two_340 : decode cX3_two 340 = .ok (.aload_n 0, 1) := by decide +kernel
theorem dX3_two_341 : decode cX3_two 341 = .ok (.lload 4, 2) := by decide +kernel
theorem dX3_two_343 : decode cX3_two 343 = .ok (.lload 8, 2) := by decide +kernel
theorem dX3_two_345 : decode cX3_two 345 = .ok (.invokestatic 123, 3) := by decide +kernel
theorem dX3_two_348 : decode cX3_two 348 = .ok (.putfield 63, 3) := by decide +kernel
theorem dX3_two_351 : decode cX3_two 351 = .ok (.aload_n 0, 1) := by decide +kernel
theorem dX3_two_352 : decode cX3_two 352 = .ok (.lload 6, 2) := by decide +kernel
theorem dX3_two_354 : decode cX3_two 354 = .ok (.lload 10, 2) := by decide +kernel
theorem dX3_two_356 : decode cX3_two 356 = .ok (.invokestatic 123, 3) := by decide +kernel
theorem dX3_two_359 : decode cX3_two 359 = .ok (.putfield 67, 3) := by decide +kernel
theorem dX3_two_362 : decode cX3_two 362 = .ok (.goto 25, 3) := by decide +kernel
theorem dX3_two_365 : decode cX3_two 365 = .ok (.aload_n 0, 1) := by decide +kernel
theorem dX3_two_366 : decode cX3_two 366 = .ok (.lload 4, 2) := by decide +kernel
theorem dX3_two_368 : decode cX3_two 368 = .ok (.lload 8, 2) := by decide +kernel
theorem dX3_two_370 : decode cX3_two 370 = .ok (.invokestatic 113, 3) := by decide +kernel
theorem dX3_two_373 : decode cX3_two 373 = .ok (.putfield 63, 3) := by decide +kernel
theorem dX3_two_376 : decode cX3_two 376 = .ok (.aload_n 0, 1) := by decide +kernel
theorem dX3_two_377 : decode cX3_two 377 = .ok (.lload 6, 2) := by decide +kernel
theorem dX3_two_379 : decode cX3_two 379 = .ok (.lload 10, 2) := by decide +kernel
theorem dX3_two_381 : decode cX3_two 381 = .ok (.invokestatic 113, 3) := by decide +kernel
theorem dX3_two_384 : decode cX3_two 384 = .ok (.putfield 67, 3) := by decide +kernel
theorem dX3_two_387 : decode cX3_two 387 = .ok (.return_, 1) := by decide +kernel
theorem dX3_alone_0 : decode cX3_alone 0 = .ok (.aload_n 0, 1) := by decide +kernel
theorem dX3_alone_1 : decode cX3_alone 1 = .ok (.aload_n 0, 1) := by decide +kernel
theorem dX3_alone_2 : decode cX3_alone 2 = .ok (.getfield 16, 3) := by decide +kernel
theorem dX3_alone_5 : decode cX3_alone 5 = .ok (.iload_n 2, 1) := by decide +kernel
theorem dX3_alone_6 : decode cX3_alone 6 = .ok (.baload, 1) := by decide +kernel
theorem dX3_alone_7 : decode cX3_alone 7 = .ok (.putfield 59, 3) := by decide +kernel
theorem dX3_alone_10 : decode cX3_alone 10 = .ok (.aload_n 0, 1) := by decide +kernel
theorem dX3_alone_11 : decode cX3_alone 11 = .ok (.getfield 59, 3) := by decide +kernel
theorem dX3_alone_14 : decode cX3_alone 14 = .ok (.ifCond .ne 4, 3) := by decide +kernel
theorem dX3_alone_17 : decode cX3_alone 17 = .ok (.return_, 1) := by decide +kernel
theorem dX3_alone_18 : decode cX3_alone 18 = .ok (.iload_n 1, 1) := by decide +kernel
theorem dX3_alone_19 : decode cX3_alone 19 = .ok (.tableswitch 154 8 10 #[25, 50, 135], 25) := by decide +kernel
theorem dX3_alone_44 : decode cX3_alone 44 = .ok (.aload_n 0, 1) := by decide +kernel
theorem dX3_alone_45 : decode cX3_alone 45 = .ok (.aload_n 0, 1) := by decide +kernel
theorem dX3_alone_46 : decode cX3_alone 46 = .ok (.getfield 24, 3) := by decide +kernel
theorem dX3_alone_49 : decode cX3_alone 49 = .ok (.iload_n 2, 1) := by decide +kernel
theorem dX3_alone_50 : decode cX3_alone 50 = .ok (.laload, 1) := by decide +kernel
theorem dX3_alone_51 : decode cX3_alone 51 = .ok (.lneg, 1) := by decide +kernel
theorem dX3_alone_52 : decode cX3_alone 52 = .ok (.putfield 63, 3) := by decide +kernel
theorem dX3_alone_55 : decode cX3_alone 55 = .ok (.aload_n 0, 1) := by decide +kernel
theorem dX3_alone_56 : decode cX3_alone 56 = .ok (.aload_n 0, 1) := by decide +kernel
theorem dX3_alone_57 : decode cX3_alone 57 = .ok (.getfield 20, 3) := by decide +kernel
theorem dX3_alone_60 : decode cX3_alone 60 = .ok (.iload_n 2, 1) := by decide +kernel
theorem dX3_alone_61 : decode cX3_alone 61 = .ok (.laload, 1) := by decide +kernel
theorem dX3_alone_62 : decode cX3_alone 62 = .ok (.lneg, 1) := by decide +kernel
theorem dX3_alone_63 : decode cX3_alone 63 = .ok (.putfield 67, 3) := by decide +kernel
theorem dX3_alone_66 : decode cX3_alone 66 = .ok (.goto 123, 3) := by decide +kernel
theorem dX3_alone_69 : decode cX3_alone 69 = .ok (.aload_n 0, 1) := by decide +kernel
theorem dX3_alone_70 : decode cX3_alone 70 = .ok (.aload_n 0, 1) := by decide +kernel
theorem dX3_alone_71 : decode cX3_alone 71 = .ok (.getfield 20, 3) := by decide +kernel
theorem dX3_alone_74 : decode cX3_alone 74 = .ok (.iload_n 2, 1) := by decide +kernel
theorem dX3_alone_75 : decode cX3_alone 75 = .ok (.laload, 1) := by decide +kernel
theorem dX3_alone_76 : decode cX3_alone 76 = .ok (.aload_n 0, 1) := by decide +kernel
theorem dX3_alone_77 : decode cX3_alone 77 = .ok (.getfield 24, 3) := by decide +kernel
theorem dX3_alone_80 : decode cX3_alone 80 = .ok (.iload_n 2, 1) := by decide +kernel
theorem dX3_alone_81 : decode cX3_alone 81 = .ok (.laload, 1) := by decide +kernel
theorem dX3_alone_82 : decode cX3_alone 82 = .ok (.invokevirtual 126, 3) := by decide +kernel
theorem dX3_alone_85 : decode cX3_alone 85 = .ok (.aload_n 0, 1) := by decide +kernel
theorem dX3_alone_86 : decode cX3_alone 86 = .ok (.aload_n 0, 1) := by decide +kernel
theorem dX3_alone_87 : decode cX3_alone 87 = .ok (.getfield 63, 3) := by decide +kernel
theorem dX3_alone_90 : decode cX3_alone 90 = .ok (.aload_n 0, 1) := by decide +kernel
theorem dX3_alone_91 : decode cX3_alone 91 = .ok (.getfield 63, 3) := by decide +kernel
theorem dX3_alone_94 : decode cX3_alone 94 = .ok (.aload_n 0, 1) := by decide +kernel
theorem dX3_alone_95 : decode cX3_alone 95 = .ok (.getfield 63, 3) := by decide +kernel
theorem dX3_alone_98 : decode cX3_alone 98 = .ok (.aload_n 0, 1) := by decide +kernel
theorem dX3_alone_99 : decode cX3_alone 99 = .ok (.getfield 63, 3) := by decide +kernel
theorem dX3_alone_102 : decode cX3_alone 102 = .ok (.invokevirtual 120, 3) := by decide +kernel
theorem dX3_alone_105 : decode cX3_alone 105 = .ok (.aload_n 0, 1) := by decide +kernel
theorem dX3_alone_106 : decode cX3_alone 106 = .ok (.getfield 63, 3) := by decide +kernel
theorem dX3_alone_109 : decode cX3_alone 109 = .ok (.lstore_n 3, 1) := by decide +kernel
theorem dX3_alone_110 : decode cX3_alone 110 = .ok (.aload_n 0, 1) := by decide +kernel
theorem dX3_alone_111 : decode cX3_alone 111 = .ok (.aload_n 0, 1) := by decide +kernel
theorem dX3_alone_112 : decode cX3_alone 112 = .ok (.getfield 20, 3) := by decide +kernel
theorem dX3_alone_115 : decode cX3_alone 115 = .ok (.iload_n 2, 1) := by decide +kernel
theorem dX3_alone_116 : decode cX3_alone 116 = .ok (.laload, 1) := by decide +kernel
theorem dX3_alone_117 : decode cX3_alone 117 = .ok (.aload_n 0, 1) := by decide +kernel
theorem dX3_alone_118 : decode cX3_alone 118 = .ok (.getfield 24, 3) := by decide +kernel
theorem dX3_alone_121 : decode cX3_alone 121 = .ok (.iload_n 2, 1) := by decide +kernel
theorem dX3_alone_122 : decode cX3_alone 122 = .ok (.laload, 1) := by decide +kernel
theorem dX3_alone_123 : decode cX3_alone 123 = .ok (.invokevirtual 126, 3) := by decide +kernel
theorem dX3_alone_126 : decode cX3_alone 126 = .ok (.aload_n 0, 1) := by decide +kernel
theorem dX3_alone_127 : decode cX3_alone 127 = .ok (.aload_n 0, 1) := by decide +kernel
theorem dX3_alone_128 : decode cX3_alone 128 = .ok (.getfield 67, 3) := by decide +kernel
theorem dX3_alone_131 : decode cX3_alone 131 = .ok (.aload_n 0, 1) := by decide +kernel
theorem dX3_alone_132 : decode cX3_alone 132 = .ok (.getfield 67, 3) := by decide +kernel
theorem dX3_alone_135 : decode cX3_alone 135 = .ok (.aload_n 0, 1) := by decide +kernel
theorem dX3_alone_136 : decode cX3_alone 136 = .ok (.getfield 67, 3) := by decide +kernel
theorem dX3_alone_139 : decode cX3_alone 139 = .ok (.aload_n 0, 1) := by decide +kernel
theorem dX3_alone_140 : decode cX3_alone 140 = .ok (.getfield 67, 3) := by decide +kernel
theorem dX3_alone_143 : decode cX3_alone 143 = .ok (.invokevirtual 120, 3) := by decide +kernel
theorem dX3_alone_146 : decode cX3_alone 146 = .ok (.aload_n 0, 1) := by decide +kernel
theorem dX3_alone_147 : decode cX3_alone 147 = .ok (.lload_n 3, 1) := by decide +kernel
theorem dX3_alone_148 : decode cX3_alone 148 = .ok (.putfield 63, 3) := by decide +kernel
theorem dX3_alone_151 : decode cX3_alone 151 = .ok (.goto 38, 3) := by decide +kernel
theorem dX3_alone_154 : decode cX3_alone 154 = .ok (.aload_n 0, 1) := by decide +kernel
theorem dX3_alone_155 : decode cX3_alone 155 = .ok (.aload_n 0, 1) := by decide +kernel
theorem dX3_alone_156 : decode cX3_alone 156 = .ok (.getfield 20, 3) := by decide +kernel
theorem dX3_alone_159 : decode cX3_alone 159 = .ok (.iload_n 2, 1) := by decide +kernel
theorem dX3_alone_160 : decode cX3_alone 160 = .ok (.laload, 1) := by decide +kernel
theorem dX3_alone_161 : decode cX3_alone 161 = .ok (.aload_n 0, 1) := by decide +kernel
theorem dX3_alone_162 : decode cX3_alone 162 = .ok (.getfield 24, 3) := by decide +kernel
theorem dX3_alone_165 : decode cX3_alone 165 = .ok (.iload_n 2, 1) := by decide +kernel
theorem dX3_alone_166 : decode cX3_alone 166 = .ok (.laload, 1) := by decide +kernel
theorem dX3_alone_167 : decode cX3_alone 167 = .ok (.invokevirtual 130, 3) := by decide +kernel
theorem dX3_alone_170 : decode cX3_alone 170 = .ok (.goto 19, 3) := by decide +kernel
theorem dX3_alone_173 : decode cX3_alone 173 = .ok (.aload_n 0, 1) := by decide +kernel
theorem dX3_alone_174 : decode cX3_alone 174 = .ok (.aload_n 0, 1) := by decide +kernel
theorem dX3_alone_175 : decode cX3_alone 175 = .ok (.getfield 20, 3) := by decide +kernel
theorem dX3_alone_178 : decode cX3_alone 178 = .ok (.iload_n 2, 1) := by decide +kernel
theorem dX3_alone_179 : decode cX3_alone 179 = .ok (.laload, 1) := by decide +kernel
theorem dX3_alone_180 : decode cX3_alone 180 = .ok (.aload_n 0, 1) := by decide +kernel
theorem dX3_alone_181 : decode cX3_alone 181 = .ok (.getfield 24, 3) := by decide +kernel
theorem dX3_alone_184 : decode cX3_alone 184 = .ok (.iload_n 2, 1) := by decide +kernel
theorem dX3_alone_185 : decode cX3_alone 185 = .ok (.laload, 1) := by decide +kernel
theorem dX3_alone_186 : decode cX3_alone 186 = .ok (.invokevirtual 126, 3) := by decide +kernel
theorem dX3_alone_189 : decode cX3_alone 189 = .ok (.return_, 1) := by decide +kernel
theorem dX3_does_0 : decode cX3_does 0 = .ok (.iload_n 1, 1) := by decide +kernel
theorem dX3_does_1 : decode cX3_does 1 = .ok (.ifCond .lt 37, 3) := by decide +kernel
theorem dX3_does_4 : decode cX3_does 4 = .ok (.iload_n 1, 1) := by decide +kernel
theorem dX3_does_5 : decode cX3_does 5 = .ok (.bipush 11, 2) := by decide +kernel
theorem dX3_does_7 : decode cX3_does 7 = .ok (.if_icmp .gt 31, 3) := by decide +kernel
theorem dX3_does_10 : decode cX3_does 10 = .ok (.iload_n 2, 1) := by decide +kernel
theorem dX3_does_11 : decode cX3_does 11 = .ok (.invokestatic 46, 3) := by decide +kernel
theorem dX3_does_14 : decode cX3_does 14 = .ok (.ifCond .eq 24, 3) := by decide +kernel
theorem dX3_does_17 : decode cX3_does 17 = .ok (.iload_n 3, 1) := by decide +kernel
theorem dX3_does_18 : decode cX3_does 18 = .ok (.invokestatic 46, 3) := by decide +kernel
theorem dX3_does_21 : decode cX3_does 21 = .ok (.ifCond .eq 17, 3) := by decide +kernel
theorem dX3_does_24 : decode cX3_does 24 = .ok (.iload_n 1, 1) := by decide +kernel
theorem dX3_does_25 : decode cX3_does 25 = .ok (.bipush 8, 2) := by decide +kernel
theorem dX3_does_27 : decode cX3_does 27 = .ok (.if_icmp .ge 17, 3) := by decide +kernel
theorem dX3_does_30 : decode cX3_does 30 = .ok (.iload 4, 2) := by decide +kernel
theorem dX3_does_32 : decode cX3_does 32 = .ok (.invokestatic 46, 3) := by decide +kernel
theorem dX3_does_35 : decode cX3_does 35 = .ok (.ifCond .ne 9, 3) := by decide +kernel
theorem dX3_does_38 : decode cX3_does 38 = .ok (.aload_n 0, 1) := by decide +kernel
theorem dX3_does_39 : decode cX3_does 39 = .ok (.iconst 1, 1) := by decide +kernel
theorem dX3_does_40 : decode cX3_does 40 = .ok (.invokevirtual 133, 3) := by decide +kernel
theorem dX3_does_43 : decode cX3_does 43 = .ok (.ireturn, 1) := by decide +kernel
theorem dX3_does_44 : decode cX3_does 44 = .ok (.aload_n 0, 1) := by decide +kernel
theorem dX3_does_45 : decode cX3_does 45 = .ok (.iconst 0, 1) := by decide +kernel
theorem dX3_does_46 : decode cX3_does 46 = .ok (.putfield 27, 3) := by decide +kernel
theorem dX3_does_49 : decode cX3_does 49 = .ok (.iload_n 1, 1) := by decide +kernel
theorem dX3_does_50 : decode cX3_does 50 = .ok (.bipush 7, 2) := by decide +kernel
theorem dX3_does_52 : decode cX3_does 52 = .ok (.if_icmp .le 12, 3) := by decide +kernel
theorem dX3_does_55 : decode cX3_does 55 = .ok (.aload_n 0, 1) := by decide +kernel
theorem dX3_does_56 : decode cX3_does 56 = .ok (.iload_n 1, 1) := by decide +kernel
theorem dX3_does_57 : decode cX3_does 57 = .ok (.iload_n 3, 1) := by decide +kernel
theorem dX3_does_58 : decode cX3_does 58 = .ok (.invokevirtual 136, 3) := by decide +kernel
theorem dX3_does_61 : decode cX3_does 61 = .ok (.goto 26, 3) := by decide +kernel
theorem dX3_does_64 : decode cX3_does 64 = .ok (.iload_n 1, 1) := by decide +kernel
theorem dX3_does_65 : decode cX3_does 65 = .ok (.iconst 3, 1) := by decide +kernel
theorem dX3_does_66 : decode cX3_does 66 = .ok (.if_icmp .ne 13, 3) := by decide +kernel
theorem dX3_does_69 : decode cX3_does 69 = .ok (.aload_n 0, 1) := by decide +kernel
theorem dX3_does_70 : decode cX3_does 70 = .ok (.iload_n 3, 1) := by decide +kernel
theorem dX3_does_71 : decode cX3_does 71 = .ok (.iload 4, 2) := by decide +kernel
theorem dX3_does_73 : decode cX3_does 73 = .ok (.invokevirtual 140, 3) := by decide +kernel
theorem dX3_does_76 : decode cX3_does 76 = .ok (.goto 11, 3) := by decide +kernel
theorem dX3_does_79 : decode cX3_does 79 = .ok (.aload_n 0, 1) := by decide +kernel
theorem dX3_does_80 : decode cX3_does 80 = .ok (.iload_n 1, 1) := by decide +kernel
theorem dX3_does_81 : decode cX3_does 81 = .ok (.iload_n 3, 1) := by decide +kernel
theorem dX3_does_82 : decode cX3_does 82 = .ok (.iload 4, 2) := by decide +kernel
theorem dX3_does_84 : decode cX3_does 84 = .ok (.invokevirtual 143, 3) := by decide +kernel
theorem dX3_does_87 : decode cX3_does 87 = .ok (.aload_n 0, 1) := by decide +kernel
theorem dX3_does_88 : decode cX3_does 88 = .ok (.iload_n 2, 1) := by decide +kernel
theorem dX3_does_89 : decode cX3_does 89 = .ok (.invokevirtual 147, 3) := by decide +kernel
theorem dX3_does_92 : decode cX3_does 92 = .ok (.ireturn, 1) := by decide +kernel
theorem dX3_part_0 : decode cX3_part 0 = .ok (.iload_n 1, 1) := by decide +kernel
theorem dX3_part_1 : decode cX3_part 1 = .ok (.invokestatic 46, 3) := by decide +kernel
theorem dX3_part_4 : decode cX3_part 4 = .ok (.ifCond .eq 26, 3) := by decide +kernel
theorem dX3_part_7 : decode cX3_part 7 = .ok (.iload_n 1, 1) := by decide +kernel
theorem dX3_part_8 : decode cX3_part 8 = .ok (.iconst 1, 1) := by decide +kernel
theorem dX3_part_9 : decode cX3_part 9 = .ok (.iadd, 1) := by decide +kernel
theorem dX3_part_10 : decode cX3_part 10 = .ok (.invokestatic 46, 3) := by decide +kernel
theorem dX3_part_13 : decode cX3_part 13 = .ok (.ifCond .eq 17, 3) := by decide +kernel
theorem dX3_part_16 : decode cX3_part 16 = .ok (.iload_n 2, 1) := by decide +kernel
theorem dX3_part_17 : decode cX3_part 17 = .ok (.invokestatic 46, 3) := by decide +kernel
theorem dX3_part_20 : decode cX3_part 20 = .ok (.ifCond .eq 10, 3) := by decide +kernel
theorem dX3_part_23 : decode cX3_part 23 = .ok (.iload_n 3, 1) := by decide +kernel
theorem dX3_part_24 : decode cX3_part 24 = .ok (.invokestatic 46, 3) := by decide +kernel
theorem dX3_part_27 : decode cX3_part 27 = .ok (.ifCond .ne 9, 3) := by decide +kernel
theorem dX3_part_30 : decode cX3_part 30 = .ok (.aload_n 0, 1) := by decide +kernel
theorem dX3_part_31 : decode cX3_part 31 = .ok (.iconst 1, 1) := by decide +kernel
theorem dX3_part_32 : decode cX3_part 32 = .ok (.invokevirtual 133, 3) := by decide +kernel
theorem dX3_part_35 : decode cX3_part 35 = .ok (.ireturn, 1) := by decide +kernel
theorem dX3_part_36 : decode cX3_part 36 = .ok (.aload_n 0, 1) := by decide +kernel
theorem dX3_part_37 : decode cX3_part 37 = .ok (.iconst 0, 1) := by decide +kernel
theorem dX3_part_38 : decode cX3_part 38 = .ok (.putfield 27, 3) := by decide +kernel
theorem dX3_part_41 : decode cX3_part 41 = .ok (.aload_n 0, 1) := by decide +kernel
theorem dX3_part_42 : decode cX3_part 42 = .ok (.getfield 16, 3) := by decide +kernel
theorem dX3_part_45 : decode cX3_part 45 = .ok (.iload_n 2, 1) := by decide +kernel
theorem dX3_part_46 : decode cX3_part 46 = .ok (.baload, 1) := by decide +kernel
theorem dX3_part_47 : decode cX3_part 47 = .ok (.ifCond .eq 16, 3) := by decide +kernel
theorem dX3_part_50 : decode cX3_part 50 = .ok (.aload_n 0, 1) := by decide +kernel
theorem dX3_part_51 : decode cX3_part 51 = .ok (.getfield 16, 3) := by decide +kernel
theorem dX3_part_54 : decode cX3_part 54 = .ok (.iload_n 3, 1) := by decide +kernel
theorem dX3_part_55 : decode cX3_part 55 = .ok (.baload, 1) := by decide +kernel
theorem dX3_part_56 : decode cX3_part 56 = .ok (.ifCond .eq 7, 3) := by decide +kernel
theorem dX3_part_59 : decode cX3_part 59 = .ok (.iconst 1, 1) := by decide +kernel
theorem dX3_part_60 : decode cX3_part 60 = .ok (.goto 4, 3) := by decide +kernel
theorem dX3_part_63 : decode cX3_part 63 = .ok (.iconst 0, 1) := by decide +kernel
theorem dX3_part_64 : decode cX3_part 64 = .ok (.istore 4, 2) := by decide +kernel
theorem dX3_part_66 : decode cX3_part 66 = .ok (.aload_n 0, 1) := by decide +kernel
theorem dX3_part_67 : decode cX3_part 67 = .ok (.getfield 20, 3) := by decide +kernel
theorem dX3_part_70 : decode cX3_part 70 = .ok (.iload_n 2, 1) := by decide +kernel
theorem dX3_part_71 : decode cX3_part 71 = .ok (.laload, 1) := by decide +kernel
theorem dX3_part_72 : decode cX3_part 72 = .ok (.lstore 5, 2) := by decide +kernel
theorem dX3_part_74 : decode cX3_part 74 = .ok (.aload_n 0, 1) := by decide +kernel
theorem dX3_part_75 : decode cX3_part 75 = .ok (.getfield 24, 3) := by decide +kernel
theorem dX3_part_78 : decode cX3_part 78 = .ok (.iload_n 2, 1) := by decide +kernel
theorem dX3_part_79 : decode cX3_part 79 = .ok (.laload, 1) := by decide +kernel
theorem dX3_part_80 : decode cX3_part 80 = .ok (.lstore 7, 2) := by decide +kernel
theorem dX3_part_82 : decode cX3_part 82 = .ok (.aload_n 0, 1) := by decide +kernel
theorem dX3_part_83 : decode cX3_part 83 = .ok (.getfield 20, 3) := by decide +kernel
theorem dX3_part_86 : decode cX3_part 86 = .ok (.iload_n 3, 1) := by decide +kernel
theorem dX3_part_87 : decode cX3_part 87 = .ok (.laload, 1) := by decide +kernel
theorem dX3_part_88 : decode cX3_part 88 = .ok (.lstore 9, 2) := by decide +kernel
theorem dX3_part_90 : decode cX3_part 90 = .ok (.aload_n 0, 1) := by decide +kernel
theorem dX3_part_91 : decode cX3_part 91 = .ok (.getfield 24, 3) := by decide +kernel
theorem dX3_part_94 : decode cX3_part 94 = .ok (.iload_n 3, 1) := by decide +kernel
theorem dX3_part_95 : decode cX3_part 95 = .ok (.laload, 1) := by decide +kernel
theorem dX3_part_96 : decode cX3_part 96 = .ok (.lstore 11, 2) := by decide +kernel
theorem dX3_part_98 : decode cX3_part 98 = .ok (.aload_n 0, 1) := by decide +kernel
theorem dX3_part_99 : decode cX3_part 99 = .ok (.lload 5, 2) := by decide +kernel
theorem dX3_part_101 : decode cX3_part 101 = .ok (.lload 7, 2) := by decide +kernel
theorem dX3_part_103 : decode cX3_part 103 = .ok (.lload 9, 2) := by decide +kernel
theorem dX3_part_105 : decode cX3_part 105 = .ok (.lload 11, 2) := by decide +kernel
theorem dX3_part_107 : decode cX3_part 107 = .ok (.invokevirtual 105, 3) := by decide +kernel
theorem dX3_part_110 : decode cX3_part 110 = .ok (.aload_n 0, 1) := by decide +kernel
theorem dX3_part_111 : decode cX3_part 111 = .ok (.iload 4, 2) := by decide +kernel
theorem dX3_part_113 : decode cX3_part 113 = .ok (.ifCond .eq 14, 3) := by decide +kernel
theorem dX3_part_116 : decode cX3_part 116 = .ok (.aload_n 0, 1) := by decide +kernel
theorem dX3_part_117 : decode cX3_part 117 = .ok (.getfield 93, 3) := by decide +kernel
theorem dX3_part_120 : decode cX3_part 120 = .ok (.ifCond .eq 7, 3) := by decide +kernel
theorem dX3_part_123 : decode cX3_part 123 = .ok (.iconst 1, 1) := by decide +kernel
theorem dX3_part_124 : decode cX3_part 124 = .ok (.goto 4, 3) := by decide +kernel
theorem dX3_part_127 : decode cX3_part 127 = .ok (.iconst 0, 1) := by decide +kernel
theorem dX3_part_128 : decode cX3_part 128 = .ok (.putfield 59, 3) := by decide +kernel
theorem dX3_part_131 : decode cX3_part 131 = .ok (.aload_n 0, 1) := by decide +kernel
theorem dX3_part_132 : decode cX3_part 132 = .ok (.aload_n 0, 1) := by decide +kernel
theorem dX3_part_133 : decode cX3_part 133 = .ok (.getfield 99, 3) := by decide +kernel
theorem dX3_part_136 : decode cX3_part 136 = .ok (.putfield 63, 3) := by decide +kernel
theorem dX3_part_139 : decode cX3_part 139 = .ok (.aload_n 0, 1) := by decide +kernel
theorem dX3_part_140 : decode cX3_part 140 = .ok (.aload_n 0, 1) := by decide +kernel
theorem dX3_part_141 : decode cX3_part 141 = .ok (.getfield 102, 3) := by decide +kernel
theorem dX3_part_144 : decode cX3_part 144 = .ok (.putfield 67, 3) := by decide +kernel
theorem dX3_part_147 : decode cX3_part 147 = .ok (.aload_n 0, 1) := by decide +kernel
theorem dX3_part_148 : decode cX3_part 148 = .ok (.iload_n 1, 1) := by decide +kernel
theorem dX3_part_149 : decode cX3_part 149 = .ok (.invokevirtual 147, 3) := by decide +kernel
theorem dX3_part_152 : decode cX3_part 152 = .ok (.istore 13, 2) := by decide +kernel
theorem dX3_part_154 : decode cX3_part 154 = .ok (.aload_n 0, 1) := by decide +kernel
theorem dX3_part_155 : decode cX3_part 155 = .ok (.lload 7, 2) := by decide +kernel
theorem dX3_part_157 : decode cX3_part 157 = .ok (.lneg, 1) := by decide +kernel
theorem dX3_part_158 : decode cX3_part 158 = .ok (.lload 5, 2) := by decide +kernel
theorem dX3_part_160 : decode cX3_part 160 = .ok (.lneg, 1) := by decide +kernel
theorem dX3_part_161 : decode cX3_part 161 = .ok (.lload 11, 2) := by decide +kernel
theorem dX3_part_163 : decode cX3_part 163 = .ok (.lneg, 1) := by decide +kernel
theorem dX3_part_164 : decode cX3_part 164 = .ok (.lload 9, 2) := by decide +kernel
theorem dX3_part_166 : decode cX3_part 166 = .ok (.lneg, 1) := by decide +kernel
theorem dX3_part_167 : decode cX3_part 167 = .ok (.invokevirtual 105, 3) := by decide +kernel
theorem dX3_part_170 : decode cX3_part 170 = .ok (.aload_n 0, 1) := by decide +kernel
theorem dX3_part_171 : decode cX3_part 171 = .ok (.iload 4, 2) := by decide +kernel
theorem dX3_part_173 : decode cX3_part 173 = .ok (.ifCond .eq 14, 3) := by decide +kernel
theorem dX3_part_176 : decode cX3_part 176 = .ok (.aload_n 0, 1) := by decide +kernel
theorem dX3_part_177 : decode cX3_part 177 = .ok (.getfield 93, 3) := by decide +kernel
theorem dX3_part_180 : decode cX3_part 180 = .ok (.ifCond .eq 7, 3) := by decide +kernel
theorem dX3_part_183 : decode cX3_part 183 = .ok (.iconst 1, 1) := by decide +kernel
theorem dX3_part_184 : decode cX3_part 184 = .ok (.goto 4, 3) := by decide +kernel
theorem dX3_part_187 : decode cX3_part 187 = .ok (.iconst 0, 1) := by decide +kernel
theorem dX3_part_188 : decode cX3_part 188 = .ok (.putfield 59, 3) := by decide +kernel
theorem dX3_part_191 : decode cX3_part 191 = .ok (.aload_n 0, 1) := by decide +kernel
theorem dX3_part_192 : decode cX3_part 192 = .ok (.aload_n 0, 1) := by decide +kernel
theorem dX3_part_193 : decode cX3_part 193 = .ok (.getfield 99, 3) := by decide +kernel
theorem dX3_part_196 : decode cX3_part 196 = .ok (.putfield 63, 3) := by decide +kernel
theorem dX3_part_199 : decode cX3_part 199 = .ok (.aload_n 0, 1) := by decide +kernel
theorem dX3_part_200 : decode cX3_part 200 = .ok (.aload_n 0, 1) := by decide +kernel
theorem dX3_part_201 : decode cX3_part 201 = .ok (.getfield 102, 3) := by decide +kernel
theorem dX3_part_204 : decode cX3_part 204 = .ok (.putfield 67, 3) := by decide +kernel
theorem dX3_part_207 : decode cX3_part 207 = .ok (.iload 13, 2) := by decide +kernel
theorem dX3_part_209 : decode cX3_part 209 = .ok (.bipush 8, 2) := by decide +kernel
theorem dX3_part_211 : decode cX3_part 211 = .ok (.aload_n 0, 1) := by decide +kernel
theorem dX3_part_212 : decode cX3_part 212 = .ok (.iload_n 1, 1) := by decide +kernel
theorem dX3_part_213 : decode cX3_part 213 = .ok (.iconst 1, 1) := by decide +kernel
theorem dX3_part_214 : decode cX3_part 214 = .ok (.iadd, 1) := by decide +kernel
theorem dX3_part_215 : decode cX3_part 215 = .ok (.invokevirtual 147, 3) := by decide +kernel
theorem dX3_part_218 : decode cX3_part 218 = .ok (.imul, 1) := by decide +kernel
theorem dX3_part_219 : decode cX3_part 219 = .ok (.iadd, 1) := by decide +kernel
theorem dX3_part_220 : decode cX3_part 220 = .ok (.ireturn, 1) := by decide +kernel
