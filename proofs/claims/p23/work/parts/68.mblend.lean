theorem dX9_blend_0 : decode cX9_blend 0 = .ok (.iload_n 1, 1) := by decide +kernel
theorem dX9_blend_1 : decode cX9_blend 1 = .ok (.iconst 1, 1) := by decide +kernel
theorem dX9_blend_2 : decode cX9_blend 2 = .ok (.if_icmp .lt 56, 3) := by decide +kernel
theorem dX9_blend_5 : decode cX9_blend 5 = .ok (.iload_n 1, 1) := by decide +kernel
theorem dX9_blend_6 : decode cX9_blend 6 = .ok (.sipush 1023, 3) := by decide +kernel
theorem dX9_blend_9 : decode cX9_blend 9 = .ok (.if_icmp .gt 49, 3) := by decide +kernel
theorem dX9_blend_12 : decode cX9_blend 12 = .ok (.iload_n 2, 1) := by decide +kernel
theorem dX9_blend_13 : decode cX9_blend 13 = .ok (.iconst 1, 1) := by decide +kernel
theorem dX9_blend_14 : decode cX9_blend 14 = .ok (.bipush 40, 2) := by decide +kernel
theorem dX9_blend_16 : decode cX9_blend 16 = .ok (.invokestatic 151, 3) := by decide +kernel
theorem dX9_blend_19 : decode cX9_blend 19 = .ok (.ifCond .eq 39, 3) := by decide +kernel
theorem dX9_blend_22 : decode cX9_blend 22 = .ok (.iload_n 3, 1) := by decide +kernel
theorem dX9_blend_23 : decode cX9_blend 23 = .ok (.iconst 0, 1) := by decide +kernel
theorem dX9_blend_24 : decode cX9_blend 24 = .ok (.sipush 300, 3) := by decide +kernel
theorem dX9_blend_27 : decode cX9_blend 27 = .ok (.invokestatic 151, 3) := by decide +kernel
theorem dX9_blend_30 : decode cX9_blend 30 = .ok (.ifCond .eq 28, 3) := by decide +kernel
theorem dX9_blend_33 : decode cX9_blend 33 = .ok (.iload 4, 2) := by decide +kernel
theorem dX9_blend_35 : decode cX9_blend 35 = .ok (.iconst 0, 1) := by decide +kernel
theorem dX9_blend_36 : decode cX9_blend 36 = .ok (.sipush 140, 3) := by decide +kernel
theorem dX9_blend_39 : decode cX9_blend 39 = .ok (.invokestatic 151, 3) := by decide +kernel
theorem dX9_blend_42 : decode cX9_blend 42 = .ok (.ifCond .eq 16, 3) := by decide +kernel
theorem dX9_blend_45 : decode cX9_blend 45 = .ok (.iload 5, 2) := by decide +kernel
theorem dX9_blend_47 : decode cX9_blend 47 = .ok (.iload 4, 2) := by decide +kernel
theorem dX9_blend_49 : decode cX9_blend 49 = .ok (.sipush 140, 3) := by decide +kernel
theorem dX9_blend_52 : decode cX9_blend 52 = .ok (.invokestatic 151, 3) := by decide +kernel
theorem dX9_blend_55 : decode cX9_blend 55 = .ok (.ifCond .ne 5, 3) := by decide +kernel
theorem dX9_blend_58 : decode cX9_blend 58 = .ok (.iconst (-1), 1) := by decide +kernel
theorem dX9_blend_59 : decode cX9_blend 59 = .ok (.ireturn, 1) := by decide +kernel
theorem dX9_blend_60 : decode cX9_blend 60 = .ok (.iconst 0, 1) := by decide +kernel
theorem dX9_blend_61 : decode cX9_blend 61 = .ok (.istore 6, 2) := by decide +kernel
theorem dX9_blend_63 : decode cX9_blend 63 = .ok (.iconst 0, 1) := by decide +kernel
theorem dX9_blend_64 : decode cX9_blend 64 = .ok (.istore 7, 2) := by decide +kernel
theorem dX9_blend_66 : decode cX9_blend 66 = .ok (.iload 7, 2) := by decide +kernel
theorem dX9_blend_68 : decode cX9_blend 68 = .ok (.bipush 10, 2) := by decide +kernel
theorem dX9_blend_70 : decode cX9_blend 70 = .ok (.if_icmp .ge 50, 3) := by decide +kernel
theorem dX9_blend_73 : decode cX9_blend 73 = .ok (.iload_n 1, 1) := by decide +kernel
theorem dX9_blend_74 : decode cX9_blend 74 = .ok (.iload 7, 2) := by decide +kernel
theorem dX9_blend_76 : decode cX9_blend 76 = .ok (.ishr, 1) := by decide +kernel
theorem dX9_blend_77 : decode cX9_blend 77 = .ok (.iconst 1, 1) := by decide +kernel
theorem dX9_blend_78 : decode cX9_blend 78 = .ok (.iand, 1) := by decide +kernel
theorem dX9_blend_79 : decode cX9_blend 79 = .ok (.ifCond .ne 6, 3) := by decide +kernel
theorem dX9_blend_82 : decode cX9_blend 82 = .ok (.goto 32, 3) := by decide +kernel
theorem dX9_blend_85 : decode cX9_blend 85 = .ok (.iload 6, 2) := by decide +kernel
theorem dX9_blend_87 : decode cX9_blend 87 = .ok (.iconst 4, 1) := by decide +kernel
theorem dX9_blend_88 : decode cX9_blend 88 = .ok (.if_icmp .eq 12, 3) := by decide +kernel
theorem dX9_blend_91 : decode cX9_blend 91 = .ok (.aload_n 0, 1) := by decide +kernel
theorem dX9_blend_92 : decode cX9_blend 92 = .ok (.iload 7, 2) := by decide +kernel
theorem dX9_blend_94 : decode cX9_blend 94 = .ok (.invokevirtual 169, 3) := by decide +kernel
theorem dX9_blend_97 : decode cX9_blend 97 = .ok (.ifCond .ne 5, 3) := by decide +kernel
theorem dX9_blend_100 : decode cX9_blend 100 = .ok (.iconst (-1), 1) := by decide +kernel
theorem dX9_blend_101 : decode cX9_blend 101 = .ok (.ireturn, 1) := by decide +kernel
theorem dX9_blend_102 : decode cX9_blend 102 = .ok (.aload_n 0, 1) := by decide +kernel
theorem dX9_blend_103 : decode cX9_blend 103 = .ok (.getfield 124, 3) := by decide +kernel
theorem dX9_blend_106 : decode cX9_blend 106 = .ok (.iload 6, 2) := by decide +kernel
theorem dX9_blend_108 : decode cX9_blend 108 = .ok (.iload 7, 2) := by decide +kernel
theorem dX9_blend_110 : decode cX9_blend 110 = .ok (.iastore, 1) := by decide +kernel
theorem dX9_blend_111 : decode cX9_blend 111 = .ok (.iinc 6 1, 3) := by decide +kernel
theorem dX9_blend_114 : decode cX9_blend 114 = .ok (.iinc 7 1, 3) := by decide +kernel
theorem dX9_blend_117 : decode cX9_blend 117 = .ok (.goto (-51), 3) := by decide +kernel
theorem dX9_blend_120 : decode cX9_blend 120 = .ok (.iconst 0, 1) := by decide +kernel
theorem dX9_blend_121 : decode cX9_blend 121 = .ok (.istore 7, 2) := by decide +kernel
theorem dX9_blend_123 : decode cX9_blend 123 = .ok (.iload 7, 2) := by decide +kernel
theorem dX9_blend_125 : decode cX9_blend 125 = .ok (.iconst 4, 1) := by decide +kernel
theorem dX9_blend_126 : decode cX9_blend 126 = .ok (.if_icmp .ge 168, 3) := by decide +kernel
theorem dX9_blend_129 : decode cX9_blend 129 = .ok (.aload_n 0, 1) := by decide +kernel
theorem dX9_blend_130 : decode cX9_blend 130 = .ok (.getfield 127, 3) := by decide +kernel
theorem dX9_blend_133 : decode cX9_blend 133 = .ok (.iload 7, 2) := by decide +kernel
theorem dX9_blend_135 : decode cX9_blend 135 = .ok (.iload 7, 2) := by decide +kernel
theorem dX9_blend_137 : decode cX9_blend 137 = .ok (.iload 6, 2) := by decide +kernel
theorem dX9_blend_139 : decode cX9_blend 139 = .ok (.if_icmp .ge 36, 3) := by decide +kernel
theorem dX9_blend_142 : decode cX9_blend 142 = .ok (.ldc2_w 185, 3) := by decide +kernel
theorem dX9_blend_145 : decode cX9_blend 145 = .ok (.aload_n 0, 1) := by decide +kernel
theorem dX9_blend_146 : decode cX9_blend 146 = .ok (.aload_n 0, 1) := by decide +kernel
theorem dX9_blend_147 : decode cX9_blend 147 = .ok (.getfield 124, 3) := by decide +kernel
theorem dX9_blend_150 : decode cX9_blend 150 = .ok (.iload 7, 2) := by decide +kernel
theorem dX9_blend_152 : decode cX9_blend 152 = .ok (.iaload, 1) := by decide +kernel
theorem dX9_blend_153 : decode cX9_blend 153 = .ok (.iconst 0, 1) := by decide +kernel
theorem dX9_blend_154 : decode cX9_blend 154 = .ok (.invokevirtual 187, 3) := by decide +kernel
theorem dX9_blend_157 : decode cX9_blend 157 = .ok (.lmul, 1) := by decide +kernel
theorem dX9_blend_158 : decode cX9_blend 158 = .ok (.aload_n 0, 1) := by decide +kernel
theorem dX9_blend_159 : decode cX9_blend 159 = .ok (.aload_n 0, 1) := by decide +kernel
theorem dX9_blend_160 : decode cX9_blend 160 = .ok (.getfield 124, 3) := by decide +kernel
theorem dX9_blend_163 : decode cX9_blend 163 = .ok (.iload 7, 2) := by decide +kernel
theorem dX9_blend_165 : decode cX9_blend 165 = .ok (.iaload, 1) := by decide +kernel
theorem dX9_blend_166 : decode cX9_blend 166 = .ok (.invokevirtual 169, 3) := by decide +kernel
theorem dX9_blend_169 : decode cX9_blend 169 = .ok (.i2l, 1) := by decide +kernel
theorem dX9_blend_170 : decode cX9_blend 170 = .ok (.ldiv, 1) := by decide +kernel
theorem dX9_blend_171 : decode cX9_blend 171 = .ok (.l2i, 1) := by decide +kernel
theorem dX9_blend_172 : decode cX9_blend 172 = .ok (.goto 4, 3) := by decide +kernel
theorem dX9_blend_175 : decode cX9_blend 175 = .ok (.iconst 0, 1) := by decide +kernel
theorem dX9_blend_176 : decode cX9_blend 176 = .ok (.iastore, 1) := by decide +kernel
theorem dX9_blend_177 : decode cX9_blend 177 = .ok (.aload_n 0, 1) := by decide +kernel
theorem dX9_blend_178 : decode cX9_blend 178 = .ok (.getfield 130, 3) := by decide +kernel
theorem dX9_blend_181 : decode cX9_blend 181 = .ok (.iload 7, 2) := by decide +kernel
theorem dX9_blend_183 : decode cX9_blend 183 = .ok (.iload 7, 2) := by decide +kernel
theorem dX9_blend_185 : decode cX9_blend 185 = .ok (.iload 6, 2) := by decide +kernel
theorem dX9_blend_187 : decode cX9_blend 187 = .ok (.if_icmp .ge 36, 3) := by decide +kernel
theorem dX9_blend_190 : decode cX9_blend 190 = .ok (.ldc2_w 185, 3) := by decide +kernel
theorem dX9_blend_193 : decode cX9_blend 193 = .ok (.aload_n 0, 1) := by decide +kernel
theorem dX9_blend_194 : decode cX9_blend 194 = .ok (.aload_n 0, 1) := by decide +kernel
theorem dX9_blend_195 : decode cX9_blend 195 = .ok (.getfield 124, 3) := by decide +kernel
theorem dX9_blend_198 : decode cX9_blend 198 = .ok (.iload 7, 2) := by decide +kernel
theorem dX9_blend_200 : decode cX9_blend 200 = .ok (.iaload, 1) := by decide +kernel
theorem dX9_blend_201 : decode cX9_blend 201 = .ok (.iconst 1, 1) := by decide +kernel
theorem dX9_blend_202 : decode cX9_blend 202 = .ok (.invokevirtual 187, 3) := by decide +kernel
theorem dX9_blend_205 : decode cX9_blend 205 = .ok (.lmul, 1) := by decide +kernel
theorem dX9_blend_206 : decode cX9_blend 206 = .ok (.aload_n 0, 1) := by decide +kernel
theorem dX9_blend_207 : decode cX9_blend 207 = .ok (.aload_n 0, 1) := by decide +kernel
theorem dX9_blend_208 : decode cX9_blend 208 = .ok (.getfield 124, 3) := by decide +kernel
theorem dX9_blend_211 : decode cX9_blend 211 = .ok (.iload 7, 2) := by decide +kernel
theorem dX9_blend_213 : decode cX9_blend 213 = .ok (.iaload, 1) := by decide +kernel
theorem dX9_blend_214 : decode cX9_blend 214 = .ok (.invokevirtual 169, 3) := by decide +kernel
theorem dX9_blend_217 : decode cX9_blend 217 = .ok (.i2l, 1) := by decide +kernel
theorem dX9_blend_218 : decode cX9_blend 218 = .ok (.ldiv, 1) := by decide +kernel
theorem dX9_blend_219 : decode cX9_blend 219 = .ok (.l2i, 1) := by decide +kernel
theorem dX9_blend_220 : decode cX9_blend 220 = .ok (.goto 4, 3) := by decide +kernel
theorem dX9_blend_223 : decode cX9_blend 223 = .ok (.iconst 0, 1) := by decide +kernel
theorem dX9_blend_224 : decode cX9_blend 224 = .ok (.iastore, 1) := by decide +kernel
theorem dX9_blend_225 : decode cX9_blend 225 = .ok (.aload_n 0, 1) := by decide +kernel
theorem dX9_blend_226 : decode cX9_blend 226 = .ok (.getfield 133, 3) := by decide +kernel
theorem dX9_blend_229 : decode cX9_blend 229 = .ok (.iload 7, 2) := by decide +kernel
theorem dX9_blend_231 : decode cX9_blend 231 = .ok (.iload 7, 2) := by decide +kernel
theorem dX9_blend_233 : decode cX9_blend 233 = .ok (.iload 6, 2) := by decide +kernel
theorem dX9_blend_235 : decode cX9_blend 235 = .ok (.if_icmp .ge 18, 3) := by decide +kernel
theorem dX9_blend_238 : decode cX9_blend 238 = .ok (.aload_n 0, 1) := by decide +kernel
theorem dX9_blend_239 : decode cX9_blend 239 = .ok (.getfield 47, 3) := by decide +kernel
theorem dX9_blend_242 : decode cX9_blend 242 = .ok (.aload_n 0, 1) := by decide +kernel
theorem dX9_blend_243 : decode cX9_blend 243 = .ok (.getfield 124, 3) := by decide +kernel
theorem dX9_blend_246 : decode cX9_blend 246 = .ok (.iload 7, 2) := by decide +kernel
theorem dX9_blend_248 : decode cX9_blend 248 = .ok (.iaload, 1) := by decide +kernel
theorem dX9_blend_249 : decode cX9_blend 249 = .ok (.iaload, 1) := by decide +kernel
theorem dX9_blend_250 : decode cX9_blend 250 = .ok (.goto 4, 3) := by decide +kernel
theorem dX9_blend_253 : decode cX9_blend 253 = .ok (.iconst 0, 1) := by decide +kernel
theorem dX9_blend_254 : decode cX9_blend 254 = .ok (.iastore, 1) := by decide +kernel
theorem dX9_blend_255 : decode cX9_blend 255 = .ok (.aload_n 0, 1) := by decide +kernel
theorem dX9_blend_256 : decode cX9_blend 256 = .ok (.getfield 136, 3) := by decide +kernel
theorem dX9_blend_259 : decode cX9_blend 259 = .ok (.iload 7, 2) := by decide +kernel
theorem dX9_blend_261 : decode cX9_blend 261 = .ok (.iload 7, 2) := by decide +kernel
theorem dX9_blend_263 : decode cX9_blend 263 = .ok (.iload 6, 2) := by decide +kernel
theorem dX9_blend_265 : decode cX9_blend 265 = .ok (.if_icmp .ge 21, 3) := by decide +kernel
theorem dX9_blend_268 : decode cX9_blend 268 = .ok (.aload_n 0, 1) := by decide +kernel
theorem dX9_blend_269 : decode cX9_blend 269 = .ok (.aload_n 0, 1) := by decide +kernel
theorem dX9_blend_270 : decode cX9_blend 270 = .ok (.getfield 124, 3) := by decide +kernel
theorem dX9_blend_273 : decode cX9_blend 273 = .ok (.iload 7, 2) := by decide +kernel
theorem dX9_blend_275 : decode cX9_blend 275 = .ok (.iaload, 1) := by decide +kernel
theorem dX9_blend_276 : decode cX9_blend 276 = .ok (.invokevirtual 169, 3) := by decide +kernel
theorem dX9_blend_279 : decode cX9_blend 279 = .ok (.sipush 1000, 3) := by decide +kernel
theorem dX9_blend_282 : decode cX9_blend 282 = .ok (.idiv, 1) := by decide +kernel
theorem dX9_blend_283 : decode cX9_blend 283 = .ok (.goto 4, 3) := by decide +kernel
theorem dX9_blend_286 : decode cX9_blend 286 = .ok (.iconst 0, 1) := by decide +kernel
theorem dX9_blend_287 : decode cX9_blend 287 = .ok (.iastore, 1) := by decide +kernel
theorem dX9_blend_288 : decode cX9_blend 288 = .ok (.iinc 7 1, 3) := by decide +kernel
theorem dX9_blend_291 : decode cX9_blend 291 = .ok (.goto (-168), 3) := by decide +kernel
theorem dX9_blend_294 : decode cX9_blend 294 = .ok (.ldc2_w 173, 3) := by decide +kernel
theorem dX9_blend_297 : decode cX9_blend 297 = .ok (.lstore 7, 2) := by decide +kernel
theorem dX9_blend_299 : decode cX9_blend 299 = .ok (.iconst 0, 1) := by decide +kernel
theorem dX9_blend_300 : decode cX9_blend 300 = .ok (.istore 9, 2) := by decide +kernel
theorem dX9_blend_302 : decode cX9_blend 302 = .ok (.iconst 0, 1) := by decide +kernel
theorem dX9_blend_303 : decode cX9_blend 303 = .ok (.istore 10, 2) := by decide +kernel
theorem dX9_blend_305 : decode cX9_blend 305 = .ok (.iload 10, 2) := by decide +kernel
theorem dX9_blend_307 : decode cX9_blend 307 = .ok (.iload_n 2, 1) := by decide +kernel
theorem dX9_blend_308 : decode cX9_blend 308 = .ok (.if_icmp .gt 350, 3) := by decide +kernel
theorem dX9_blend_311 : decode cX9_blend 311 = .ok (.iload 10, 2) := by decide +kernel
theorem dX9_blend_313 : decode cX9_blend 313 = .ok (.aload_n 0, 1) := by decide +kernel
theorem dX9_blend_314 : decode cX9_blend 314 = .ok (.getfield 136, 3) := by decide +kernel
theorem dX9_blend_317 : decode cX9_blend 317 = .ok (.iconst 0, 1) := by decide +kernel
theorem dX9_blend_318 : decode cX9_blend 318 = .ok (.iaload, 1) := by decide +kernel
theorem dX9_blend_319 : decode cX9_blend 319 = .ok (.if_icmp .gt 339, 3) := by decide +kernel
theorem dX9_blend_322 : decode cX9_blend 322 = .ok (.iconst 0, 1) := by decide +kernel
theorem dX9_blend_323 : decode cX9_blend 323 = .ok (.istore 11, 2) := by decide +kernel
theorem dX9_blend_325 : decode cX9_blend 325 = .ok (.iload 10, 2) := by decide +kernel
theorem dX9_blend_327 : decode cX9_blend 327 = .ok (.iload 11, 2) := by decide +kernel
theorem dX9_blend_329 : decode cX9_blend 329 = .ok (.iadd, 1) := by decide +kernel
theorem dX9_blend_330 : decode cX9_blend 330 = .ok (.iload_n 2, 1) := by decide +kernel
theorem dX9_blend_331 : decode cX9_blend 331 = .ok (.if_icmp .gt 321, 3) := by decide +kernel
theorem dX9_blend_334 : decode cX9_blend 334 = .ok (.iload 11, 2) := by decide +kernel
theorem dX9_blend_336 : decode cX9_blend 336 = .ok (.aload_n 0, 1) := by decide +kernel
theorem dX9_blend_337 : decode cX9_blend 337 = .ok (.getfield 136, 3) := by decide +kernel
theorem dX9_blend_340 : decode cX9_blend 340 = .ok (.iconst 1, 1) := by decide +kernel
theorem dX9_blend_341 : decode cX9_blend 341 = .ok (.iaload, 1) := by decide +kernel
theorem dX9_blend_342 : decode cX9_blend 342 = .ok (.if_icmp .gt 310, 3) := by decide +kernel
theorem dX9_blend_345 : decode cX9_blend 345 = .ok (.iconst 0, 1) := by decide +kernel
theorem dX9_blend_346 : decode cX9_blend 346 = .ok (.istore 12, 2) := by decide +kernel
theorem dX9_blend_348 : decode cX9_blend 348 = .ok (.iload 10, 2) := by decide +kernel
theorem dX9_blend_350 : decode cX9_blend 350 = .ok (.iload 11, 2) := by decide +kernel
theorem dX9_blend_352 : decode cX9_blend 352 = .ok (.iadd, 1) := by decide +kernel
theorem dX9_blend_353 : decode cX9_blend 353 = .ok (.iload 12, 2) := by decide +kernel
theorem dX9_blend_355 : decode cX9_blend 355 = .ok (.iadd, 1) := by decide +kernel
theorem dX9_blend_356 : decode cX9_blend 356 = .ok (.iload_n 2, 1) := by decide +kernel
theorem dX9_blend_357 : decode cX9_blend 357 = .ok (.if_icmp .gt 289, 3) := by decide +kernel
theorem dX9_blend_360 : decode cX9_blend 360 = .ok (.iload 12, 2) := by decide +kernel
theorem dX9_blend_362 : decode cX9_blend 362 = .ok (.aload_n 0, 1) := by decide +kernel
theorem dX9_blend_363 : decode cX9_blend 363 = .ok (.getfield 136, 3) := by decide +kernel
theorem dX9_blend_366 : decode cX9_blend 366 = .ok (.iconst 2, 1) := by decide +kernel
theorem dX9_blend_367 : decode cX9_blend 367 = .ok (.iaload, 1) := by decide +kernel
theorem dX9_blend_368 : decode cX9_blend 368 = .ok (.if_icmp .gt 278, 3) := by decide +kernel
theorem dX9_blend_371 : decode cX9_blend 371 = .ok (.iload_n 2, 1) := by decide +kernel
theorem dX9_blend_372 : decode cX9_blend 372 = .ok (.iload 10, 2) := by decide +kernel
theorem dX9_blend_374 : decode cX9_blend 374 = .ok (.isub, 1) := by decide +kernel
theorem dX9_blend_375 : decode cX9_blend 375 = .ok (.iload 11, 2) := by decide +kernel
theorem dX9_blend_377 : decode cX9_blend 377 = .ok (.isub, 1) := by decide +kernel
theorem dX9_blend_378 : decode cX9_blend 378 = .ok (.iload 12, 2) := by decide +kernel
theorem dX9_blend_380 : decode cX9_blend 380 = .ok (.isub, 1) := by decide +kernel
theorem dX9_blend_381 : decode cX9_blend 381 = .ok (.istore 13, 2) := by decide +kernel
theorem dX9_blend_383 : decode cX9_blend 383 = .ok (.iload 13, 2) := by decide +kernel
theorem dX9_blend_385 : decode cX9_blend 385 = .ok (.aload_n 0, 1) := by decide +kernel
theorem dX9_blend_386 : decode cX9_blend 386 = .ok (.getfield 136, 3) := by decide +kernel
theorem dX9_blend_389 : decode cX9_blend 389 = .ok (.iconst 3, 1) := by decide +kernel
theorem dX9_blend_390 : decode cX9_blend 390 = .ok (.iaload, 1) := by decide +kernel
theorem dX9_blend_391 : decode cX9_blend 391 = .ok (.if_icmp .le 6, 3) := by decide +kernel
theorem dX9_blend_394 : decode cX9_blend 394 = .ok (.goto 246, 3) := by decide +kernel
theorem dX9_blend_397 : decode cX9_blend 397 = .ok (.iload 10, 2) := by decide +kernel
theorem dX9_blend_399 : decode cX9_blend 399 = .ok (.i2l, 1) := by decide +kernel
theorem dX9_blend_400 : decode cX9_blend 400 = .ok (.aload_n 0, 1) := by decide +kernel
theorem dX9_blend_401 : decode cX9_blend 401 = .ok (.getfield 127, 3) := by decide +kernel
theorem dX9_blend_404 : decode cX9_blend 404 = .ok (.iconst 0, 1) := by decide +kernel
theorem dX9_blend_405 : decode cX9_blend 405 = .ok (.iaload, 1) := by decide +kernel
theorem dX9_blend_406 : decode cX9_blend 406 = .ok (.i2l, 1) := by decide +kernel
theorem dX9_blend_407 : decode cX9_blend 407 = .ok (.lmul, 1) := by decide +kernel
theorem dX9_blend_408 : decode cX9_blend 408 = .ok (.iload 11, 2) := by decide +kernel
theorem dX9_blend_410 : decode cX9_blend 410 = .ok (.i2l, 1) := by decide +kernel
theorem dX9_blend_411 : decode cX9_blend 411 = .ok (.aload_n 0, 1) := by decide +kernel
theorem dX9_blend_412 : decode cX9_blend 412 = .ok (.getfield 127, 3) := by decide +kernel
theorem dX9_blend_415 : decode cX9_blend 415 = .ok (.iconst 1, 1) := by decide +kernel
theorem dX9_blend_416 : decode cX9_blend 416 = .ok (.iaload, 1) := by decide +kernel
theorem dX9_blend_417 : decode cX9_blend 417 = .ok (.i2l, 1) := by decide +kernel
theorem dX9_blend_418 : decode cX9_blend 418 = .ok (.lmul, 1) := by decide +kernel
theorem dX9_blend_419 : decode cX9_blend 419 = .ok (.ladd, 1) := by decide +kernel
theorem dX9_blend_420 : decode cX9_blend 420 = .ok (.iload 12, 2) := by decide +kernel
theorem dX9_blend_422 : decode cX9_blend 422 = .ok (.i2l, 1) := by decide +kernel
theorem dX9_blend_423 : decode cX9_blend 423 = .ok (.aload_n 0, 1) := by decide +kernel
theorem dX9_blend_424 : decode cX9_blend 424 = .ok (.getfield 127, 3) := by decide +kernel
theorem dX9_blend_427 : decode cX9_blend 427 = .ok (.iconst 2, 1) := by decide +kernel
theorem dX9_blend_428 : decode cX9_blend 428 = .ok (.iaload, 1) := by decide +kernel
theorem dX9_blend_429 : decode cX9_blend 429 = .ok (.i2l, 1) := by decide +kernel
theorem dX9_blend_430 : decode cX9_blend 430 = .ok (.lmul, 1) := by decide +kernel
theorem dX9_blend_431 : decode cX9_blend 431 = .ok (.ladd, 1) := by decide +kernel
theorem dX9_blend_432 : decode cX9_blend 432 = .ok (.iload 13, 2) := by decide +kernel
theorem dX9_blend_434 : decode cX9_blend 434 = .ok (.i2l, 1) := by decide +kernel
theorem dX9_blend_435 : decode cX9_blend 435 = .ok (.aload_n 0, 1) := by decide +kernel
theorem dX9_blend_436 : decode cX9_blend 436 = .ok (.getfield 127, 3) := by decide +kernel
theorem dX9_blend_439 : decode cX9_blend 439 = .ok (.iconst 3, 1) := by decide +kernel
theorem dX9_blend_440 : decode cX9_blend 440 = .ok (.iaload, 1) := by decide +kernel
theorem dX9_blend_441 : decode cX9_blend 441 = .ok (.i2l, 1) := by decide +kernel
theorem dX9_blend_442 : decode cX9_blend 442 = .ok (.lmul, 1) := by decide +kernel
theorem dX9_blend_443 : decode cX9_blend 443 = .ok (.ladd, 1) := by decide +kernel
theorem dX9_blend_444 : decode cX9_blend 444 = .ok (.lstore 14, 2) := by decide +kernel
theorem dX9_blend_446 : decode cX9_blend 446 = .ok (.iload 10, 2) := by decide +kernel
theorem dX9_blend_448 : decode cX9_blend 448 = .ok (.i2l, 1) := by decide +kernel
theorem dX9_blend_449 : decode cX9_blend 449 = .ok (.aload_n 0, 1) := by decide +kernel
theorem dX9_blend_450 : decode cX9_blend 450 = .ok (.getfield 130, 3) := by decide +kernel
theorem dX9_blend_453 : decode cX9_blend 453 = .ok (.iconst 0, 1) := by decide +kernel
theorem dX9_blend_454 : decode cX9_blend 454 = .ok (.iaload, 1) := by decide +kernel
theorem dX9_blend_455 : decode cX9_blend 455 = .ok (.i2l, 1) := by decide +kernel
theorem dX9_blend_456 : decode cX9_blend 456 = .ok (.lmul, 1) := by decide +kernel
theorem dX9_blend_457 : decode cX9_blend 457 = .ok (.iload 11, 2) := by decide +kernel
theorem dX9_blend_459 : decode cX9_blend 459 = .ok (.i2l, 1) := by decide +kernel
theorem dX9_blend_460 : decode cX9_blend 460 = .ok (.aload_n 0, 1) := by decide +kernel
theorem dX9_blend_461 : decode cX9_blend 461 = .ok (.getfield 130, 3) := by decide +kernel
theorem dX9_blend_464 : decode cX9_blend 464 = .ok (.iconst 1, 1) := by decide +kernel
theorem dX9_blend_465 : decode cX9_blend 465 = .ok (.iaload, 1) := by decide +kernel
theorem dX9_blend_466 : decode cX9_blend 466 = .ok (.i2l, 1) := by decide +kernel
theorem dX9_blend_467 : decode cX9_blend 467 = .ok (.lmul, 1) := by decide +kernel
theorem dX9_blend_468 : decode cX9_blend 468 = .ok (.ladd, 1) := by decide +kernel
theorem dX9_blend_469 : decode cX9_blend 469 = .ok (.iload 12, 2) := by decide +kernel
theorem dX9_blend_471 : decode cX9_blend 471 = .ok (.i2l, 1) := by decide +kernel
theorem dX9_blend_472 : decode cX9_blend 472 = .ok (.aload_n 0, 1) := by decide +kernel
theorem dX9_blend_473 : decode cX9_blend 473 = .ok (.getfield 130, 3) := by decide +kernel
theorem dX9_blend_476 : decode cX9_blend 476 = .ok (.iconst 2, 1) := by decide +kernel
theorem dX9_blend_477 : decode cX9_blend 477 = .ok (.iaload, 1) := by decide +kernel
theorem dX9_blend_478 : decode cX9_blend 478 = .ok (.i2l, 1) := by decide +kernel
theorem dX9_blend_479 : decode cX9_blend 479 = .ok (.lmul, 1) := by decide +kernel
theorem dX9_blend_480 : decode cX9_blend 480 = .ok (.ladd, 1) := by decide +kernel
theorem dX9_blend_481 : decode cX9_blend 481 = .ok (.iload 13, 2) := by decide +kernel
theorem dX9_blend_483 : decode cX9_blend 483 = .ok (.i2l, 1) := by decide +kernel
theorem dX9_blend_484 : decode cX9_blend 484 = .ok (.aload_n 0, 1) := by decide +kernel
theorem dX9_blend_485 : decode cX9_blend 485 = .ok (.getfield 130, 3) := by decide +kernel
theorem dX9_blend_488 : decode cX9_blend 488 = .ok (.iconst 3, 1) := by decide +kernel
theorem dX9_blend_489 : decode cX9_blend 489 = .ok (.iaload, 1) := by decide +kernel
theorem dX9_blend_490 : decode cX9_blend 490 = .ok (.i2l, 1) := by decide +kernel
theorem dX9_blend_491 : decode cX9_blend 491 = .ok (.lmul, 1) := by decide +kernel
theorem dX9_blend_492 : decode cX9_blend 492 = .ok (.ladd, 1) := by decide +kernel
theorem dX9_blend_493 : decode cX9_blend 493 = .ok (.lstore 16, 2) := by decide +kernel
theorem dX9_blend_495 : decode cX9_blend 495 = .ok (.lload 14, 2) := by decide +kernel
theorem dX9_blend_497 : decode cX9_blend 497 = .ok (.ldc2_w 185, 3) := by decide +kernel
theorem dX9_blend_500 : decode cX9_blend 500 = .ok (.iload_n 2, 1) := by decide +kernel
theorem dX9_blend_501 : decode cX9_blend 501 = .ok (.i2l, 1) := by decide +kernel
theorem dX9_blend_502 : decode cX9_blend 502 = .ok (.lmul, 1) := by decide +kernel
theorem dX9_blend_503 : decode cX9_blend 503 = .ok (.iload_n 3, 1) := by decide +kernel
theorem dX9_blend_504 : decode cX9_blend 504 = .ok (.i2l, 1) := by decide +kernel
theorem dX9_blend_505 : decode cX9_blend 505 = .ok (.lmul, 1) := by decide +kernel
theorem dX9_blend_506 : decode cX9_blend 506 = .ok (.lcmp, 1) := by decide +kernel
theorem dX9_blend_507 : decode cX9_blend 507 = .ok (.ifCond .gt 133, 3) := by decide +kernel
theorem dX9_blend_510 : decode cX9_blend 510 = .ok (.lload 16, 2) := by decide +kernel
theorem dX9_blend_512 : decode cX9_blend 512 = .ok (.ldc2_w 185, 3) := by decide +kernel
theorem dX9_blend_515 : decode cX9_blend 515 = .ok (.iload_n 2, 1) := by decide +kernel
theorem dX9_blend_516 : decode cX9_blend 516 = .ok (.i2l, 1) := by decide +kernel
theorem dX9_blend_517 : decode cX9_blend 517 = .ok (.lmul, 1) := by decide +kernel
theorem dX9_blend_518 : decode cX9_blend 518 = .ok (.iload 4, 2) := by decide +kernel
theorem dX9_blend_520 : decode cX9_blend 520 = .ok (.i2l, 1) := by decide +kernel
theorem dX9_blend_521 : decode cX9_blend 521 = .ok (.lmul, 1) := by decide +kernel
theorem dX9_blend_522 : decode cX9_blend 522 = .ok (.lcmp, 1) := by decide +kernel
theorem dX9_blend_523 : decode cX9_blend 523 = .ok (.ifCond .lt 117, 3) := by decide +kernel
theorem dX9_blend_526 : decode cX9_blend 526 = .ok (.lload 16, 2) := by decide +kernel
theorem dX9_blend_528 : decode cX9_blend 528 = .ok (.ldc2_w 185, 3) := by decide +kernel
theorem dX9_blend_531 : decode cX9_blend 531 = .ok (.iload_n 2, 1) := by decide +kernel
theorem dX9_blend_532 : decode cX9_blend 532 = .ok (.i2l, 1) := by decide +kernel
theorem dX9_blend_533 : decode cX9_blend 533 = .ok (.lmul, 1) := by decide +kernel
theorem dX9_blend_534 : decode cX9_blend 534 = .ok (.iload 5, 2) := by decide +kernel
theorem dX9_blend_536 : decode cX9_blend 536 = .ok (.i2l, 1) := by decide +kernel
theorem dX9_blend_537 : decode cX9_blend 537 = .ok (.lmul, 1) := by decide +kernel
theorem dX9_blend_538 : decode cX9_blend 538 = .ok (.lcmp, 1) := by decide +kernel
theorem dX9_blend_539 : decode cX9_blend 539 = .ok (.ifCond .le 6, 3) := by decide +kernel
theorem dX9_blend_542 : decode cX9_blend 542 = .ok (.goto 98, 3) := by decide +kernel
theorem dX9_blend_545 : decode cX9_blend 545 = .ok (.iload 10, 2) := by decide +kernel
theorem dX9_blend_547 : decode cX9_blend 547 = .ok (.i2l, 1) := by decide +kernel
theorem dX9_blend_548 : decode cX9_blend 548 = .ok (.aload_n 0, 1) := by decide +kernel
theorem dX9_blend_549 : decode cX9_blend 549 = .ok (.getfield 133, 3) := by decide +kernel
theorem dX9_blend_552 : decode cX9_blend 552 = .ok (.iconst 0, 1) := by decide +kernel
theorem dX9_blend_553 : decode cX9_blend 553 = .ok (.iaload, 1) := by decide +kernel
theorem dX9_blend_554 : decode cX9_blend 554 = .ok (.i2l, 1) := by decide +kernel
theorem dX9_blend_555 : decode cX9_blend 555 = .ok (.lmul, 1) := by decide +kernel
theorem dX9_blend_556 : decode cX9_blend 556 = .ok (.iload 11, 2) := by decide +kernel
theorem dX9_blend_558 : decode cX9_blend 558 = .ok (.i2l, 1) := by decide +kernel
theorem dX9_blend_559 : decode cX9_blend 559 = .ok (.aload_n 0, 1) := by decide +kernel
theorem dX9_blend_560 : decode cX9_blend 560 = .ok (.getfield 133, 3) := by decide +kernel
theorem dX9_blend_563 : decode cX9_blend 563 = .ok (.iconst 1, 1) := by decide +kernel
theorem dX9_blend_564 : decode cX9_blend 564 = .ok (.iaload, 1) := by decide +kernel
theorem dX9_blend_565 : decode cX9_blend 565 = .ok (.i2l, 1) := by decide +kernel
theorem dX9_blend_566 : decode cX9_blend 566 = .ok (.lmul, 1) := by decide +kernel
theorem dX9_blend_567 : decode cX9_blend 567 = .ok (.ladd, 1) := by decide +kernel
theorem dX9_blend_568 : decode cX9_blend 568 = .ok (.iload 12, 2) := by decide +kernel
theorem dX9_blend_570 : decode cX9_blend 570 = .ok (.i2l, 1) := by decide +kernel
theorem dX9_blend_571 : decode cX9_blend 571 = .ok (.aload_n 0, 1) := by decide +kernel
theorem dX9_blend_572 : decode cX9_blend 572 = .ok (.getfield 133, 3) := by decide +kernel
theorem dX9_blend_575 : decode cX9_blend 575 = .ok (.iconst 2, 1) := by decide +kernel
theorem dX9_blend_576 : decode cX9_blend 576 = .ok (.iaload, 1) := by decide +kernel
theorem dX9_blend_577 : decode cX9_blend 577 = .ok (.i2l, 1) := by decide +kernel
theorem dX9_blend_578 : decode cX9_blend 578 = .ok (.lmul, 1) := by decide +kernel
theorem dX9_blend_579 : decode cX9_blend 579 = .ok (.ladd, 1) := by decide +kernel
theorem dX9_blend_580 : decode cX9_blend 580 = .ok (.iload 13, 2) := by decide +kernel
theorem dX9_blend_582 : decode cX9_blend 582 = .ok (.i2l, 1) := by decide +kernel
theorem dX9_blend_583 : decode cX9_blend 583 = .ok (.aload_n 0, 1) := by decide +kernel
theorem dX9_blend_584 : decode cX9_blend 584 = .ok (.getfield 133, 3) := by decide +kernel
theorem dX9_blend_587 : decode cX9_blend 587 = .ok (.iconst 3, 1) := by decide +kernel
theorem dX9_blend_588 : decode cX9_blend 588 = .ok (.iaload, 1) := by decide +kernel
theorem dX9_blend_589 : decode cX9_blend 589 = .ok (.i2l, 1) := by decide +kernel
theorem dX9_blend_590 : decode cX9_blend 590 = .ok (.lmul, 1) := by decide +kernel
theorem dX9_blend_591 : decode cX9_blend 591 = .ok (.ladd, 1) := by decide +kernel
theorem dX9_blend_592 : decode cX9_blend 592 = .ok (.lstore 18, 2) := by decide +kernel
theorem dX9_blend_594 : decode cX9_blend 594 = .ok (.lload 7, 2) := by decide +kernel
theorem dX9_blend_596 : decode cX9_blend 596 = .ok (.lconst 0, 1) := by decide +kernel
theorem dX9_blend_597 : decode cX9_blend 597 = .ok (.lcmp, 1) := by decide +kernel
theorem dX9_blend_598 : decode cX9_blend 598 = .ok (.ifCond .lt 14, 3) := by decide +kernel
theorem dX9_blend_601 : decode cX9_blend 601 = .ok (.lload 18, 2) := by decide +kernel
theorem dX9_blend_603 : decode cX9_blend 603 = .ok (.lload 7, 2) := by decide +kernel
theorem dX9_blend_605 : decode cX9_blend 605 = .ok (.lcmp, 1) := by decide +kernel
theorem dX9_blend_606 : decode cX9_blend 606 = .ok (.ifCond .lt 6, 3) := by decide +kernel
theorem dX9_blend_609 : decode cX9_blend 609 = .ok (.goto 31, 3) := by decide +kernel
theorem dX9_blend_612 : decode cX9_blend 612 = .ok (.lload 18, 2) := by decide +kernel
theorem dX9_blend_614 : decode cX9_blend 614 = .ok (.lstore 7, 2) := by decide +kernel
theorem dX9_blend_616 : decode cX9_blend 616 = .ok (.ldc_w 292, 3) := by decide +kernel
theorem dX9_blend_619 : decode cX9_blend 619 = .ok (.iload 10, 2) := by decide +kernel
theorem dX9_blend_621 : decode cX9_blend 621 = .ok (.imul, 1) := by decide +kernel
theorem dX9_blend_622 : decode cX9_blend 622 = .ok (.sipush 1681, 3) := by decide +kernel
theorem dX9_blend_625 : decode cX9_blend 625 = .ok (.iload 11, 2) := by decide +kernel
theorem dX9_blend_627 : decode cX9_blend 627 = .ok (.imul, 1) := by decide +kernel
theorem dX9_blend_628 : decode cX9_blend 628 = .ok (.iadd, 1) := by decide +kernel
theorem dX9_blend_629 : decode cX9_blend 629 = .ok (.bipush 41, 2) := by decide +kernel
theorem dX9_blend_631 : decode cX9_blend 631 = .ok (.iload 12, 2) := by decide +kernel
theorem dX9_blend_633 : decode cX9_blend 633 = .ok (.imul, 1) := by decide +kernel
theorem dX9_blend_634 : decode cX9_blend 634 = .ok (.iadd, 1) := by decide +kernel
theorem dX9_blend_635 : decode cX9_blend 635 = .ok (.iload 13, 2) := by decide +kernel
theorem dX9_blend_637 : decode cX9_blend 637 = .ok (.iadd, 1) := by decide +kernel
theorem dX9_blend_638 : decode cX9_blend 638 = .ok (.istore 9, 2) := by decide +kernel
theorem dX9_blend_640 : decode cX9_blend 640 = .ok (.iinc 12 1, 3) := by decide +kernel
theorem dX9_blend_643 : decode cX9_blend 643 = .ok (.goto (-295), 3) := by decide +kernel
theorem dX9_blend_646 : decode cX9_blend 646 = .ok (.iinc 11 1, 3) := by decide +kernel
theorem dX9_blend_649 : decode cX9_blend 649 = .ok (.goto (-324), 3) := by decide +kernel
theorem dX9_blend_652 : decode cX9_blend 652 = .ok (.iinc 10 1, 3) := by decide +kernel
theorem dX9_blend_655 : decode cX9_blend 655 = .ok (.goto (-350), 3) := by decide +kernel
theorem dX9_blend_658 : decode cX9_blend 658 = .ok (.lload 7, 2) := by decide +kernel
theorem dX9_blend_660 : decode cX9_blend 660 = .ok (.lconst 0, 1) := by decide +kernel
theorem dX9_blend_661 : decode cX9_blend 661 = .ok (.lcmp, 1) := by decide +kernel
theorem dX9_blend_662 : decode cX9_blend 662 = .ok (.ifCond .ge 6, 3) := by decide +kernel
theorem dX9_blend_665 : decode cX9_blend 665 = .ok (.bipush (-2), 2) := by decide +kernel
theorem dX9_blend_667 : decode cX9_blend 667 = .ok (.ireturn, 1) := by decide +kernel
theorem dX9_blend_668 : decode cX9_blend 668 = .ok (.aload_n 0, 1) := by decide +kernel
theorem dX9_blend_669 : decode cX9_blend 669 = .ok (.iconst 1, 1) := by decide +kernel
theorem dX9_blend_670 : decode cX9_blend 670 = .ok (.putfield 117, 3) := by decide +kernel
theorem dX9_blend_673 : decode cX9_blend 673 = .ok (.iconst 0, 1) := by decide +kernel
theorem dX9_blend_674 : decode cX9_blend 674 = .ok (.istore 10, 2) := by decide +kernel
theorem dX9_blend_676 : decode cX9_blend 676 = .ok (.iload 10, 2) := by decide +kernel
theorem dX9_blend_678 : decode cX9_blend 678 = .ok (.bipush 10, 2) := by decide +kernel
theorem dX9_blend_680 : decode cX9_blend 680 = .ok (.if_icmp .ge 17, 3) := by decide +kernel
theorem dX9_blend_683 : decode cX9_blend 683 = .ok (.aload_n 0, 1) := by decide +kernel
theorem dX9_blend_684 : decode cX9_blend 684 = .ok (.getfield 121, 3) := by decide +kernel
theorem dX9_blend_687 : decode cX9_blend 687 = .ok (.iload 10, 2) := by decide +kernel
theorem dX9_blend_689 : decode cX9_blend 689 = .ok (.iconst 0, 1) := by decide +kernel
theorem dX9_blend_690 : decode cX9_blend 690 = .ok (.iastore, 1) := by decide +kernel
theorem dX9_blend_691 : decode cX9_blend 691 = .ok (.iinc 10 1, 3) := by decide +kernel
theorem dX9_blend_694 : decode cX9_blend 694 = .ok (.goto (-18), 3) := by decide +kernel
theorem dX9_blend_697 : decode cX9_blend 697 = .ok (.iconst 0, 1) := by decide +kernel
theorem dX9_blend_698 : decode cX9_blend 698 = .ok (.istore 10, 2) := by decide +kernel
theorem dX9_blend_700 : decode cX9_blend 700 = .ok (.iload 10, 2) := by decide +kernel
theorem dX9_blend_702 : decode cX9_blend 702 = .ok (.iload 6, 2) := by decide +kernel
theorem dX9_blend_704 : decode cX9_blend 704 = .ok (.if_icmp .ge 75, 3) := by decide +kernel
theorem dX9_blend_707 : decode cX9_blend 707 = .ok (.aload_n 0, 1) := by decide +kernel
theorem dX9_blend_708 : decode cX9_blend 708 = .ok (.getfield 121, 3) := by decide +kernel
theorem dX9_blend_711 : decode cX9_blend 711 = .ok (.aload_n 0, 1) := by decide +kernel
theorem dX9_blend_712 : decode cX9_blend 712 = .ok (.getfield 124, 3) := by decide +kernel
theorem dX9_blend_715 : decode cX9_blend 715 = .ok (.iload 10, 2) := by decide +kernel
theorem dX9_blend_717 : decode cX9_blend 717 = .ok (.iaload, 1) := by decide +kernel
theorem dX9_blend_718 : decode cX9_blend 718 = .ok (.iload 10, 2) := by decide +kernel
theorem dX9_blend_720 : decode cX9_blend 720 = .ok (.ifCond .ne 12, 3) := by decide +kernel
theorem dX9_blend_723 : decode cX9_blend 723 = .ok (.iload 9, 2) := by decide +kernel
theorem dX9_blend_725 : decode cX9_blend 725 = .ok (.ldc_w 292, 3) := by decide +kernel
theorem dX9_blend_728 : decode cX9_blend 728 = .ok (.idiv, 1) := by decide +kernel
theorem dX9_blend_729 : decode cX9_blend 729 = .ok (.goto 43, 3) := by decide +kernel
theorem dX9_blend_732 : decode cX9_blend 732 = .ok (.iload 10, 2) := by decide +kernel
theorem dX9_blend_734 : decode cX9_blend 734 = .ok (.iconst 1, 1) := by decide +kernel
theorem dX9_blend_735 : decode cX9_blend 735 = .ok (.if_icmp .ne 15, 3) := by decide +kernel
theorem dX9_blend_738 : decode cX9_blend 738 = .ok (.iload 9, 2) := by decide +kernel
theorem dX9_blend_740 : decode cX9_blend 740 = .ok (.sipush 1681, 3) := by decide +kernel
theorem dX9_blend_743 : decode cX9_blend 743 = .ok (.idiv, 1) := by decide +kernel
theorem dX9_blend_744 : decode cX9_blend 744 = .ok (.bipush 41, 2) := by decide +kernel
theorem dX9_blend_746 : decode cX9_blend 746 = .ok (.irem, 1) := by decide +kernel
theorem dX9_blend_747 : decode cX9_blend 747 = .ok (.goto 25, 3) := by decide +kernel
theorem dX9_blend_750 : decode cX9_blend 750 = .ok (.iload 10, 2) := by decide +kernel
theorem dX9_blend_752 : decode cX9_blend 752 = .ok (.iconst 2, 1) := by decide +kernel
theorem dX9_blend_753 : decode cX9_blend 753 = .ok (.if_icmp .ne 14, 3) := by decide +kernel
theorem dX9_blend_756 : decode cX9_blend 756 = .ok (.iload 9, 2) := by decide +kernel
theorem dX9_blend_758 : decode cX9_blend 758 = .ok (.bipush 41, 2) := by decide +kernel
theorem dX9_blend_760 : decode cX9_blend 760 = .ok (.idiv, 1) := by decide +kernel
theorem dX9_blend_761 : decode cX9_blend 761 = .ok (.bipush 41, 2) := by decide +kernel
theorem dX9_blend_763 : decode cX9_blend 763 = .ok (.irem, 1) := by decide +kernel
theorem dX9_blend_764 : decode cX9_blend 764 = .ok (.goto 8, 3) := by decide +kernel
theorem dX9_blend_767 : decode cX9_blend 767 = .ok (.iload 9, 2) := by decide +kernel
theorem dX9_blend_769 : decode cX9_blend 769 = .ok (.bipush 41, 2) := by decide +kernel
theorem dX9_blend_771 : decode cX9_blend 771 = .ok (.irem, 1) := by decide +kernel
theorem dX9_blend_772 : decode cX9_blend 772 = .ok (.iastore, 1) := by decide +kernel
theorem dX9_blend_773 : decode cX9_blend 773 = .ok (.iinc 10 1, 3) := by decide +kernel
theorem dX9_blend_776 : decode cX9_blend 776 = .ok (.goto (-76), 3) := by decide +kernel
theorem dX9_blend_779 : decode cX9_blend 779 = .ok (.lload 7, 2) := by decide +kernel
theorem dX9_blend_781 : decode cX9_blend 781 = .ok (.l2i, 1) := by decide +kernel
theorem dX9_blend_782 : decode cX9_blend 782 = .ok (.ireturn, 1) := by decide +kernel
set_option maxRecDepth 20000 in
theorem ggX9_blend_X9_is : GoodIn wsX9_blend wsX9_is := goodIn_r _ [15] rfl (by decide +kernel)
set_option maxRecDepth 20000 in
theorem gX9_blend_X9_is : GoodIn wsX9_blend (va_wsS RX9 151 yX9_is wsX9_is) := goodIn_app (goodIn_of _ (by decide +kernel)) ggX9_blend_X9_is
set_option maxRecDepth 20000 in
theorem ggX9_blend_X9_sum : GoodIn wsX9_blend wsX9_sum := goodIn_r _ [25, 20, 26, 27, 28, 21, 29, 30, 31, 32, 33, 34, 35, 36, 37, 38, 39, 40, 41, 42, 43, 44, 45, 46, 47, 48, 49, 50, 51, 52, 53, 54, 55, 56, 57, 58, 59, 60, 61, 62, 63, 64, 65, 66, 67, 68, 69, 70, 71, 72] rfl (by decide +kernel)
set_option maxRecDepth 20000 in
theorem gX9_blend_X9_sum : GoodIn wsX9_blend (wsV RX9 187 RX9 yX9_sum wsX9_sum) := goodIn_app (goodIn_of _ (by decide +kernel)) ggX9_blend_X9_sum
set_option maxRecDepth 20000 in
theorem ggX9_blend_X9_all : GoodIn wsX9_blend wsX9_all := goodIn_r _ [19, 20, 21, 29, 30, 31, 32, 33, 34, 35, 36, 37, 38, 39, 40, 41, 42, 43, 44, 45, 46, 47, 48, 49, 50, 51, 52, 53, 54, 55, 56, 57, 58, 59, 60, 61, 62, 63, 64, 65, 66, 67, 68, 69, 70, 71, 72] rfl (by decide +kernel)
set_option maxRecDepth 20000 in
theorem gX9_blend_X9_all : GoodIn wsX9_blend (wsV RX9 169 RX9 yX9_all wsX9_all) := goodIn_app (goodIn_of _ (by decide +kernel)) ggX9_blend_X9_all
theorem cB_1 : ∀ n : Fin 1024, ¬ n.val = 0 → 1 ≤ cB (nI n.val) 10 := by decide +kernel
theorem bt_lo {fv : Nat → Nat → Int32} {a : Int32} (h : bAT fv a) : ¬ a < 1 ∧ ¬ 1023 < a := by
  obtain ⟨⟨n, hn, e⟩, h1, -⟩ := h
  have c1 : nI n < 1 ↔ n < 1 := nI_ltI (a := n) (b := 1) (by omega) (by omega)
  have c2 : (1023 : Int32) < nI n ↔ 1023 < n := nI_ltI (a := 1023) (b := n) (by omega) (by omega)
  rw [e, c1, c2]
  refine ⟨fun z => ?_, by omega⟩
  have z0 : n = 0 := by omega
  rw [e, z0] at h1
  exact absurd h1 (by decide)
theorem bt_hi {a : Int32} (h1 : ¬ a < 1) (h2 : ¬ 1023 < a) : (∃ n : Nat, n < 1024 ∧ a = nI n) ∧ 1 ≤ cB a 10 := by
  obtain ⟨n, l1, l2, e⟩ := is_nat (a := 1) (b := 1023) h1 h2 (by omega)
  refine ⟨⟨n, by omega, e⟩, ?_⟩
  rw [e]
  exact cB_1 ⟨n, by omega⟩ (by show ¬ n = 0; omega)
theorem bNo_x {fv : Nat → Nat → Int32} {n : Nat} {bits a2 a3 a4 a5 : Int32} (h : a5 < a4) : bNo fv n bits a2 a3 a4 a5 := by
  rintro m wa le mo a b c ⟨⟨k1, l1, l1'⟩, -, ⟨k3, l3⟩, ⟨k4, l4⟩, -⟩ ⟨-, -, f1, f2⟩
  rw [k3, k4, nI_ltI (by omega) (by omega)] at h
  have h2 : m * 10 * mo < m * 10 * le := Nat.mul_lt_mul_of_pos_left h (by omega)
  omega
theorem m64 {x y : Nat} (hx : x ≤ 400) (hy : y ≤ 10000) : (nI x).toInt64 * (nI y).toInt64 = (nI (x * y)).toInt64 := by
  have b : x * y ≤ 400 * 10000 := Nat.mul_le_mul hx hy
  have e : ((x * y : Nat) : Int) = (x : Int) * (y : Int) := Int.natCast_mul ..
  apply Int64.toInt_inj.mp
  rw [Int64.toInt_mul, l64_of (by omega), l64_of (by omega), l64_of (by omega), ← e]
  exact bm64 (by omega) (by omega)
theorem a64 {x y : Nat} (h : x + y < 2 ^ 31) : (nI x).toInt64 + (nI y).toInt64 = (nI (x + y)).toInt64 := by
  apply Int64.toInt_inj.mp
  rw [Int64.toInt_add, l64_of (by omega), l64_of (by omega), l64_of (by omega)]
  rw [bm64 (by omega) (by omega)]
  omega
theorem m10 {y : Nat} (hy : y ≤ 40) : (10 : Int64) * (nI y).toInt64 = (nI (y * 10)).toInt64 := by
  have e : (10 : Int64).toInt = 10 := by decide
  apply Int64.toInt_inj.mp
  rw [Int64.toInt_mul, e, l64_of (by omega), l64_of (by omega), bm64 (by omega) (by omega)]
  omega
theorem lc_gt {x y : Nat} (hx : x < 2 ^ 31) (hy : y < 2 ^ 31) : 0 < lg_cmp (nI x).toInt64 (nI y).toInt64 ↔ y < x := by rw [lg_cmp_gt, Int64.lt_iff_toInt_lt, l64_of hx, l64_of hy]; omega
theorem lc_lt {x y : Nat} (hx : x < 2 ^ 31) (hy : y < 2 ^ 31) : lg_cmp (nI x).toInt64 (nI y).toInt64 < 0 ↔ x < y := by rw [lg_cmp_lt, Int64.lt_iff_toInt_lt, l64_of hx, l64_of hy]; omega
theorem i_le0 {z : Int32} : z ≤ 0 ↔ ¬ 0 < z := by
  have e : (0 : Int32).toInt = 0 := by decide
  rw [i_le, i_lt, e]; omega
theorem lc_0 {x : Nat} (hx : x < 2 ^ 31) : ¬ lg_cmp (nI x).toInt64 0 < 0 := fun h => by
  rw [lg_cmp_lt, Int64.lt_iff_toInt_lt, l64_of hx] at h
  have e : (0 : Int64).toInt = 0 := by decide
  omega
theorem ge_0 {z : Int32} (h : ¬ z < 0) : 0 ≤ z := by
  have e : (0 : Int32).toInt = 0 := by decide
  rw [i_lt] at h
  rw [i_le]; omega
theorem rm_n {x k : Nat} (hx : x < 2 ^ 31) (hk : k < 2 ^ 31) : nI x - nI x / nI k * nI k = nI (x % k) := by
  rw [dv_n hx hk, pk_mul]
  have h := Nat.div_add_mod x k
  rw [Nat.mul_comm] at h
  have h2 : x / k * k ≤ x := Nat.div_mul_le_self x k
  have h3 : nI x - nI (x / k * k) = nI (x - x / k * k) := pk_sub h2
  rw [h3]
  congr 1
  omega
/-- the reference's search: its best price and what it kept -/
def bY (F : Nat → Nat → Nat → Prop) (p : Nat → Nat → Nat → Nat) (m : Nat) (v : Int64) (k : Int32) (x1 x2 x3 : Nat) : Prop := (v = (-1) ∧ bN F x1 x2 x3) ∨ ∃ a b c : Nat, bS F p x1 x2 x3 a b c ∧ v = (nI (p a b c)).toInt64 ∧ k = nI (68921 * a + 1681 * b + 41 * c + (m - a - b - c))
theorem bY_to {F : Nat → Nat → Nat → Prop} {p : Nat → Nat → Nat → Nat} {m x y z : Nat} {v : Int64} {k : Int32} {x' y' z' : Nat} (h : bY F p m v k x y z) (hm : ∀ a b c : Nat, lx a b c x y z → lx a b c x' y' z') (hs : ∀ a b c : Nat, lx a b c x' y' z' → ¬ lx a b c x y z → ¬ F a b c) : bY F p m v k x' y' z' := by
  rcases h with ⟨h1, h2⟩ | ⟨a, b, c, h2, h3⟩
  · exact Or.inl ⟨h1, bN_to h2 hs⟩
  · exact Or.inr ⟨a, b, c, bS_to h2 (hm a b c) hs, h3⟩
theorem bY_0 {F : Nat → Nat → Nat → Prop} {p : Nat → Nat → Nat → Nat} {m : Nat} {k : Int32} : bY F p m (-1) k 0 0 0 := Or.inl ⟨rfl, fun a b c h => by unfold lx at h; omega⟩
theorem kbs_s {bits : Int32} {k t : Nat} {g f : Nat → Int32} (hk : k < cB bits 10) (h : ∀ t : Nat, t < 10 → g t = if bB bits t ∧ cB bits t < k then f (cB bits t) else 0) (ht : t < 10) : upd g (tK bits k) (f k) t = if bB bits t ∧ cB bits t < k + 1 then f (cB bits t) else 0 := by
  obtain ⟨h1, h2, h3⟩ := tK_at hk
  rcases Nat.decEq t (tK bits k) with q | q
  · rw [upd_n q, h t ht]
    by_cases z : bB bits t ∧ cB bits t < k
    · rw [if_pos z, if_pos ⟨z.1, by omega⟩]
    · rw [if_neg z, if_neg]
      rintro ⟨z1, z2⟩
      have : cB bits t = k := Nat.le_antisymm (by omega) (Nat.le_of_not_lt (fun y => z ⟨z1, y⟩))
      exact q (by rw [← this, tK_eq z1 ht])
  · subst q
    rw [upd_s, if_pos ⟨h2, by omega⟩, h3]
theorem kbs_e {bits : Int32} {m a b c : Nat} {g : Nat → Int32} (h : ∀ t : Nat, t < 10 → g t = if bB bits t ∧ cB bits t < cB bits 10 then nI (sel4 m a b c (cB bits t)) else 0) : ∀ t : Nat, t < 10 → g t = nI (bPt bits m a b c t) := fun t ht => by
  rw [h t ht, bPt]
  by_cases z : bB bits t
  · rw [if_pos ⟨z, cB_lt z ht⟩, if_pos z]
  · rw [if_neg (fun y => z y.1), if_neg z]; exact nI_0.symm
theorem kp_b {a b c d : Nat} (ha : a ≤ 40) (hb : b ≤ 40) (hc : c ≤ 40) (hd : d ≤ 40) : 68921 * a + 1681 * b + 41 * c + d < 2 ^ 30 ∧ (68921 * a + 1681 * b + 41 * c + d) / 68921 = a ∧ (68921 * a + 1681 * b + 41 * c + d) / 1681 % 41 = b ∧ (68921 * a + 1681 * b + 41 * c + d) / 41 % 41 = c ∧ (68921 * a + 1681 * b + 41 * c + d) % 41 = d := by
  omega
theorem bw_k {fv : Nat → Nat → Int32} {n k : Nat} {a : Int32} (V : NV fv n) (X : WV fv n) (hn : n ≤ 40) (hA : bAT fv a) (hk : k < cB a 10) : bT fv n (tK a k) 0 = nI (bW fv n a k) ∧ bT fv n (tK a k) 1 = nI (bC fv n a k) ∧ fv 12 (tK a k) = nI (bP fv a k) ∧ mall (fv 9) (tK a k) 40 / 1000 = nI (bM fv a k) := by
  obtain ⟨h1, h2, h3⟩ := tK_at hk
  obtain ⟨w1, b1, e1⟩ := bT_w V X hn h1 (hA.2.2.2 _ h1 h2)
  obtain ⟨w2, b2, e2⟩ := bT_c V X hn h1 (hA.2.2.2 _ h1 h2)
  obtain ⟨w3, b3, e3⟩ := mall_tot V (t := tK a k) (by omega)
  obtain ⟨w4, b4, e4⟩ := X.2 _ h1
  rw [bW, bC, bP, bM, if_pos hk, if_pos hk, if_pos hk, if_pos hk]
  refine ⟨(cl_n e1 (by omega)).2, (cl_n e2 (by omega)).2, (cl_n e4 (by omega)).2, ?_⟩
  rw [(cl_n e3 (by omega)).1, e3]
  exact dv_n (k := 1000) (by omega) (by omega)
theorem bw_0 {fv : Nat → Nat → Int32} {n k : Nat} {a : Int32} (hk : ¬ k < cB a 10) : nI (bW fv n a k) = 0 ∧ nI (bC fv n a k) = 0 ∧ nI (bP fv a k) = 0 ∧ nI (bM fv a k) = 0 := by
  rw [bW, bC, bP, bM, if_neg hk, if_neg hk, if_neg hk, if_neg hk]
  exact ⟨nI_0, nI_0, nI_0, nI_0⟩
theorem bt_m {fv : Nat → Nat → Int32} {n t q : Nat} {r : Int64} {r2 : Int32} (hq : q = 0 ∨ q = 1) (h1 : r = wG (wRow fv t) (pgN fv q) n) (h2 : r2 = mall (fv 9) t 40) : (10 * r / r2.toInt64).toInt32 = bT fv n t (nI q) := by
  have n2 : ¬ nI q = 2 := fun z => by
    have : q = 2 := nI_ij (by omega) (by omega) z
    omega
  rw [bT, tld, if_neg n2]
  exact dv_cg (h1.trans (wG_cg n (fun _ _ => rfl) (fun i _ => (pg_eq (show isQ q from by unfold isQ; omega)).symm))) h2
theorem cB_5 {a : Int32} {t : Nat} (h : bB a t) (ht : t < 10) (h4 : cB a t = 4) : ¬ cB a 10 ≤ 4 := by
  have := cB_lt h ht
  omega
theorem rwb_s {f f' : Nat → Int32} {k : Nat} {φ : Nat → Nat} {v : Int32} (h : ∀ q : Nat, q < k → f q = nI (φ q)) (e : f' = upd f k v) (hv : v = nI (φ k)) : ∀ q : Nat, q < k + 1 → f' q = nI (φ q) := fun q hq => by
  rw [e]
  rcases Nat.decEq q k with z | z
  · rw [upd_n z]; exact h q (by omega)
  · rw [z, upd_s]; exact hv
set_option maxHeartbeats 4000000 in
set_option maxRecDepth 100000 in
theorem m_blend (l : Launch) (D : va_G) (h0 : Nat) (ad : Nat → Nat) (cs : Nat → ClassId) (iv : Nat → Int32) (fv : Nat → Nat → Int32) (gv : Nat → Int64) (n3 : Nat) (a1 a2 a3 a4 a5 : Int32) (sz : Nat) (h3 : iv 3 = nI n3) (b3 : n3 ≤ 40) (hM : ∀ r9 : Nat, r9 < 70 → mall (fv 9) r9 n3 = mall (fv 9) r9 40) (hV : NV fv n3) (hX : WV fv n3) : Met l yX9_blend wsX9_blend ({ frames := 1, cells := 0, slots := 0, locals := 26 }) (va_Pc [.ref h0, .int a1, .int a2, .int a3, .int a4, .int a5] (fun U => U.heap.size = sz ∧ va_P D vwCl (mw h0 ad cs iv fv gv) U.heap ∧ va_K D vwCl (mT cs) U ∧ va_D (fun _ => True) (mw h0 ad cs iv fv gv))) (va_Qi (fun (r u : Int32) => r = u) (fun (r : Int32) (t : State) => ∃ (i35 : Int32) (f36 : Nat → Int32) (f37 : Nat → Int32) (f38 : Nat → Int32) (f39 : Nat → Int32) (f40 : Nat → Int32) (f41 : Nat → Int32), ((bNo fv n3 a1 a2 a3 a4 a5 ∧ i35 = iv 35 ∧ f36 = fv 36) ∨ (i35 = 1 ∧ bTd fv n3 a1 a2 a3 a4 a5 f36)) ∧ va_P D vwCl (mw h0 ad cs (upd iv 35 i35) (uF (uF (uF (uF (uF (uF fv 36 f36) 37 f37) 38 f38) 39 f39) 40 f40) 41 f41) gv) t.heap ∧ va_K D vwCl (mT cs) t ∧ va_D (va_A (mw h0 ad cs iv fv gv) sz) (mw h0 ad cs (upd iv 35 i35) (uF (uF (uF (uF (uF (uF fv 36 f36) 37 f37) 38 f38) 39 f39) 40 f40) 41 f41) gv)) (va_A (mw h0 ad cs iv fv gv) sz)) 0 0 (va_A (mw h0 ad cs iv fv gv) sz) := by
  refine Met.ofW (cc := cX9_blend) (maxL := 20) (ret := (some .int)) (by decide) rfl ?_
  intro p e s m args below meth c s₁ B hml hv
  obtain ⟨rfl, hsz, hP, hK, hD0⟩ := hv
  have hx := B.exec
  have hb := B.bytes
  have hr := B.returns
  have hts := atoms_spec (ws := wsX9_blend) B.pre
  have hown : s.vm.findClass RX9 = some m.cls := findClass_of_methodNamed B.named
  have hlocks := B.notSynchronized
  subst hsz
  have hD := hD0.self (sz := s.heap.size)
  generalize hAe : va_A (mw h0 ad cs iv fv gv) s.heap.size = A at hD ⊢
  have hA : ∀ q : Nat, s.heap.size ≤ q → A q := fun q h => by rw [← hAe]; exact Or.inr h
  have hS : va_S A s.heap s.heap [] := va_S.rf
  have hin9 : ∀ w ∈ u_ws RX9 TX9 44, w ∈ wsX9_blend := (fun _ h9 => List.mem_cons_of_mem _ ((List.mem_append_right _ h9)))
  have hl := lv_entry ([.ref h0, .int a1, .int a2, .int a3, .int a4, .int a5]) (n := 20) (Nat.le_of_ble_eq_true rfl)
  rw [lg_entry_eq]
  generalize (lg_sl ([.ref h0, .int a1, .int a2, .int a3, .int a4, .int a5]) ++ List.replicate (20 - (lg_sl ([.ref h0, .int a1, .int a2, .int a3, .int a4, .int a5])).length) Slot.unset).toArray = ls at hl ⊢
  have hl : lv_has ls 20 [(0, .ref h0), (1, .int a1), (2, .int a2), (3, .int a3), (4, .int a4), (5, .int a5)] := hl
  refine lv_iload_n hx hb dX9_blend_0 rfl (lv_at hl 1 rfl) ?_
  refine lv_iconst (v := 1) hx hb dX9_blend_1 (by decide) ?_
  refine lv_icmp_lt (tgt := 58) hx hb dX9_blend_2 (by decide) (fun c_1 => ?_) (fun c_1 => ?_)
  · refine lv_iconst (v := (-1)) hx hb dX9_blend_58 (by decide) ?_
    have hP : va_P D vwCl (mw h0 ad cs (upd iv 35 (iv 35)) (uF (uF (uF (uF (uF (uF fv 36 (fv 36)) 37 (fv 37)) 38 (fv 38)) 39 (fv 39)) 40 (fv 40)) 41 (fv 41)) gv) s.heap := hP
    have hD : va_D A (mw h0 ad cs (upd iv 35 (iv 35)) (uF (uF (uF (uF (uF (uF fv 36 (fv 36)) 37 (fv 37)) 38 (fv 38)) 39 (fv 39)) 40 (fv 40)) 41 (fv 41)) gv) := hD
    exact W.iret (v := (-1)) hx hb hr (fun t ht hW => ⟨⟨(-1), (-1), rfl, rfl, iv 35, fv 36, fv 37, fv 38, fv 39, fv 40, fv 41, Or.inl ⟨bNo_i (Or.inr (Or.inr (Or.inr (Or.inr (fun h9 => (bt_lo h9).1 c_1))))), rfl, rfl⟩, by rw [ht]; exact hP, va_K.moved hW.alike hK, hD⟩, hS.F ht⟩) hS.2.2 dX9_blend_59
  refine lv_iload_n hx hb dX9_blend_5 rfl (lv_at hl 1 rfl) ?_
  refine lv_sipush (v := 1023) hx hb dX9_blend_6 (by decide) ?_
  refine lv_icmp_gt (tgt := 58) hx hb dX9_blend_9 (by decide) (fun c_2 => ?_) (fun c_2 => ?_)
  · refine lv_iconst (v := (-1)) hx hb dX9_blend_58 (by decide) ?_
    have hP : va_P D vwCl (mw h0 ad cs (upd iv 35 (iv 35)) (uF (uF (uF (uF (uF (uF fv 36 (fv 36)) 37 (fv 37)) 38 (fv 38)) 39 (fv 39)) 40 (fv 40)) 41 (fv 41)) gv) s.heap := hP
    have hD : va_D A (mw h0 ad cs (upd iv 35 (iv 35)) (uF (uF (uF (uF (uF (uF fv 36 (fv 36)) 37 (fv 37)) 38 (fv 38)) 39 (fv 39)) 40 (fv 40)) 41 (fv 41)) gv) := hD
    exact W.iret (v := (-1)) hx hb hr (fun t ht hW => ⟨⟨(-1), (-1), rfl, rfl, iv 35, fv 36, fv 37, fv 38, fv 39, fv 40, fv 41, Or.inl ⟨bNo_i (Or.inr (Or.inr (Or.inr (Or.inr (fun h9 => (bt_lo h9).2 c_2))))), rfl, rfl⟩, by rw [ht]; exact hP, va_K.moved hW.alike hK, hD⟩, hS.F ht⟩) hS.2.2 dX9_blend_59
  refine lv_iload_n hx hb dX9_blend_12 rfl (lv_at hl 2 rfl) ?_
  refine lv_iconst (v := 1) hx hb dX9_blend_13 (by decide) ?_
  refine lv_bipush (v := 40) hx hb dX9_blend_14 (by decide) ?_
  refine vp_callSi (W.runS (As := [.int a2, .int 1, .int 40]) (rest := []) ⟨hx, hb, hml, hown, hts⟩ (s_X9_is l a2 1 40) (va_cwS 3 hts gX9_blend_X9_is rfl rfl rfl (by decide +kernel) ⟨Nat.le_of_ble_eq_true rfl, Nat.le_of_ble_eq_true rfl⟩) ⟨fun a U g mk q => q, fun U hU hW => ⟨rfl, trivial⟩⟩ rfl rfl hl.1 rfl (lv_room (Nat.le_of_ble_eq_true rfl)) dX9_blend_16 ⟨Nat.le_of_ble_eq_true rfl, Nat.le_of_ble_eq_true rfl⟩) (fun r_3 k_4 => ?_)
  rcases k_4 with ⟨rfl, o_5⟩ | ⟨rfl, a_6, b_7⟩
  · refine lv_if_eq (tgt := 58) hx hb dX9_blend_19 (by decide) (fun c_8 => ?_) (fun c_8 => absurd (by decide) c_8)
    refine lv_iconst (v := (-1)) hx hb dX9_blend_58 (by decide) ?_
    have hP : va_P D vwCl (mw h0 ad cs (upd iv 35 (iv 35)) (uF (uF (uF (uF (uF (uF fv 36 (fv 36)) 37 (fv 37)) 38 (fv 38)) 39 (fv 39)) 40 (fv 40)) 41 (fv 41)) gv) s.heap := hP
    have hD : va_D A (mw h0 ad cs (upd iv 35 (iv 35)) (uF (uF (uF (uF (uF (uF fv 36 (fv 36)) 37 (fv 37)) 38 (fv 38)) 39 (fv 39)) 40 (fv 40)) 41 (fv 41)) gv) := hD
    exact W.iret (v := (-1)) hx hb hr (fun t ht hW => ⟨⟨(-1), (-1), rfl, rfl, iv 35, fv 36, fv 37, fv 38, fv 39, fv 40, fv 41, Or.inl ⟨bNo_i (Or.inl o_5), rfl, rfl⟩, by rw [ht]; exact hP, va_K.moved hW.alike hK, hD⟩, hS.F ht⟩) hS.2.2 dX9_blend_59
  refine lv_if_eq (tgt := 58) hx hb dX9_blend_19 (by decide) (fun c_9 => absurd c_9 (by decide)) (fun c_9 => ?_)
  refine lv_iload_n hx hb dX9_blend_22 rfl (lv_at hl 3 rfl) ?_
  refine lv_iconst (v := 0) hx hb dX9_blend_23 (by decide) ?_
  refine lv_sipush (v := 300) hx hb dX9_blend_24 (by decide) ?_
  refine vp_callSi (W.runS (As := [.int a3, .int 0, .int 300]) (rest := []) ⟨hx, hb, hml, hown, hts⟩ (s_X9_is l a3 0 300) (va_cwS 3 hts gX9_blend_X9_is rfl rfl rfl (by decide +kernel) ⟨Nat.le_of_ble_eq_true rfl, Nat.le_of_ble_eq_true rfl⟩) ⟨fun a U g mk q => q, fun U hU hW => ⟨rfl, trivial⟩⟩ rfl rfl hl.1 rfl (lv_room (Nat.le_of_ble_eq_true rfl)) dX9_blend_27 ⟨Nat.le_of_ble_eq_true rfl, Nat.le_of_ble_eq_true rfl⟩) (fun r_10 k_11 => ?_)
  rcases k_11 with ⟨rfl, o_12⟩ | ⟨rfl, a_13, b_14⟩
  · refine lv_if_eq (tgt := 58) hx hb dX9_blend_30 (by decide) (fun c_15 => ?_) (fun c_15 => absurd (by decide) c_15)
    refine lv_iconst (v := (-1)) hx hb dX9_blend_58 (by decide) ?_
    have hP : va_P D vwCl (mw h0 ad cs (upd iv 35 (iv 35)) (uF (uF (uF (uF (uF (uF fv 36 (fv 36)) 37 (fv 37)) 38 (fv 38)) 39 (fv 39)) 40 (fv 40)) 41 (fv 41)) gv) s.heap := hP
    have hD : va_D A (mw h0 ad cs (upd iv 35 (iv 35)) (uF (uF (uF (uF (uF (uF fv 36 (fv 36)) 37 (fv 37)) 38 (fv 38)) 39 (fv 39)) 40 (fv 40)) 41 (fv 41)) gv) := hD
    exact W.iret (v := (-1)) hx hb hr (fun t ht hW => ⟨⟨(-1), (-1), rfl, rfl, iv 35, fv 36, fv 37, fv 38, fv 39, fv 40, fv 41, Or.inl ⟨bNo_i (Or.inr (Or.inl o_12)), rfl, rfl⟩, by rw [ht]; exact hP, va_K.moved hW.alike hK, hD⟩, hS.F ht⟩) hS.2.2 dX9_blend_59
  refine lv_if_eq (tgt := 58) hx hb dX9_blend_30 (by decide) (fun c_16 => absurd c_16 (by decide)) (fun c_16 => ?_)
  refine lv_iload hx hb dX9_blend_33 (lv_at hl 4 rfl) ?_
  refine lv_iconst (v := 0) hx hb dX9_blend_35 (by decide) ?_
  refine lv_sipush (v := 140) hx hb dX9_blend_36 (by decide) ?_
  refine vp_callSi (W.runS (As := [.int a4, .int 0, .int 140]) (rest := []) ⟨hx, hb, hml, hown, hts⟩ (s_X9_is l a4 0 140) (va_cwS 3 hts gX9_blend_X9_is rfl rfl rfl (by decide +kernel) ⟨Nat.le_of_ble_eq_true rfl, Nat.le_of_ble_eq_true rfl⟩) ⟨fun a U g mk q => q, fun U hU hW => ⟨rfl, trivial⟩⟩ rfl rfl hl.1 rfl (lv_room (Nat.le_of_ble_eq_true rfl)) dX9_blend_39 ⟨Nat.le_of_ble_eq_true rfl, Nat.le_of_ble_eq_true rfl⟩) (fun r_17 k_18 => ?_)
  rcases k_18 with ⟨rfl, o_19⟩ | ⟨rfl, a_20, b_21⟩
  · refine lv_if_eq (tgt := 58) hx hb dX9_blend_42 (by decide) (fun c_22 => ?_) (fun c_22 => absurd (by decide) c_22)
    refine lv_iconst (v := (-1)) hx hb dX9_blend_58 (by decide) ?_
    have hP : va_P D vwCl (mw h0 ad cs (upd iv 35 (iv 35)) (uF (uF (uF (uF (uF (uF fv 36 (fv 36)) 37 (fv 37)) 38 (fv 38)) 39 (fv 39)) 40 (fv 40)) 41 (fv 41)) gv) s.heap := hP
    have hD : va_D A (mw h0 ad cs (upd iv 35 (iv 35)) (uF (uF (uF (uF (uF (uF fv 36 (fv 36)) 37 (fv 37)) 38 (fv 38)) 39 (fv 39)) 40 (fv 40)) 41 (fv 41)) gv) := hD
    exact W.iret (v := (-1)) hx hb hr (fun t ht hW => ⟨⟨(-1), (-1), rfl, rfl, iv 35, fv 36, fv 37, fv 38, fv 39, fv 40, fv 41, Or.inl ⟨bNo_i (Or.inr (Or.inr (Or.inl o_19))), rfl, rfl⟩, by rw [ht]; exact hP, va_K.moved hW.alike hK, hD⟩, hS.F ht⟩) hS.2.2 dX9_blend_59
  refine lv_if_eq (tgt := 58) hx hb dX9_blend_42 (by decide) (fun c_23 => absurd c_23 (by decide)) (fun c_23 => ?_)
  refine lv_iload hx hb dX9_blend_45 (lv_at hl 5 rfl) ?_
  refine lv_iload hx hb dX9_blend_47 (lv_at hl 4 rfl) ?_
  refine lv_sipush (v := 140) hx hb dX9_blend_49 (by decide) ?_
  refine vp_callSi (W.runS (As := [.int a5, .int a4, .int 140]) (rest := []) ⟨hx, hb, hml, hown, hts⟩ (s_X9_is l a5 a4 140) (va_cwS 3 hts gX9_blend_X9_is rfl rfl rfl (by decide +kernel) ⟨Nat.le_of_ble_eq_true rfl, Nat.le_of_ble_eq_true rfl⟩) ⟨fun a U g mk q => q, fun U hU hW => ⟨rfl, trivial⟩⟩ rfl rfl hl.1 rfl (lv_room (Nat.le_of_ble_eq_true rfl)) dX9_blend_52 ⟨Nat.le_of_ble_eq_true rfl, Nat.le_of_ble_eq_true rfl⟩) (fun r_24 k_25 => ?_)
  rcases k_25 with ⟨rfl, o_26⟩ | ⟨rfl, a_27, b_28⟩
  · refine lv_if_ne (tgt := 60) hx hb dX9_blend_55 (by decide) (fun c_29 => absurd (by decide) c_29) (fun c_29 => ?_)
    refine lv_iconst (v := (-1)) hx hb dX9_blend_58 (by decide) ?_
    have hP : va_P D vwCl (mw h0 ad cs (upd iv 35 (iv 35)) (uF (uF (uF (uF (uF (uF fv 36 (fv 36)) 37 (fv 37)) 38 (fv 38)) 39 (fv 39)) 40 (fv 40)) 41 (fv 41)) gv) s.heap := hP
    have hD : va_D A (mw h0 ad cs (upd iv 35 (iv 35)) (uF (uF (uF (uF (uF (uF fv 36 (fv 36)) 37 (fv 37)) 38 (fv 38)) 39 (fv 39)) 40 (fv 40)) 41 (fv 41)) gv) := hD
    exact W.iret (v := (-1)) hx hb hr (fun t ht hW => ⟨⟨(-1), (-1), rfl, rfl, iv 35, fv 36, fv 37, fv 38, fv 39, fv 40, fv 41, Or.inl ⟨o_26.elim (fun h9 => bNo_x h9) (fun h9 => bNo_i (Or.inr (Or.inr (Or.inr (Or.inl (Or.inr h9)))))), rfl, rfl⟩, by rw [ht]; exact hP, va_K.moved hW.alike hK, hD⟩, hS.F ht⟩) hS.2.2 dX9_blend_59
  refine lv_if_ne (tgt := 60) hx hb dX9_blend_55 (by decide) (fun c_30 => ?_) (fun c_30 => absurd c_30 (by decide))
  have z_31 : ¬ a5 < 0 := by have h8 := a_20; have h9 := a_27; rw [i_lt] at h8 h9 ⊢; have e0 : (0 : Int32).toInt = 0 := (by decide); omega
  have hmo9 := a_27
  obtain ⟨pm, hpm1, hpm2, rfl⟩ := is_nat (a := 1) (b := 40) a_6 b_7 (by omega)
  obtain ⟨wa, hwa1, hwa2, rfl⟩ := is_nat (a := 0) (b := 300) a_13 b_14 (by omega)
  obtain ⟨le, hle1, hle2, rfl⟩ := is_nat (a := 0) (b := 140) a_20 b_21 (by omega)
  obtain ⟨mo, hmo1, hmo2, rfl⟩ := is_nat (a := 0) (b := 140) z_31 b_28 (by omega)
  obtain ⟨hbits, hc1⟩ := bt_hi c_1 c_2
  refine lv_iconst (v := 0) hx hb dX9_blend_60 (by decide) ?_
  refine lv_istore (lv' := [(6, .int 0), (0, .ref h0), (1, .int a1), (2, .int (nI pm)), (3, .int (nI wa)), (4, .int (nI le)), (5, .int (nI mo))]) hx hb dX9_blend_61 hl (by decide) rfl (fun ls hl => ?_)
  refine lv_iconst (v := 0) hx hb dX9_blend_63 (by decide) ?_
  refine lv_istore (lv' := [(7, .int 0), (6, .int 0), (0, .ref h0), (1, .int a1), (2, .int (nI pm)), (3, .int (nI wa)), (4, .int (nI le)), (5, .int (nI mo))]) hx hb dX9_blend_64 hl (by decide) rfl (fun ls hl => ?_)
  refine lp_V (nL := 20) (σ := Nat × Nat × (Nat → Int32)) (lv := fun x9 => [(7, .int (nI x9.1)), (6, .int (nI x9.2.1)), (5, .int (nI mo)), (4, .int (nI le)), (3, .int (nI wa)), (2, .int (nI pm)), (1, .int a1), (0, .ref h0)]) (μ := fun x9 => 10 - x9.1) (J := fun x9 ws9 => ws9 = (mw h0 ad cs iv (uF fv 37 x9.2.2) gv) ∧ (x9.1 ≤ 10) ∧ (x9.2.1 = cB a1 x9.1) ∧ (x9.2.1 ≤ 4) ∧ (∀ k9 : Nat, k9 < x9.2.1 → x9.2.2 k9 = nI (tK a1 k9)) ∧ (∀ u9 : Nat, u9 < x9.1 → bB a1 u9 → ¬ mall (fv 9) u9 40 = 0)) (fun x9 ws9 H locs ls hj hP hD hS hl ih_32 => ?_) (0, 0, fv 37) (mw h0 ad cs iv fv gv) _ _ ls ⟨rfl, (show 0 ≤ 10 from by omega), (show 0 = cB a1 0 from rfl), (show 0 ≤ 4 from by omega), (show ∀ k9 : Nat, k9 < 0 → (fv 37) k9 = nI (tK a1 k9) from fun k9 h9 => absurd h9 (Nat.not_lt_zero _)), (show ∀ u9 : Nat, u9 < 0 → bB a1 u9 → ¬ mall (fv 9) u9 40 = 0 from fun k9 h9 => absurd h9 (by omega))⟩ hP hD hS (lv_sub hl [0, 1, 7, 6, 5, 4, 3, 2] rfl)
  obtain ⟨t_33, n_34, f37_35⟩ := x9
  replace hj : ws9 = (mw h0 ad cs iv (uF fv 37 f37_35) gv) ∧ (t_33 ≤ 10) ∧ (n_34 = cB a1 t_33) ∧ (n_34 ≤ 4) ∧ (∀ k9 : Nat, k9 < n_34 → f37_35 k9 = nI (tK a1 k9)) ∧ (∀ u9 : Nat, u9 < t_33 → bB a1 u9 → ¬ mall (fv 9) u9 40 = 0) := hj
  obtain ⟨rfl, ht_36, hn_37, hn4_38, hw_39, hz_40⟩ := hj
  have hl : lv_has ls 20 [(7, .int (nI t_33)), (6, .int (nI n_34)), (5, .int (nI mo)), (4, .int (nI le)), (3, .int (nI wa)), (2, .int (nI pm)), (1, .int a1), (0, .ref h0)] := hl
  refine lv_iload hx hb dX9_blend_66 (lv_at hl 0 rfl) ?_
  refine lv_bipush (v := 10) hx hb dX9_blend_68 (by decide) ?_
  refine lv_icmp_ge (tgt := 120) hx hb dX9_blend_70 (by decide) (fun c_41 => ?_) (fun c_41 => ?_)
  · have d_42 := n_le (a := 10) (b := t_33) (by omega) (by omega) c_41
    obtain rfl : t_33 = 10 := by omega
    have hAT : bAT fv a1 := ⟨hbits, hc1, by omega, hz_40⟩
    have hpl := plc_le hV hX b3 hAT
    have hp0 := hpl 0
    have hp1 := hpl 1
    have hp2 := hpl 2
    have hp3 := hpl 3
    refine lv_iconst (v := 0) hx hb dX9_blend_120 (by decide) ?_
    refine lv_istore (lv' := [(7, .int 0), (6, .int (nI n_34)), (5, .int (nI mo)), (4, .int (nI le)), (3, .int (nI wa)), (2, .int (nI pm)), (1, .int a1), (0, .ref h0)]) hx hb dX9_blend_121 hl (by decide) rfl (fun ls hl => ?_)
    refine lp_V (nL := 20) (σ := Nat × (Nat → Int32) × (Nat → Int32) × (Nat → Int32) × (Nat → Int32)) (lv := fun x9 => [(7, .int (nI x9.1)), (6, .int (nI n_34)), (5, .int (nI mo)), (4, .int (nI le)), (3, .int (nI wa)), (2, .int (nI pm)), (1, .int a1), (0, .ref h0)]) (μ := fun x9 => 4 - x9.1) (J := fun x9 ws9 => ws9 = (mw h0 ad cs iv (uF (uF (uF (uF (uF fv 37 f37_35) 38 x9.2.1) 39 x9.2.2.1) 40 x9.2.2.2.1) 41 x9.2.2.2.2) gv) ∧ (x9.1 ≤ 4) ∧ (∀ q9 : Nat, q9 < x9.1 → x9.2.1 q9 = nI (bW fv n3 a1 q9)) ∧ (∀ q9 : Nat, q9 < x9.1 → x9.2.2.1 q9 = nI (bC fv n3 a1 q9)) ∧ (∀ q9 : Nat, q9 < x9.1 → x9.2.2.2.1 q9 = nI (bP fv a1 q9)) ∧ (∀ q9 : Nat, q9 < x9.1 → x9.2.2.2.2 q9 = nI (bM fv a1 q9))) (fun x9 ws9 H locs ls hj hP hD hS hl ih_43 => ?_) (0, fv 38, fv 39, fv 40, fv 41) (mw h0 ad cs iv (uF fv 37 f37_35) gv) _ _ ls ⟨rfl, (show 0 ≤ 4 from by omega), (show ∀ q9 : Nat, q9 < 0 → (fv 38) q9 = nI (bW fv n3 a1 q9) from fun q9 h9 => absurd h9 (Nat.not_lt_zero _)), (show ∀ q9 : Nat, q9 < 0 → (fv 39) q9 = nI (bC fv n3 a1 q9) from fun q9 h9 => absurd h9 (Nat.not_lt_zero _)), (show ∀ q9 : Nat, q9 < 0 → (fv 40) q9 = nI (bP fv a1 q9) from fun q9 h9 => absurd h9 (Nat.not_lt_zero _)), (show ∀ q9 : Nat, q9 < 0 → (fv 41) q9 = nI (bM fv a1 q9) from fun q9 h9 => absurd h9 (Nat.not_lt_zero _))⟩ hP hD hS (lv_sub hl [0, 1, 2, 3, 4, 5, 6, 7] rfl)
    obtain ⟨k_44, f38_45, f39_46, f40_47, f41_48⟩ := x9
    replace hj : ws9 = (mw h0 ad cs iv (uF (uF (uF (uF (uF fv 37 f37_35) 38 f38_45) 39 f39_46) 40 f40_47) 41 f41_48) gv) ∧ (k_44 ≤ 4) ∧ (∀ q9 : Nat, q9 < k_44 → f38_45 q9 = nI (bW fv n3 a1 q9)) ∧ (∀ q9 : Nat, q9 < k_44 → f39_46 q9 = nI (bC fv n3 a1 q9)) ∧ (∀ q9 : Nat, q9 < k_44 → f40_47 q9 = nI (bP fv a1 q9)) ∧ (∀ q9 : Nat, q9 < k_44 → f41_48 q9 = nI (bM fv a1 q9)) := hj
    obtain ⟨rfl, hk_49, h38_50, h39_51, h40_52, h41_53⟩ := hj
    have hl : lv_has ls 20 [(7, .int (nI k_44)), (6, .int (nI n_34)), (5, .int (nI mo)), (4, .int (nI le)), (3, .int (nI wa)), (2, .int (nI pm)), (1, .int a1), (0, .ref h0)] := hl
    refine lv_iload hx hb dX9_blend_123 (lv_at hl 0 rfl) ?_
    refine lv_iconst (v := 4) hx hb dX9_blend_125 (by decide) ?_
    refine lv_icmp_ge (tgt := 294) hx hb dX9_blend_126 (by decide) (fun c_54 => ?_) (fun c_54 => ?_)
    · have d_55 := n_le (a := 4) (b := k_44) (by omega) (by omega) c_54
      obtain rfl : k_44 = 4 := by omega
      refine lv_ldc2 hx hb hown (hts (.constantLong RX9 173 (-1)) (List.mem_of_getElem? (i := 8) rfl)) dX9_blend_294 ?_
      refine lv_lstore (lv' := [(7, .long (-1)), (6, .int (nI n_34)), (5, .int (nI mo)), (4, .int (nI le)), (3, .int (nI wa)), (2, .int (nI pm)), (1, .int a1), (0, .ref h0)]) hx hb dX9_blend_297 hl (by decide) rfl (fun ls hl => ?_)
      refine lv_iconst (v := 0) hx hb dX9_blend_299 (by decide) ?_
      refine lv_istore (lv' := [(9, .int 0), (7, .long (-1)), (6, .int (nI n_34)), (5, .int (nI mo)), (4, .int (nI le)), (3, .int (nI wa)), (2, .int (nI pm)), (1, .int a1), (0, .ref h0)]) hx hb dX9_blend_300 hl (by decide) rfl (fun ls hl => ?_)
      refine lv_iconst (v := 0) hx hb dX9_blend_302 (by decide) ?_
      refine lv_istore (lv' := [(10, .int 0), (9, .int 0), (7, .long (-1)), (6, .int (nI n_34)), (5, .int (nI mo)), (4, .int (nI le)), (3, .int (nI wa)), (2, .int (nI pm)), (1, .int a1), (0, .ref h0)]) hx hb dX9_blend_303 hl (by decide) rfl (fun ls hl => ?_)
      refine lp_V (nL := 20) (σ := Nat × Int32 × Int64) (lv := fun x9 => [(10, .int (nI x9.1)), (9, .int x9.2.1), (7, .long x9.2.2), (6, .int (nI n_34)), (5, .int (nI mo)), (4, .int (nI le)), (3, .int (nI wa)), (2, .int (nI pm)), (0, .ref h0)]) (μ := fun x9 => pm + 1 - x9.1) (J := fun x9 ws9 => ws9 = (mw h0 ad cs iv (uF (uF (uF (uF (uF fv 37 f37_35) 38 f38_45) 39 f39_46) 40 f40_47) 41 f41_48) gv) ∧ (x9.1 ≤ pm + 1) ∧ (bY (bF (bM fv a1) (bW fv n3 a1) (bC fv n3 a1) pm wa le mo) (mix (bP fv a1) pm) pm x9.2.2 x9.2.1 x9.1 0 0)) (fun x9 ws9 H locs ls hj hP hD hS hl ih_56 => ?_) (0, 0, (-1)) (mw h0 ad cs iv (uF (uF (uF (uF (uF fv 37 f37_35) 38 f38_45) 39 f39_46) 40 f40_47) 41 f41_48) gv) _ _ ls ⟨rfl, (show 0 ≤ pm + 1 from by omega), (show bY (bF (bM fv a1) (bW fv n3 a1) (bC fv n3 a1) pm wa le mo) (mix (bP fv a1) pm) pm (-1) 0 0 0 0 from bY_0)⟩ hP hD hS (lv_sub hl [0, 1, 2, 3, 4, 5, 6, 7, 9] rfl)
      obtain ⟨a_57, kp_58, be_59⟩ := x9
      replace hj : ws9 = (mw h0 ad cs iv (uF (uF (uF (uF (uF fv 37 f37_35) 38 f38_45) 39 f39_46) 40 f40_47) 41 f41_48) gv) ∧ (a_57 ≤ pm + 1) ∧ (bY (bF (bM fv a1) (bW fv n3 a1) (bC fv n3 a1) pm wa le mo) (mix (bP fv a1) pm) pm be_59 kp_58 a_57 0 0) := hj
      obtain ⟨rfl, ha_60, hs1_61⟩ := hj
      have hl : lv_has ls 20 [(10, .int (nI a_57)), (9, .int kp_58), (7, .long be_59), (6, .int (nI n_34)), (5, .int (nI mo)), (4, .int (nI le)), (3, .int (nI wa)), (2, .int (nI pm)), (0, .ref h0)] := hl
      refine lv_iload hx hb dX9_blend_305 (lv_at hl 0 rfl) ?_
      refine lv_iload_n hx hb dX9_blend_307 rfl (lv_at hl 7 rfl) ?_
      refine lv_icmp_gt (tgt := 658) hx hb dX9_blend_308 (by decide) (fun c_62 => ?_) (fun c_62 => ?_)
      · have d_63 := n_lt (a := pm) (b := a_57) (by omega) (by omega) c_62
        have hlx := rn_a (M := bM fv a1) (W := bW fv n3 a1) (C := bC fv n3 a1) (m := pm) (wa := wa) (le := le) (mo := mo) (x := a_57) (fun k9 b8 c8 h9 h8 => by have := h8.1; have := h8.2.2.2.1; omega)
        rcases hs1_61 with ⟨hv_68, hN_70⟩ | ⟨x_64, y_65, z_66, hS_67, hv_68, hk_69⟩
        · refine lv_lload hx hb dX9_blend_658 (lv_at hl 2 rfl) ?_
          refine tp_l (y := (-1)) (hv_68) ?_
          refine lv_lconst (v := 0) hx hb dX9_blend_660 (by decide) ?_
          refine W.lcmp hx hb dX9_blend_661 ?_
          refine lv_if_ge (tgt := 668) hx hb dX9_blend_662 (by decide) (fun c_71 => absurd c_71 (by decide)) (fun c_71 => ?_)
          refine lv_bipush (v := (-2)) hx hb dX9_blend_665 (by decide) ?_
          have hP : va_P D vwCl (mw h0 ad cs (upd iv 35 (iv 35)) (uF (uF (uF (uF (uF (uF fv 36 (fv 36)) 37 f37_35) 38 f38_45) 39 f39_46) 40 f40_47) 41 f41_48) gv) H := hP
          have hD : va_D A (mw h0 ad cs (upd iv 35 (iv 35)) (uF (uF (uF (uF (uF (uF fv 36 (fv 36)) 37 f37_35) 38 f38_45) 39 f39_46) 40 f40_47) 41 f41_48) gv) := hD
          exact W.iret (v := (-2)) hx hb hr (fun t ht hW => ⟨⟨(-2), (-2), rfl, rfl, iv 35, fv 36, f37_35, f38_45, f39_46, f40_47, f41_48, Or.inl ⟨bNo_of ⟨⟨rfl, hpm1, hpm2⟩, ⟨rfl, hwa2⟩, ⟨rfl, hle2⟩, ⟨rfl, hmo2⟩, hAT⟩ (bN.e hN_70 hlx), rfl, rfl⟩, by rw [ht]; exact hP, va_K.moved hW.alike hK, hD⟩, hS.F ht⟩) hS.2.2 dX9_blend_667
        have hmq : mix (bP fv a1) pm x_64 y_65 z_66 ≤ pm * 10000 := mix_le (fun k9 _ => by have := hpl k9; omega) hS_67.2.1.1.2.2.2.1
        have him := hS_67.2.1.1
        obtain ⟨hq0, hqa, hqb, hqc, hqd⟩ := kp_b (a := x_64) (b := y_65) (c := z_66) (d := pm - x_64 - y_65 - z_66) (by have := him.2.2.2.1; omega) (by have := him.2.2.2.1; omega) (by have := him.2.2.2.1; omega) (by omega)
        refine lv_lload hx hb dX9_blend_658 (lv_at hl 2 rfl) ?_
        refine tp_l (y := (nI (mix (bP fv a1) pm x_64 y_65 z_66)).toInt64) (hv_68) ?_
        refine lv_lconst (v := 0) hx hb dX9_blend_660 (by decide) ?_
        refine W.lcmp hx hb dX9_blend_661 ?_
        refine lv_if_ge (tgt := 668) hx hb dX9_blend_662 (by decide) (fun c_72 => ?_) (fun c_72 => absurd (ge_0 (lc_0 (by omega))) c_72)
        refine lv_aload_n hx hb dX9_blend_668 rfl (lv_at hl 8 rfl) ?_
        refine lv_iconst (v := 1) hx hb dX9_blend_669 (by decide) ?_
        refine va_put (D := D) (ci := 9) (v := .int 1) (ty := .boolean) (C := RX9) (T := TX9) (N := 44) hx hb hts hin9 tyX9 tyX9_ok nmX9 hown hK hP hD hS 0 rfl rfl 35 (by decide) (hts (.fieldLink RX9 117 "HoneyHouseModel" "blended" "Z") (List.mem_of_getElem? (i := 10) rfl)) (fun _ h9 => h9) rfl (tyX9_ok 35 (by decide)) rfl rfl (Nat.le_of_ble_eq_true rfl) dX9_blend_670 (fun H locs hP hD hS => ?_)
        have hP : va_P D vwCl (mw h0 ad cs (upd iv 35 1) (uF (uF (uF (uF (uF fv 37 f37_35) 38 f38_45) 39 f39_46) 40 f40_47) 41 f41_48) gv) H := hP
        have hD : va_D A (mw h0 ad cs (upd iv 35 1) (uF (uF (uF (uF (uF fv 37 f37_35) 38 f38_45) 39 f39_46) 40 f40_47) 41 f41_48) gv) := hD
        refine lv_iconst (v := 0) hx hb dX9_blend_673 (by decide) ?_
        refine lv_istore (lv' := [(10, .int 0), (9, .int kp_58), (7, .long be_59), (6, .int (nI n_34)), (5, .int (nI mo)), (4, .int (nI le)), (3, .int (nI wa)), (2, .int (nI pm)), (0, .ref h0)]) hx hb dX9_blend_674 hl (by decide) rfl (fun ls hl => ?_)
        refine lp_V (nL := 20) (σ := Nat × (Nat → Int32)) (lv := fun x9 => [(10, .int (nI x9.1)), (9, .int kp_58), (7, .long be_59), (6, .int (nI n_34)), (0, .ref h0)]) (μ := fun x9 => 10 - x9.1) (J := fun x9 ws9 => ws9 = (mw h0 ad cs (upd iv 35 1) (uF (uF (uF (uF (uF (uF fv 36 x9.2) 37 f37_35) 38 f38_45) 39 f39_46) 40 f40_47) 41 f41_48) gv) ∧ (x9.1 ≤ 10) ∧ (∀ t9 : Nat, t9 < x9.1 → x9.2 t9 = 0)) (fun x9 ws9 H locs ls hj hP hD hS hl ih_73 => ?_) (0, fv 36) (mw h0 ad cs (upd iv 35 1) (uF (uF (uF (uF (uF fv 37 f37_35) 38 f38_45) 39 f39_46) 40 f40_47) 41 f41_48) gv) _ _ ls ⟨rfl, (show 0 ≤ 10 from by omega), (show ∀ t9 : Nat, t9 < 0 → (fv 36) t9 = 0 from fun t9 h9 => absurd h9 (Nat.not_lt_zero _))⟩ hP hD hS (lv_sub hl [0, 1, 2, 3, 8] rfl)
        obtain ⟨i_74, f36_75⟩ := x9
        replace hj : ws9 = (mw h0 ad cs (upd iv 35 1) (uF (uF (uF (uF (uF (uF fv 36 f36_75) 37 f37_35) 38 f38_45) 39 f39_46) 40 f40_47) 41 f41_48) gv) ∧ (i_74 ≤ 10) ∧ (∀ t9 : Nat, t9 < i_74 → f36_75 t9 = 0) := hj
        obtain ⟨rfl, hi_76, hz6_77⟩ := hj
        have hl : lv_has ls 20 [(10, .int (nI i_74)), (9, .int kp_58), (7, .long be_59), (6, .int (nI n_34)), (0, .ref h0)] := hl
        refine lv_iload hx hb dX9_blend_676 (lv_at hl 0 rfl) ?_
        refine lv_bipush (v := 10) hx hb dX9_blend_678 (by decide) ?_
        refine lv_icmp_ge (tgt := 697) hx hb dX9_blend_680 (by decide) (fun c_78 => ?_) (fun c_78 => ?_)
        · have d_79 := n_le (a := 10) (b := i_74) (by omega) (by omega) c_78
          refine lv_iconst (v := 0) hx hb dX9_blend_697 (by decide) ?_
          refine lv_istore (lv' := [(10, .int 0), (9, .int kp_58), (7, .long be_59), (6, .int (nI n_34)), (0, .ref h0)]) hx hb dX9_blend_698 hl (by decide) rfl (fun ls hl => ?_)
          refine lp_V (nL := 20) (σ := Nat × (Nat → Int32)) (lv := fun x9 => [(10, .int (nI x9.1)), (9, .int kp_58), (7, .long be_59), (6, .int (nI n_34)), (0, .ref h0)]) (μ := fun x9 => n_34 - x9.1) (J := fun x9 ws9 => ws9 = (mw h0 ad cs (upd iv 35 1) (uF (uF (uF (uF (uF (uF fv 36 x9.2) 37 f37_35) 38 f38_45) 39 f39_46) 40 f40_47) 41 f41_48) gv) ∧ (x9.1 ≤ n_34) ∧ (∀ t9 : Nat, t9 < 10 → x9.2 t9 = if bB a1 t9 ∧ cB a1 t9 < x9.1 then nI (sel4 pm x_64 y_65 z_66 (cB a1 t9)) else 0)) (fun x9 ws9 H locs ls hj hP hD hS hl ih_80 => ?_) (0, f36_75) (mw h0 ad cs (upd iv 35 1) (uF (uF (uF (uF (uF (uF fv 36 f36_75) 37 f37_35) 38 f38_45) 39 f39_46) 40 f40_47) 41 f41_48) gv) _ _ ls ⟨rfl, (show 0 ≤ n_34 from by omega), (show ∀ t9 : Nat, t9 < 10 → f36_75 t9 = if bB a1 t9 ∧ cB a1 t9 < 0 then nI (sel4 pm x_64 y_65 z_66 (cB a1 t9)) else 0 from fun t9 h9 => by rw [hz6_77 t9 (by omega), if_neg (fun h8 => absurd h8.2 (Nat.not_lt_zero _))])⟩ hP hD hS (lv_sub hl [0, 1, 2, 3, 4] rfl)
          obtain ⟨i_81, f36_82⟩ := x9
          replace hj : ws9 = (mw h0 ad cs (upd iv 35 1) (uF (uF (uF (uF (uF (uF fv 36 f36_82) 37 f37_35) 38 f38_45) 39 f39_46) 40 f40_47) 41 f41_48) gv) ∧ (i_81 ≤ n_34) ∧ (∀ t9 : Nat, t9 < 10 → f36_82 t9 = if bB a1 t9 ∧ cB a1 t9 < i_81 then nI (sel4 pm x_64 y_65 z_66 (cB a1 t9)) else 0) := hj
          obtain ⟨rfl, hi_83, hg7_84⟩ := hj
          have hl : lv_has ls 20 [(10, .int (nI i_81)), (9, .int kp_58), (7, .long be_59), (6, .int (nI n_34)), (0, .ref h0)] := hl
          refine lv_iload hx hb dX9_blend_700 (lv_at hl 0 rfl) ?_
          refine lv_iload hx hb dX9_blend_702 (lv_at hl 3 rfl) ?_
          refine lv_icmp_ge (tgt := 779) hx hb dX9_blend_704 (by decide) (fun c_85 => ?_) (fun c_85 => ?_)
          · have d_86 := n_le (a := n_34) (b := i_81) (by omega) (by omega) c_85
            refine lv_lload hx hb dX9_blend_779 (lv_at hl 2 rfl) ?_
            refine lv_l2i hx hb dX9_blend_781 rfl ?_
            have hP : va_P D vwCl (mw h0 ad cs (upd iv 35 1) (uF (uF (uF (uF (uF (uF fv 36 f36_82) 37 f37_35) 38 f38_45) 39 f39_46) 40 f40_47) 41 f41_48) gv) H := hP
            have hD : va_D A (mw h0 ad cs (upd iv 35 1) (uF (uF (uF (uF (uF (uF fv 36 f36_82) 37 f37_35) 38 f38_45) 39 f39_46) 40 f40_47) 41 f41_48) gv) := hD
            exact W.iret (v := be_59.toInt32) hx hb hr (fun t ht hW => ⟨⟨be_59.toInt32, be_59.toInt32, rfl, rfl, 1, f36_82, f37_35, f38_45, f39_46, f40_47, f41_48, Or.inr ⟨rfl, pm, wa, le, mo, x_64, y_65, z_66, ⟨⟨rfl, hpm1, hpm2⟩, ⟨rfl, hwa2⟩, ⟨rfl, hle2⟩, ⟨rfl, hmo2⟩, hAT⟩, bS.e hS_67 hlx, kbs_e (by rw [← show i_81 = cB a1 10 by omega]; exact hg7_84)⟩, by rw [ht]; exact hP, va_K.moved hW.alike hK, hD⟩, hS.F ht⟩) hS.2.2 dX9_blend_782
          have d_87 := n_nle (a := n_34) (b := i_81) (by omega) (by omega) c_85
          refine lv_aload_n hx hb dX9_blend_707 rfl (lv_at hl 4 rfl) ?_
          refine va_get (D := D) (ci := 9) (v := .ref (ad 36)) (C := RX9) (T := TX9) (N := 44) hx hb hts hin9 hown hK hP 0 rfl rfl 36 (by decide) (hts (.fieldLink RX9 121 "HoneyHouseModel" "parts" "[I") (List.mem_of_getElem? (i := 11) rfl)) (fun _ h9 => h9) rfl dX9_blend_708 ?_
          refine lv_aload_n hx hb dX9_blend_711 rfl (lv_at hl 4 rfl) ?_
          refine va_get (D := D) (ci := 9) (v := .ref (ad 37)) (C := RX9) (T := TX9) (N := 44) hx hb hts hin9 hown hK hP 0 rfl rfl 37 (by decide) (hts (.fieldLink RX9 124 "HoneyHouseModel" "which" "[I") (List.mem_of_getElem? (i := 1) rfl)) (fun _ h9 => h9) rfl dX9_blend_712 ?_
          refine lv_iload hx hb dX9_blend_715 (lv_at hl 0 rfl) ?_
          refine va_iald (f := f37_35) (n := 4) hx hb hK hP 24 23 rfl rfl (vp_in_nI (n := i_81) (by omega) (by omega)) dX9_blend_717 ?_
          refine lv_topi (fun z_88 hz_89 => ?_)
          rw [nI_clamp (n := i_81) (by omega)] at hz_89
          obtain rfl : z_88 = nI (tK a1 i_81) := hz_89.trans (hw_39 i_81 (by omega))
          have htk_90 := (tK_at (a := a1) (k := i_81) (by omega)).1
          refine lv_iload hx hb dX9_blend_718 (lv_at hl 0 rfl) ?_
          refine lv_if_ne (tgt := 732) hx hb dX9_blend_720 (by decide) (fun c_91 => ?_) (fun c_91 => ?_)
          · have d_92 := n_ne (a := i_81) (b := 0) (by omega) (by omega) c_91
            refine lv_iload hx hb dX9_blend_732 (lv_at hl 0 rfl) ?_
            refine lv_iconst (v := 1) hx hb dX9_blend_734 (by decide) ?_
            refine lv_icmp_ne (tgt := 750) hx hb dX9_blend_735 (by decide) (fun c_93 => ?_) (fun c_93 => ?_)
            · have d_94 := n_ne (a := i_81) (b := 1) (by omega) (by omega) c_93
              refine lv_iload hx hb dX9_blend_750 (lv_at hl 0 rfl) ?_
              refine lv_iconst (v := 2) hx hb dX9_blend_752 (by decide) ?_
              refine lv_icmp_ne (tgt := 767) hx hb dX9_blend_753 (by decide) (fun c_95 => ?_) (fun c_95 => ?_)
              · have d_96 := n_ne (a := i_81) (b := 2) (by omega) (by omega) c_95
                refine lv_iload hx hb dX9_blend_767 (lv_at hl 1 rfl) ?_
                refine tp_i (y := nI (68921 * x_64 + 1681 * y_65 + 41 * z_66 + (pm - x_64 - y_65 - z_66))) (hk_69) ?_
                refine lv_bipush (v := 41) hx hb dX9_blend_769 (by decide) ?_
                refine lv_irem hx hb dX9_blend_771 (by decide) ?_
                refine tp_i (y := nI (sel4 pm x_64 y_65 z_66 i_81)) ((show nI (68921 * x_64 + 1681 * y_65 + 41 * z_66 + (pm - x_64 - y_65 - z_66)) - nI (68921 * x_64 + 1681 * y_65 + 41 * z_66 + (pm - x_64 - y_65 - z_66)) / nI 41 * nI 41 = _ from (rm_n (by omega) (by omega)).trans (by rw [hqd, show i_81 = 3 by omega]; rfl))) ?_
                refine va_iast (f := f36_82) (n := 10) hx hb hK hP hD hS 23 22 rfl rfl (vp_in_nI (n := tK a1 i_81) (by omega) (by omega)) dX9_blend_772 (fun H locs hP hD hS => ?_)
                have hP : va_P D vwCl (mw h0 ad cs (upd iv 35 1) (uF (uF (uF (uF (uF (uF fv 36 (upd f36_82 (nI (tK a1 i_81)).toNatClampNeg (nI (sel4 pm x_64 y_65 z_66 i_81)))) 37 f37_35) 38 f38_45) 39 f39_46) 40 f40_47) 41 f41_48) gv) H := hP
                have hD : va_D A (mw h0 ad cs (upd iv 35 1) (uF (uF (uF (uF (uF (uF fv 36 (upd f36_82 (nI (tK a1 i_81)).toNatClampNeg (nI (sel4 pm x_64 y_65 z_66 i_81)))) 37 f37_35) 38 f38_45) 39 f39_46) 40 f40_47) 41 f41_48) gv) := hD
                obtain ⟨f_97, hf_98⟩ : ∃ g9, g9 = upd f36_82 (nI (tK a1 i_81)).toNatClampNeg (nI (sel4 pm x_64 y_65 z_66 i_81)) := ⟨_, rfl⟩
                rw [← hf_98] at hP hD
                rw [nI_clamp (n := tK a1 i_81) (by omega)] at hf_98
                refine lv_iinc (v := nI (i_81 + 1)) (lv' := [(10, .int (nI (i_81 + 1))), (9, .int kp_58), (7, .long be_59), (6, .int (nI n_34)), (0, .ref h0)]) hx hb dX9_blend_773 hl (k := 0) rfl (nI_add i_81 1) (by decide) rfl (fun ls hl => ?_)
                refine lv_goto (tgt := 700) hx hb dX9_blend_776 (by decide) ?_
                exact ih_80 (i_81 + 1, f_97) (mw h0 ad cs (upd iv 35 1) (uF (uF (uF (uF (uF (uF fv 36 f_97) 37 f37_35) 38 f38_45) 39 f39_46) 40 f40_47) 41 f41_48) gv) _ _ ls (by show n_34 - (i_81 + 1) < n_34 - i_81; omega) ⟨rfl, (show (i_81 + 1) ≤ n_34 from by omega), (show ∀ t9 : Nat, t9 < 10 → f_97 t9 = if bB a1 t9 ∧ cB a1 t9 < (i_81 + 1) then nI (sel4 pm x_64 y_65 z_66 (cB a1 t9)) else 0 from fun t9 h9 => by rw [hf_98]; exact kbs_s (f := fun k9 => nI (sel4 pm x_64 y_65 z_66 k9)) (by omega) hg7_84 h9)⟩ hP hD hS (lv_sub hl [0, 1, 2, 3, 4] rfl)
              have d_99 := n_eq (a := i_81) (b := 2) (by omega) (by omega) c_95
              refine lv_iload hx hb dX9_blend_756 (lv_at hl 1 rfl) ?_
              refine tp_i (y := nI (68921 * x_64 + 1681 * y_65 + 41 * z_66 + (pm - x_64 - y_65 - z_66))) (hk_69) ?_
              refine lv_bipush (v := 41) hx hb dX9_blend_758 (by decide) ?_
              refine lv_idiv hx hb dX9_blend_760 (by decide) ?_
              refine tp_i (y := nI ((68921 * x_64 + 1681 * y_65 + 41 * z_66 + (pm - x_64 - y_65 - z_66)) / 41)) (dv_n (x := 68921 * x_64 + 1681 * y_65 + 41 * z_66 + (pm - x_64 - y_65 - z_66)) (k := 41) (by omega) (by omega)) ?_
              refine lv_bipush (v := 41) hx hb dX9_blend_761 (by decide) ?_
              refine lv_irem hx hb dX9_blend_763 (by decide) ?_
              refine tp_i (y := nI (sel4 pm x_64 y_65 z_66 i_81)) ((show nI ((68921 * x_64 + 1681 * y_65 + 41 * z_66 + (pm - x_64 - y_65 - z_66)) / 41) - nI ((68921 * x_64 + 1681 * y_65 + 41 * z_66 + (pm - x_64 - y_65 - z_66)) / 41) / nI 41 * nI 41 = _ from (rm_n (by omega) (by omega)).trans (by rw [hqc, show i_81 = 2 by omega]; rfl))) ?_
              refine lv_goto (tgt := 772) hx hb dX9_blend_764 (by decide) ?_
              refine va_iast (f := f36_82) (n := 10) hx hb hK hP hD hS 23 22 rfl rfl (vp_in_nI (n := tK a1 i_81) (by omega) (by omega)) dX9_blend_772 (fun H locs hP hD hS => ?_)
              have hP : va_P D vwCl (mw h0 ad cs (upd iv 35 1) (uF (uF (uF (uF (uF (uF fv 36 (upd f36_82 (nI (tK a1 i_81)).toNatClampNeg (nI (sel4 pm x_64 y_65 z_66 i_81)))) 37 f37_35) 38 f38_45) 39 f39_46) 40 f40_47) 41 f41_48) gv) H := hP
              have hD : va_D A (mw h0 ad cs (upd iv 35 1) (uF (uF (uF (uF (uF (uF fv 36 (upd f36_82 (nI (tK a1 i_81)).toNatClampNeg (nI (sel4 pm x_64 y_65 z_66 i_81)))) 37 f37_35) 38 f38_45) 39 f39_46) 40 f40_47) 41 f41_48) gv) := hD
              obtain ⟨f_100, hf_101⟩ : ∃ g9, g9 = upd f36_82 (nI (tK a1 i_81)).toNatClampNeg (nI (sel4 pm x_64 y_65 z_66 i_81)) := ⟨_, rfl⟩
              rw [← hf_101] at hP hD
              rw [nI_clamp (n := tK a1 i_81) (by omega)] at hf_101
              refine lv_iinc (v := nI (i_81 + 1)) (lv' := [(10, .int (nI (i_81 + 1))), (9, .int kp_58), (7, .long be_59), (6, .int (nI n_34)), (0, .ref h0)]) hx hb dX9_blend_773 hl (k := 0) rfl (nI_add i_81 1) (by decide) rfl (fun ls hl => ?_)
              refine lv_goto (tgt := 700) hx hb dX9_blend_776 (by decide) ?_
              exact ih_80 (i_81 + 1, f_100) (mw h0 ad cs (upd iv 35 1) (uF (uF (uF (uF (uF (uF fv 36 f_100) 37 f37_35) 38 f38_45) 39 f39_46) 40 f40_47) 41 f41_48) gv) _ _ ls (by show n_34 - (i_81 + 1) < n_34 - i_81; omega) ⟨rfl, (show (i_81 + 1) ≤ n_34 from by omega), (show ∀ t9 : Nat, t9 < 10 → f_100 t9 = if bB a1 t9 ∧ cB a1 t9 < (i_81 + 1) then nI (sel4 pm x_64 y_65 z_66 (cB a1 t9)) else 0 from fun t9 h9 => by rw [hf_101]; exact kbs_s (f := fun k9 => nI (sel4 pm x_64 y_65 z_66 k9)) (by omega) hg7_84 h9)⟩ hP hD hS (lv_sub hl [0, 1, 2, 3, 4] rfl)
            have d_102 := n_eq (a := i_81) (b := 1) (by omega) (by omega) c_93
            refine lv_iload hx hb dX9_blend_738 (lv_at hl 1 rfl) ?_
            refine tp_i (y := nI (68921 * x_64 + 1681 * y_65 + 41 * z_66 + (pm - x_64 - y_65 - z_66))) (hk_69) ?_
            refine lv_sipush (v := 1681) hx hb dX9_blend_740 (by decide) ?_
            refine lv_idiv hx hb dX9_blend_743 (by decide) ?_
            refine tp_i (y := nI ((68921 * x_64 + 1681 * y_65 + 41 * z_66 + (pm - x_64 - y_65 - z_66)) / 1681)) (dv_n (x := 68921 * x_64 + 1681 * y_65 + 41 * z_66 + (pm - x_64 - y_65 - z_66)) (k := 1681) (by omega) (by omega)) ?_
            refine lv_bipush (v := 41) hx hb dX9_blend_744 (by decide) ?_
            refine lv_irem hx hb dX9_blend_746 (by decide) ?_
            refine tp_i (y := nI (sel4 pm x_64 y_65 z_66 i_81)) ((show nI ((68921 * x_64 + 1681 * y_65 + 41 * z_66 + (pm - x_64 - y_65 - z_66)) / 1681) - nI ((68921 * x_64 + 1681 * y_65 + 41 * z_66 + (pm - x_64 - y_65 - z_66)) / 1681) / nI 41 * nI 41 = _ from (rm_n (by omega) (by omega)).trans (by rw [hqb, show i_81 = 1 by omega]; rfl))) ?_
            refine lv_goto (tgt := 772) hx hb dX9_blend_747 (by decide) ?_
            refine va_iast (f := f36_82) (n := 10) hx hb hK hP hD hS 23 22 rfl rfl (vp_in_nI (n := tK a1 i_81) (by omega) (by omega)) dX9_blend_772 (fun H locs hP hD hS => ?_)
            have hP : va_P D vwCl (mw h0 ad cs (upd iv 35 1) (uF (uF (uF (uF (uF (uF fv 36 (upd f36_82 (nI (tK a1 i_81)).toNatClampNeg (nI (sel4 pm x_64 y_65 z_66 i_81)))) 37 f37_35) 38 f38_45) 39 f39_46) 40 f40_47) 41 f41_48) gv) H := hP
            have hD : va_D A (mw h0 ad cs (upd iv 35 1) (uF (uF (uF (uF (uF (uF fv 36 (upd f36_82 (nI (tK a1 i_81)).toNatClampNeg (nI (sel4 pm x_64 y_65 z_66 i_81)))) 37 f37_35) 38 f38_45) 39 f39_46) 40 f40_47) 41 f41_48) gv) := hD
            obtain ⟨f_103, hf_104⟩ : ∃ g9, g9 = upd f36_82 (nI (tK a1 i_81)).toNatClampNeg (nI (sel4 pm x_64 y_65 z_66 i_81)) := ⟨_, rfl⟩
            rw [← hf_104] at hP hD
            rw [nI_clamp (n := tK a1 i_81) (by omega)] at hf_104
            refine lv_iinc (v := nI (i_81 + 1)) (lv' := [(10, .int (nI (i_81 + 1))), (9, .int kp_58), (7, .long be_59), (6, .int (nI n_34)), (0, .ref h0)]) hx hb dX9_blend_773 hl (k := 0) rfl (nI_add i_81 1) (by decide) rfl (fun ls hl => ?_)
            refine lv_goto (tgt := 700) hx hb dX9_blend_776 (by decide) ?_
            exact ih_80 (i_81 + 1, f_103) (mw h0 ad cs (upd iv 35 1) (uF (uF (uF (uF (uF (uF fv 36 f_103) 37 f37_35) 38 f38_45) 39 f39_46) 40 f40_47) 41 f41_48) gv) _ _ ls (by show n_34 - (i_81 + 1) < n_34 - i_81; omega) ⟨rfl, (show (i_81 + 1) ≤ n_34 from by omega), (show ∀ t9 : Nat, t9 < 10 → f_103 t9 = if bB a1 t9 ∧ cB a1 t9 < (i_81 + 1) then nI (sel4 pm x_64 y_65 z_66 (cB a1 t9)) else 0 from fun t9 h9 => by rw [hf_104]; exact kbs_s (f := fun k9 => nI (sel4 pm x_64 y_65 z_66 k9)) (by omega) hg7_84 h9)⟩ hP hD hS (lv_sub hl [0, 1, 2, 3, 4] rfl)
          have d_105 := n_eq (a := i_81) (b := 0) (by omega) (by omega) c_91
          refine lv_iload hx hb dX9_blend_723 (lv_at hl 1 rfl) ?_
          refine tp_i (y := nI (68921 * x_64 + 1681 * y_65 + 41 * z_66 + (pm - x_64 - y_65 - z_66))) (hk_69) ?_
          refine lv_ldcw hx hb hown (hts (.constant RX9 292 (68921)) (List.mem_of_getElem? (i := 9) rfl)) dX9_blend_725 ?_
          refine lv_idiv hx hb dX9_blend_728 (by decide) ?_
          refine tp_i (y := nI (sel4 pm x_64 y_65 z_66 i_81)) ((dv_n (x := 68921 * x_64 + 1681 * y_65 + 41 * z_66 + (pm - x_64 - y_65 - z_66)) (k := 68921) (by omega) (by omega)).trans (by rw [hqa, show i_81 = 0 by omega]; rfl)) ?_
          refine lv_goto (tgt := 772) hx hb dX9_blend_729 (by decide) ?_
          refine va_iast (f := f36_82) (n := 10) hx hb hK hP hD hS 23 22 rfl rfl (vp_in_nI (n := tK a1 i_81) (by omega) (by omega)) dX9_blend_772 (fun H locs hP hD hS => ?_)
          have hP : va_P D vwCl (mw h0 ad cs (upd iv 35 1) (uF (uF (uF (uF (uF (uF fv 36 (upd f36_82 (nI (tK a1 i_81)).toNatClampNeg (nI (sel4 pm x_64 y_65 z_66 i_81)))) 37 f37_35) 38 f38_45) 39 f39_46) 40 f40_47) 41 f41_48) gv) H := hP
          have hD : va_D A (mw h0 ad cs (upd iv 35 1) (uF (uF (uF (uF (uF (uF fv 36 (upd f36_82 (nI (tK a1 i_81)).toNatClampNeg (nI (sel4 pm x_64 y_65 z_66 i_81)))) 37 f37_35) 38 f38_45) 39 f39_46) 40 f40_47) 41 f41_48) gv) := hD
          obtain ⟨f_106, hf_107⟩ : ∃ g9, g9 = upd f36_82 (nI (tK a1 i_81)).toNatClampNeg (nI (sel4 pm x_64 y_65 z_66 i_81)) := ⟨_, rfl⟩
          rw [← hf_107] at hP hD
          rw [nI_clamp (n := tK a1 i_81) (by omega)] at hf_107
          refine lv_iinc (v := nI (i_81 + 1)) (lv' := [(10, .int (nI (i_81 + 1))), (9, .int kp_58), (7, .long be_59), (6, .int (nI n_34)), (0, .ref h0)]) hx hb dX9_blend_773 hl (k := 0) rfl (nI_add i_81 1) (by decide) rfl (fun ls hl => ?_)
          refine lv_goto (tgt := 700) hx hb dX9_blend_776 (by decide) ?_
          exact ih_80 (i_81 + 1, f_106) (mw h0 ad cs (upd iv 35 1) (uF (uF (uF (uF (uF (uF fv 36 f_106) 37 f37_35) 38 f38_45) 39 f39_46) 40 f40_47) 41 f41_48) gv) _ _ ls (by show n_34 - (i_81 + 1) < n_34 - i_81; omega) ⟨rfl, (show (i_81 + 1) ≤ n_34 from by omega), (show ∀ t9 : Nat, t9 < 10 → f_106 t9 = if bB a1 t9 ∧ cB a1 t9 < (i_81 + 1) then nI (sel4 pm x_64 y_65 z_66 (cB a1 t9)) else 0 from fun t9 h9 => by rw [hf_107]; exact kbs_s (f := fun k9 => nI (sel4 pm x_64 y_65 z_66 k9)) (by omega) hg7_84 h9)⟩ hP hD hS (lv_sub hl [0, 1, 2, 3, 4] rfl)
        have d_108 := n_nle (a := 10) (b := i_74) (by omega) (by omega) c_78
        refine lv_aload_n hx hb dX9_blend_683 rfl (lv_at hl 4 rfl) ?_
        refine va_get (D := D) (ci := 9) (v := .ref (ad 36)) (C := RX9) (T := TX9) (N := 44) hx hb hts hin9 hown hK hP 0 rfl rfl 36 (by decide) (hts (.fieldLink RX9 121 "HoneyHouseModel" "parts" "[I") (List.mem_of_getElem? (i := 11) rfl)) (fun _ h9 => h9) rfl dX9_blend_684 ?_
        refine lv_iload hx hb dX9_blend_687 (lv_at hl 0 rfl) ?_
        refine lv_iconst (v := 0) hx hb dX9_blend_689 (by decide) ?_
        refine va_iast (f := f36_75) (n := 10) hx hb hK hP hD hS 23 22 rfl rfl (vp_in_nI (n := i_74) (by omega) (by omega)) dX9_blend_690 (fun H locs hP hD hS => ?_)
        have hP : va_P D vwCl (mw h0 ad cs (upd iv 35 1) (uF (uF (uF (uF (uF (uF fv 36 (upd f36_75 (nI i_74).toNatClampNeg 0)) 37 f37_35) 38 f38_45) 39 f39_46) 40 f40_47) 41 f41_48) gv) H := hP
        have hD : va_D A (mw h0 ad cs (upd iv 35 1) (uF (uF (uF (uF (uF (uF fv 36 (upd f36_75 (nI i_74).toNatClampNeg 0)) 37 f37_35) 38 f38_45) 39 f39_46) 40 f40_47) 41 f41_48) gv) := hD
        obtain ⟨f_109, hf_110⟩ : ∃ g9, g9 = upd f36_75 (nI i_74).toNatClampNeg 0 := ⟨_, rfl⟩
        rw [← hf_110] at hP hD
        rw [nI_clamp (n := i_74) (by omega)] at hf_110
        refine lv_iinc (v := nI (i_74 + 1)) (lv' := [(10, .int (nI (i_74 + 1))), (9, .int kp_58), (7, .long be_59), (6, .int (nI n_34)), (0, .ref h0)]) hx hb dX9_blend_691 hl (k := 0) rfl (nI_add i_74 1) (by decide) rfl (fun ls hl => ?_)
        refine lv_goto (tgt := 676) hx hb dX9_blend_694 (by decide) ?_
        exact ih_73 (i_74 + 1, f_109) (mw h0 ad cs (upd iv 35 1) (uF (uF (uF (uF (uF (uF fv 36 f_109) 37 f37_35) 38 f38_45) 39 f39_46) 40 f40_47) 41 f41_48) gv) _ _ ls (by show 10 - (i_74 + 1) < 10 - i_74; omega) ⟨rfl, (show (i_74 + 1) ≤ 10 from by omega), (show ∀ t9 : Nat, t9 < (i_74 + 1) → f_109 t9 = 0 from fun t9 h9 => by rw [hf_110]; rcases Nat.decEq t9 i_74 with q | q; rw [upd_n q]; exact hz6_77 t9 (by omega); rw [q, upd_s])⟩ hP hD hS (lv_sub hl [0, 1, 2, 3, 4] rfl)
      have d_111 := n_nlt (a := pm) (b := a_57) (by omega) (by omega) c_62
      refine lv_iload hx hb dX9_blend_311 (lv_at hl 0 rfl) ?_
      refine lv_aload_n hx hb dX9_blend_313 rfl (lv_at hl 8 rfl) ?_
      refine va_get (D := D) (ci := 9) (v := .ref (ad 41)) (C := RX9) (T := TX9) (N := 44) hx hb hts hin9 hown hK hP 0 rfl rfl 41 (by decide) (hts (.fieldLink RX9 136 "HoneyHouseModel" "there" "[I") (List.mem_of_getElem? (i := 7) rfl)) (fun _ h9 => h9) rfl dX9_blend_314 ?_
      refine lv_iconst (v := 0) hx hb dX9_blend_317 (by decide) ?_
      refine va_iald (f := f41_48) (n := 4) hx hb hK hP 28 27 rfl rfl (vp_in_iff.mpr (by decide)) dX9_blend_318 ?_
      refine lv_topi (fun z_112 hz_113 => ?_)
      obtain rfl : z_112 = nI (bM fv a1 0) := hz_113.trans (h41_53 0 (by omega))
      refine lv_icmp_gt (tgt := 658) hx hb dX9_blend_319 (by decide) (fun c_114 => ?_) (fun c_114 => ?_)
      · have d_115 := n_lt (a := bM fv a1 0) (b := a_57) (by omega) (by omega) c_114
        have hlx := rn_a (M := bM fv a1) (W := bW fv n3 a1) (C := bC fv n3 a1) (m := pm) (wa := wa) (le := le) (mo := mo) (x := a_57) (fun k9 b8 c8 h9 h8 => by have := h8.1; have := h8.2.2.2.1; omega)
        rcases hs1_61 with ⟨hv_120, hN_122⟩ | ⟨x_116, y_117, z_118, hS_119, hv_120, hk_121⟩
        · refine lv_lload hx hb dX9_blend_658 (lv_at hl 2 rfl) ?_
          refine tp_l (y := (-1)) (hv_120) ?_
          refine lv_lconst (v := 0) hx hb dX9_blend_660 (by decide) ?_
          refine W.lcmp hx hb dX9_blend_661 ?_
          refine lv_if_ge (tgt := 668) hx hb dX9_blend_662 (by decide) (fun c_123 => absurd c_123 (by decide)) (fun c_123 => ?_)
          refine lv_bipush (v := (-2)) hx hb dX9_blend_665 (by decide) ?_
          have hP : va_P D vwCl (mw h0 ad cs (upd iv 35 (iv 35)) (uF (uF (uF (uF (uF (uF fv 36 (fv 36)) 37 f37_35) 38 f38_45) 39 f39_46) 40 f40_47) 41 f41_48) gv) H := hP
          have hD : va_D A (mw h0 ad cs (upd iv 35 (iv 35)) (uF (uF (uF (uF (uF (uF fv 36 (fv 36)) 37 f37_35) 38 f38_45) 39 f39_46) 40 f40_47) 41 f41_48) gv) := hD
          exact W.iret (v := (-2)) hx hb hr (fun t ht hW => ⟨⟨(-2), (-2), rfl, rfl, iv 35, fv 36, f37_35, f38_45, f39_46, f40_47, f41_48, Or.inl ⟨bNo_of ⟨⟨rfl, hpm1, hpm2⟩, ⟨rfl, hwa2⟩, ⟨rfl, hle2⟩, ⟨rfl, hmo2⟩, hAT⟩ (bN.e hN_122 hlx), rfl, rfl⟩, by rw [ht]; exact hP, va_K.moved hW.alike hK, hD⟩, hS.F ht⟩) hS.2.2 dX9_blend_667
        have hmq : mix (bP fv a1) pm x_116 y_117 z_118 ≤ pm * 10000 := mix_le (fun k9 _ => by have := hpl k9; omega) hS_119.2.1.1.2.2.2.1
        have him := hS_119.2.1.1
        obtain ⟨hq0, hqa, hqb, hqc, hqd⟩ := kp_b (a := x_116) (b := y_117) (c := z_118) (d := pm - x_116 - y_117 - z_118) (by have := him.2.2.2.1; omega) (by have := him.2.2.2.1; omega) (by have := him.2.2.2.1; omega) (by omega)
        refine lv_lload hx hb dX9_blend_658 (lv_at hl 2 rfl) ?_
        refine tp_l (y := (nI (mix (bP fv a1) pm x_116 y_117 z_118)).toInt64) (hv_120) ?_
        refine lv_lconst (v := 0) hx hb dX9_blend_660 (by decide) ?_
        refine W.lcmp hx hb dX9_blend_661 ?_
        refine lv_if_ge (tgt := 668) hx hb dX9_blend_662 (by decide) (fun c_124 => ?_) (fun c_124 => absurd (ge_0 (lc_0 (by omega))) c_124)
        refine lv_aload_n hx hb dX9_blend_668 rfl (lv_at hl 8 rfl) ?_
        refine lv_iconst (v := 1) hx hb dX9_blend_669 (by decide) ?_
        refine va_put (D := D) (ci := 9) (v := .int 1) (ty := .boolean) (C := RX9) (T := TX9) (N := 44) hx hb hts hin9 tyX9 tyX9_ok nmX9 hown hK hP hD hS 0 rfl rfl 35 (by decide) (hts (.fieldLink RX9 117 "HoneyHouseModel" "blended" "Z") (List.mem_of_getElem? (i := 10) rfl)) (fun _ h9 => h9) rfl (tyX9_ok 35 (by decide)) rfl rfl (Nat.le_of_ble_eq_true rfl) dX9_blend_670 (fun H locs hP hD hS => ?_)
        have hP : va_P D vwCl (mw h0 ad cs (upd iv 35 1) (uF (uF (uF (uF (uF fv 37 f37_35) 38 f38_45) 39 f39_46) 40 f40_47) 41 f41_48) gv) H := hP
        have hD : va_D A (mw h0 ad cs (upd iv 35 1) (uF (uF (uF (uF (uF fv 37 f37_35) 38 f38_45) 39 f39_46) 40 f40_47) 41 f41_48) gv) := hD
        refine lv_iconst (v := 0) hx hb dX9_blend_673 (by decide) ?_
        refine lv_istore (lv' := [(10, .int 0), (9, .int kp_58), (7, .long be_59), (6, .int (nI n_34)), (5, .int (nI mo)), (4, .int (nI le)), (3, .int (nI wa)), (2, .int (nI pm)), (0, .ref h0)]) hx hb dX9_blend_674 hl (by decide) rfl (fun ls hl => ?_)
        refine lp_V (nL := 20) (σ := Nat × (Nat → Int32)) (lv := fun x9 => [(10, .int (nI x9.1)), (9, .int kp_58), (7, .long be_59), (6, .int (nI n_34)), (0, .ref h0)]) (μ := fun x9 => 10 - x9.1) (J := fun x9 ws9 => ws9 = (mw h0 ad cs (upd iv 35 1) (uF (uF (uF (uF (uF (uF fv 36 x9.2) 37 f37_35) 38 f38_45) 39 f39_46) 40 f40_47) 41 f41_48) gv) ∧ (x9.1 ≤ 10) ∧ (∀ t9 : Nat, t9 < x9.1 → x9.2 t9 = 0)) (fun x9 ws9 H locs ls hj hP hD hS hl ih_125 => ?_) (0, fv 36) (mw h0 ad cs (upd iv 35 1) (uF (uF (uF (uF (uF fv 37 f37_35) 38 f38_45) 39 f39_46) 40 f40_47) 41 f41_48) gv) _ _ ls ⟨rfl, (show 0 ≤ 10 from by omega), (show ∀ t9 : Nat, t9 < 0 → (fv 36) t9 = 0 from fun t9 h9 => absurd h9 (Nat.not_lt_zero _))⟩ hP hD hS (lv_sub hl [0, 1, 2, 3, 8] rfl)
        obtain ⟨i_126, f36_127⟩ := x9
        replace hj : ws9 = (mw h0 ad cs (upd iv 35 1) (uF (uF (uF (uF (uF (uF fv 36 f36_127) 37 f37_35) 38 f38_45) 39 f39_46) 40 f40_47) 41 f41_48) gv) ∧ (i_126 ≤ 10) ∧ (∀ t9 : Nat, t9 < i_126 → f36_127 t9 = 0) := hj
        obtain ⟨rfl, hi_128, hz6_129⟩ := hj
        have hl : lv_has ls 20 [(10, .int (nI i_126)), (9, .int kp_58), (7, .long be_59), (6, .int (nI n_34)), (0, .ref h0)] := hl
        refine lv_iload hx hb dX9_blend_676 (lv_at hl 0 rfl) ?_
        refine lv_bipush (v := 10) hx hb dX9_blend_678 (by decide) ?_
        refine lv_icmp_ge (tgt := 697) hx hb dX9_blend_680 (by decide) (fun c_130 => ?_) (fun c_130 => ?_)
        · have d_131 := n_le (a := 10) (b := i_126) (by omega) (by omega) c_130
          refine lv_iconst (v := 0) hx hb dX9_blend_697 (by decide) ?_
          refine lv_istore (lv' := [(10, .int 0), (9, .int kp_58), (7, .long be_59), (6, .int (nI n_34)), (0, .ref h0)]) hx hb dX9_blend_698 hl (by decide) rfl (fun ls hl => ?_)
          refine lp_V (nL := 20) (σ := Nat × (Nat → Int32)) (lv := fun x9 => [(10, .int (nI x9.1)), (9, .int kp_58), (7, .long be_59), (6, .int (nI n_34)), (0, .ref h0)]) (μ := fun x9 => n_34 - x9.1) (J := fun x9 ws9 => ws9 = (mw h0 ad cs (upd iv 35 1) (uF (uF (uF (uF (uF (uF fv 36 x9.2) 37 f37_35) 38 f38_45) 39 f39_46) 40 f40_47) 41 f41_48) gv) ∧ (x9.1 ≤ n_34) ∧ (∀ t9 : Nat, t9 < 10 → x9.2 t9 = if bB a1 t9 ∧ cB a1 t9 < x9.1 then nI (sel4 pm x_116 y_117 z_118 (cB a1 t9)) else 0)) (fun x9 ws9 H locs ls hj hP hD hS hl ih_132 => ?_) (0, f36_127) (mw h0 ad cs (upd iv 35 1) (uF (uF (uF (uF (uF (uF fv 36 f36_127) 37 f37_35) 38 f38_45) 39 f39_46) 40 f40_47) 41 f41_48) gv) _ _ ls ⟨rfl, (show 0 ≤ n_34 from by omega), (show ∀ t9 : Nat, t9 < 10 → f36_127 t9 = if bB a1 t9 ∧ cB a1 t9 < 0 then nI (sel4 pm x_116 y_117 z_118 (cB a1 t9)) else 0 from fun t9 h9 => by rw [hz6_129 t9 (by omega), if_neg (fun h8 => absurd h8.2 (Nat.not_lt_zero _))])⟩ hP hD hS (lv_sub hl [0, 1, 2, 3, 4] rfl)
          obtain ⟨i_133, f36_134⟩ := x9
          replace hj : ws9 = (mw h0 ad cs (upd iv 35 1) (uF (uF (uF (uF (uF (uF fv 36 f36_134) 37 f37_35) 38 f38_45) 39 f39_46) 40 f40_47) 41 f41_48) gv) ∧ (i_133 ≤ n_34) ∧ (∀ t9 : Nat, t9 < 10 → f36_134 t9 = if bB a1 t9 ∧ cB a1 t9 < i_133 then nI (sel4 pm x_116 y_117 z_118 (cB a1 t9)) else 0) := hj
          obtain ⟨rfl, hi_135, hg7_136⟩ := hj
          have hl : lv_has ls 20 [(10, .int (nI i_133)), (9, .int kp_58), (7, .long be_59), (6, .int (nI n_34)), (0, .ref h0)] := hl
          refine lv_iload hx hb dX9_blend_700 (lv_at hl 0 rfl) ?_
          refine lv_iload hx hb dX9_blend_702 (lv_at hl 3 rfl) ?_
          refine lv_icmp_ge (tgt := 779) hx hb dX9_blend_704 (by decide) (fun c_137 => ?_) (fun c_137 => ?_)
          · have d_138 := n_le (a := n_34) (b := i_133) (by omega) (by omega) c_137
            refine lv_lload hx hb dX9_blend_779 (lv_at hl 2 rfl) ?_
            refine lv_l2i hx hb dX9_blend_781 rfl ?_
            have hP : va_P D vwCl (mw h0 ad cs (upd iv 35 1) (uF (uF (uF (uF (uF (uF fv 36 f36_134) 37 f37_35) 38 f38_45) 39 f39_46) 40 f40_47) 41 f41_48) gv) H := hP
            have hD : va_D A (mw h0 ad cs (upd iv 35 1) (uF (uF (uF (uF (uF (uF fv 36 f36_134) 37 f37_35) 38 f38_45) 39 f39_46) 40 f40_47) 41 f41_48) gv) := hD
            exact W.iret (v := be_59.toInt32) hx hb hr (fun t ht hW => ⟨⟨be_59.toInt32, be_59.toInt32, rfl, rfl, 1, f36_134, f37_35, f38_45, f39_46, f40_47, f41_48, Or.inr ⟨rfl, pm, wa, le, mo, x_116, y_117, z_118, ⟨⟨rfl, hpm1, hpm2⟩, ⟨rfl, hwa2⟩, ⟨rfl, hle2⟩, ⟨rfl, hmo2⟩, hAT⟩, bS.e hS_119 hlx, kbs_e (by rw [← show i_133 = cB a1 10 by omega]; exact hg7_136)⟩, by rw [ht]; exact hP, va_K.moved hW.alike hK, hD⟩, hS.F ht⟩) hS.2.2 dX9_blend_782
          have d_139 := n_nle (a := n_34) (b := i_133) (by omega) (by omega) c_137
          refine lv_aload_n hx hb dX9_blend_707 rfl (lv_at hl 4 rfl) ?_
          refine va_get (D := D) (ci := 9) (v := .ref (ad 36)) (C := RX9) (T := TX9) (N := 44) hx hb hts hin9 hown hK hP 0 rfl rfl 36 (by decide) (hts (.fieldLink RX9 121 "HoneyHouseModel" "parts" "[I") (List.mem_of_getElem? (i := 11) rfl)) (fun _ h9 => h9) rfl dX9_blend_708 ?_
          refine lv_aload_n hx hb dX9_blend_711 rfl (lv_at hl 4 rfl) ?_
          refine va_get (D := D) (ci := 9) (v := .ref (ad 37)) (C := RX9) (T := TX9) (N := 44) hx hb hts hin9 hown hK hP 0 rfl rfl 37 (by decide) (hts (.fieldLink RX9 124 "HoneyHouseModel" "which" "[I") (List.mem_of_getElem? (i := 1) rfl)) (fun _ h9 => h9) rfl dX9_blend_712 ?_
          refine lv_iload hx hb dX9_blend_715 (lv_at hl 0 rfl) ?_
          refine va_iald (f := f37_35) (n := 4) hx hb hK hP 24 23 rfl rfl (vp_in_nI (n := i_133) (by omega) (by omega)) dX9_blend_717 ?_
          refine lv_topi (fun z_140 hz_141 => ?_)
          rw [nI_clamp (n := i_133) (by omega)] at hz_141
          obtain rfl : z_140 = nI (tK a1 i_133) := hz_141.trans (hw_39 i_133 (by omega))
          have htk_142 := (tK_at (a := a1) (k := i_133) (by omega)).1
          refine lv_iload hx hb dX9_blend_718 (lv_at hl 0 rfl) ?_
          refine lv_if_ne (tgt := 732) hx hb dX9_blend_720 (by decide) (fun c_143 => ?_) (fun c_143 => ?_)
          · have d_144 := n_ne (a := i_133) (b := 0) (by omega) (by omega) c_143
            refine lv_iload hx hb dX9_blend_732 (lv_at hl 0 rfl) ?_
            refine lv_iconst (v := 1) hx hb dX9_blend_734 (by decide) ?_
            refine lv_icmp_ne (tgt := 750) hx hb dX9_blend_735 (by decide) (fun c_145 => ?_) (fun c_145 => ?_)
            · have d_146 := n_ne (a := i_133) (b := 1) (by omega) (by omega) c_145
              refine lv_iload hx hb dX9_blend_750 (lv_at hl 0 rfl) ?_
              refine lv_iconst (v := 2) hx hb dX9_blend_752 (by decide) ?_
              refine lv_icmp_ne (tgt := 767) hx hb dX9_blend_753 (by decide) (fun c_147 => ?_) (fun c_147 => ?_)
              · have d_148 := n_ne (a := i_133) (b := 2) (by omega) (by omega) c_147
                refine lv_iload hx hb dX9_blend_767 (lv_at hl 1 rfl) ?_
                refine tp_i (y := nI (68921 * x_116 + 1681 * y_117 + 41 * z_118 + (pm - x_116 - y_117 - z_118))) (hk_121) ?_
                refine lv_bipush (v := 41) hx hb dX9_blend_769 (by decide) ?_
                refine lv_irem hx hb dX9_blend_771 (by decide) ?_
                refine tp_i (y := nI (sel4 pm x_116 y_117 z_118 i_133)) ((show nI (68921 * x_116 + 1681 * y_117 + 41 * z_118 + (pm - x_116 - y_117 - z_118)) - nI (68921 * x_116 + 1681 * y_117 + 41 * z_118 + (pm - x_116 - y_117 - z_118)) / nI 41 * nI 41 = _ from (rm_n (by omega) (by omega)).trans (by rw [hqd, show i_133 = 3 by omega]; rfl))) ?_
                refine va_iast (f := f36_134) (n := 10) hx hb hK hP hD hS 23 22 rfl rfl (vp_in_nI (n := tK a1 i_133) (by omega) (by omega)) dX9_blend_772 (fun H locs hP hD hS => ?_)
                have hP : va_P D vwCl (mw h0 ad cs (upd iv 35 1) (uF (uF (uF (uF (uF (uF fv 36 (upd f36_134 (nI (tK a1 i_133)).toNatClampNeg (nI (sel4 pm x_116 y_117 z_118 i_133)))) 37 f37_35) 38 f38_45) 39 f39_46) 40 f40_47) 41 f41_48) gv) H := hP
                have hD : va_D A (mw h0 ad cs (upd iv 35 1) (uF (uF (uF (uF (uF (uF fv 36 (upd f36_134 (nI (tK a1 i_133)).toNatClampNeg (nI (sel4 pm x_116 y_117 z_118 i_133)))) 37 f37_35) 38 f38_45) 39 f39_46) 40 f40_47) 41 f41_48) gv) := hD
                obtain ⟨f_149, hf_150⟩ : ∃ g9, g9 = upd f36_134 (nI (tK a1 i_133)).toNatClampNeg (nI (sel4 pm x_116 y_117 z_118 i_133)) := ⟨_, rfl⟩
                rw [← hf_150] at hP hD
                rw [nI_clamp (n := tK a1 i_133) (by omega)] at hf_150
                refine lv_iinc (v := nI (i_133 + 1)) (lv' := [(10, .int (nI (i_133 + 1))), (9, .int kp_58), (7, .long be_59), (6, .int (nI n_34)), (0, .ref h0)]) hx hb dX9_blend_773 hl (k := 0) rfl (nI_add i_133 1) (by decide) rfl (fun ls hl => ?_)
                refine lv_goto (tgt := 700) hx hb dX9_blend_776 (by decide) ?_
                exact ih_132 (i_133 + 1, f_149) (mw h0 ad cs (upd iv 35 1) (uF (uF (uF (uF (uF (uF fv 36 f_149) 37 f37_35) 38 f38_45) 39 f39_46) 40 f40_47) 41 f41_48) gv) _ _ ls (by show n_34 - (i_133 + 1) < n_34 - i_133; omega) ⟨rfl, (show (i_133 + 1) ≤ n_34 from by omega), (show ∀ t9 : Nat, t9 < 10 → f_149 t9 = if bB a1 t9 ∧ cB a1 t9 < (i_133 + 1) then nI (sel4 pm x_116 y_117 z_118 (cB a1 t9)) else 0 from fun t9 h9 => by rw [hf_150]; exact kbs_s (f := fun k9 => nI (sel4 pm x_116 y_117 z_118 k9)) (by omega) hg7_136 h9)⟩ hP hD hS (lv_sub hl [0, 1, 2, 3, 4] rfl)
              have d_151 := n_eq (a := i_133) (b := 2) (by omega) (by omega) c_147
              refine lv_iload hx hb dX9_blend_756 (lv_at hl 1 rfl) ?_
              refine tp_i (y := nI (68921 * x_116 + 1681 * y_117 + 41 * z_118 + (pm - x_116 - y_117 - z_118))) (hk_121) ?_
              refine lv_bipush (v := 41) hx hb dX9_blend_758 (by decide) ?_
              refine lv_idiv hx hb dX9_blend_760 (by decide) ?_
              refine tp_i (y := nI ((68921 * x_116 + 1681 * y_117 + 41 * z_118 + (pm - x_116 - y_117 - z_118)) / 41)) (dv_n (x := 68921 * x_116 + 1681 * y_117 + 41 * z_118 + (pm - x_116 - y_117 - z_118)) (k := 41) (by omega) (by omega)) ?_
              refine lv_bipush (v := 41) hx hb dX9_blend_761 (by decide) ?_
              refine lv_irem hx hb dX9_blend_763 (by decide) ?_
              refine tp_i (y := nI (sel4 pm x_116 y_117 z_118 i_133)) ((show nI ((68921 * x_116 + 1681 * y_117 + 41 * z_118 + (pm - x_116 - y_117 - z_118)) / 41) - nI ((68921 * x_116 + 1681 * y_117 + 41 * z_118 + (pm - x_116 - y_117 - z_118)) / 41) / nI 41 * nI 41 = _ from (rm_n (by omega) (by omega)).trans (by rw [hqc, show i_133 = 2 by omega]; rfl))) ?_
              refine lv_goto (tgt := 772) hx hb dX9_blend_764 (by decide) ?_
              refine va_iast (f := f36_134) (n := 10) hx hb hK hP hD hS 23 22 rfl rfl (vp_in_nI (n := tK a1 i_133) (by omega) (by omega)) dX9_blend_772 (fun H locs hP hD hS => ?_)
              have hP : va_P D vwCl (mw h0 ad cs (upd iv 35 1) (uF (uF (uF (uF (uF (uF fv 36 (upd f36_134 (nI (tK a1 i_133)).toNatClampNeg (nI (sel4 pm x_116 y_117 z_118 i_133)))) 37 f37_35) 38 f38_45) 39 f39_46) 40 f40_47) 41 f41_48) gv) H := hP
              have hD : va_D A (mw h0 ad cs (upd iv 35 1) (uF (uF (uF (uF (uF (uF fv 36 (upd f36_134 (nI (tK a1 i_133)).toNatClampNeg (nI (sel4 pm x_116 y_117 z_118 i_133)))) 37 f37_35) 38 f38_45) 39 f39_46) 40 f40_47) 41 f41_48) gv) := hD
              obtain ⟨f_152, hf_153⟩ : ∃ g9, g9 = upd f36_134 (nI (tK a1 i_133)).toNatClampNeg (nI (sel4 pm x_116 y_117 z_118 i_133)) := ⟨_, rfl⟩
              rw [← hf_153] at hP hD
              rw [nI_clamp (n := tK a1 i_133) (by omega)] at hf_153
              refine lv_iinc (v := nI (i_133 + 1)) (lv' := [(10, .int (nI (i_133 + 1))), (9, .int kp_58), (7, .long be_59), (6, .int (nI n_34)), (0, .ref h0)]) hx hb dX9_blend_773 hl (k := 0) rfl (nI_add i_133 1) (by decide) rfl (fun ls hl => ?_)
              refine lv_goto (tgt := 700) hx hb dX9_blend_776 (by decide) ?_
              exact ih_132 (i_133 + 1, f_152) (mw h0 ad cs (upd iv 35 1) (uF (uF (uF (uF (uF (uF fv 36 f_152) 37 f37_35) 38 f38_45) 39 f39_46) 40 f40_47) 41 f41_48) gv) _ _ ls (by show n_34 - (i_133 + 1) < n_34 - i_133; omega) ⟨rfl, (show (i_133 + 1) ≤ n_34 from by omega), (show ∀ t9 : Nat, t9 < 10 → f_152 t9 = if bB a1 t9 ∧ cB a1 t9 < (i_133 + 1) then nI (sel4 pm x_116 y_117 z_118 (cB a1 t9)) else 0 from fun t9 h9 => by rw [hf_153]; exact kbs_s (f := fun k9 => nI (sel4 pm x_116 y_117 z_118 k9)) (by omega) hg7_136 h9)⟩ hP hD hS (lv_sub hl [0, 1, 2, 3, 4] rfl)
            have d_154 := n_eq (a := i_133) (b := 1) (by omega) (by omega) c_145
            refine lv_iload hx hb dX9_blend_738 (lv_at hl 1 rfl) ?_
            refine tp_i (y := nI (68921 * x_116 + 1681 * y_117 + 41 * z_118 + (pm - x_116 - y_117 - z_118))) (hk_121) ?_
            refine lv_sipush (v := 1681) hx hb dX9_blend_740 (by decide) ?_
            refine lv_idiv hx hb dX9_blend_743 (by decide) ?_
            refine tp_i (y := nI ((68921 * x_116 + 1681 * y_117 + 41 * z_118 + (pm - x_116 - y_117 - z_118)) / 1681)) (dv_n (x := 68921 * x_116 + 1681 * y_117 + 41 * z_118 + (pm - x_116 - y_117 - z_118)) (k := 1681) (by omega) (by omega)) ?_
            refine lv_bipush (v := 41) hx hb dX9_blend_744 (by decide) ?_
            refine lv_irem hx hb dX9_blend_746 (by decide) ?_
            refine tp_i (y := nI (sel4 pm x_116 y_117 z_118 i_133)) ((show nI ((68921 * x_116 + 1681 * y_117 + 41 * z_118 + (pm - x_116 - y_117 - z_118)) / 1681) - nI ((68921 * x_116 + 1681 * y_117 + 41 * z_118 + (pm - x_116 - y_117 - z_118)) / 1681) / nI 41 * nI 41 = _ from (rm_n (by omega) (by omega)).trans (by rw [hqb, show i_133 = 1 by omega]; rfl))) ?_
            refine lv_goto (tgt := 772) hx hb dX9_blend_747 (by decide) ?_
            refine va_iast (f := f36_134) (n := 10) hx hb hK hP hD hS 23 22 rfl rfl (vp_in_nI (n := tK a1 i_133) (by omega) (by omega)) dX9_blend_772 (fun H locs hP hD hS => ?_)
            have hP : va_P D vwCl (mw h0 ad cs (upd iv 35 1) (uF (uF (uF (uF (uF (uF fv 36 (upd f36_134 (nI (tK a1 i_133)).toNatClampNeg (nI (sel4 pm x_116 y_117 z_118 i_133)))) 37 f37_35) 38 f38_45) 39 f39_46) 40 f40_47) 41 f41_48) gv) H := hP
            have hD : va_D A (mw h0 ad cs (upd iv 35 1) (uF (uF (uF (uF (uF (uF fv 36 (upd f36_134 (nI (tK a1 i_133)).toNatClampNeg (nI (sel4 pm x_116 y_117 z_118 i_133)))) 37 f37_35) 38 f38_45) 39 f39_46) 40 f40_47) 41 f41_48) gv) := hD
            obtain ⟨f_155, hf_156⟩ : ∃ g9, g9 = upd f36_134 (nI (tK a1 i_133)).toNatClampNeg (nI (sel4 pm x_116 y_117 z_118 i_133)) := ⟨_, rfl⟩
            rw [← hf_156] at hP hD
            rw [nI_clamp (n := tK a1 i_133) (by omega)] at hf_156
            refine lv_iinc (v := nI (i_133 + 1)) (lv' := [(10, .int (nI (i_133 + 1))), (9, .int kp_58), (7, .long be_59), (6, .int (nI n_34)), (0, .ref h0)]) hx hb dX9_blend_773 hl (k := 0) rfl (nI_add i_133 1) (by decide) rfl (fun ls hl => ?_)
            refine lv_goto (tgt := 700) hx hb dX9_blend_776 (by decide) ?_
            exact ih_132 (i_133 + 1, f_155) (mw h0 ad cs (upd iv 35 1) (uF (uF (uF (uF (uF (uF fv 36 f_155) 37 f37_35) 38 f38_45) 39 f39_46) 40 f40_47) 41 f41_48) gv) _ _ ls (by show n_34 - (i_133 + 1) < n_34 - i_133; omega) ⟨rfl, (show (i_133 + 1) ≤ n_34 from by omega), (show ∀ t9 : Nat, t9 < 10 → f_155 t9 = if bB a1 t9 ∧ cB a1 t9 < (i_133 + 1) then nI (sel4 pm x_116 y_117 z_118 (cB a1 t9)) else 0 from fun t9 h9 => by rw [hf_156]; exact kbs_s (f := fun k9 => nI (sel4 pm x_116 y_117 z_118 k9)) (by omega) hg7_136 h9)⟩ hP hD hS (lv_sub hl [0, 1, 2, 3, 4] rfl)
          have d_157 := n_eq (a := i_133) (b := 0) (by omega) (by omega) c_143
          refine lv_iload hx hb dX9_blend_723 (lv_at hl 1 rfl) ?_
          refine tp_i (y := nI (68921 * x_116 + 1681 * y_117 + 41 * z_118 + (pm - x_116 - y_117 - z_118))) (hk_121) ?_
          refine lv_ldcw hx hb hown (hts (.constant RX9 292 (68921)) (List.mem_of_getElem? (i := 9) rfl)) dX9_blend_725 ?_
          refine lv_idiv hx hb dX9_blend_728 (by decide) ?_
          refine tp_i (y := nI (sel4 pm x_116 y_117 z_118 i_133)) ((dv_n (x := 68921 * x_116 + 1681 * y_117 + 41 * z_118 + (pm - x_116 - y_117 - z_118)) (k := 68921) (by omega) (by omega)).trans (by rw [hqa, show i_133 = 0 by omega]; rfl)) ?_
          refine lv_goto (tgt := 772) hx hb dX9_blend_729 (by decide) ?_
          refine va_iast (f := f36_134) (n := 10) hx hb hK hP hD hS 23 22 rfl rfl (vp_in_nI (n := tK a1 i_133) (by omega) (by omega)) dX9_blend_772 (fun H locs hP hD hS => ?_)
          have hP : va_P D vwCl (mw h0 ad cs (upd iv 35 1) (uF (uF (uF (uF (uF (uF fv 36 (upd f36_134 (nI (tK a1 i_133)).toNatClampNeg (nI (sel4 pm x_116 y_117 z_118 i_133)))) 37 f37_35) 38 f38_45) 39 f39_46) 40 f40_47) 41 f41_48) gv) H := hP
          have hD : va_D A (mw h0 ad cs (upd iv 35 1) (uF (uF (uF (uF (uF (uF fv 36 (upd f36_134 (nI (tK a1 i_133)).toNatClampNeg (nI (sel4 pm x_116 y_117 z_118 i_133)))) 37 f37_35) 38 f38_45) 39 f39_46) 40 f40_47) 41 f41_48) gv) := hD
          obtain ⟨f_158, hf_159⟩ : ∃ g9, g9 = upd f36_134 (nI (tK a1 i_133)).toNatClampNeg (nI (sel4 pm x_116 y_117 z_118 i_133)) := ⟨_, rfl⟩
          rw [← hf_159] at hP hD
          rw [nI_clamp (n := tK a1 i_133) (by omega)] at hf_159
          refine lv_iinc (v := nI (i_133 + 1)) (lv' := [(10, .int (nI (i_133 + 1))), (9, .int kp_58), (7, .long be_59), (6, .int (nI n_34)), (0, .ref h0)]) hx hb dX9_blend_773 hl (k := 0) rfl (nI_add i_133 1) (by decide) rfl (fun ls hl => ?_)
          refine lv_goto (tgt := 700) hx hb dX9_blend_776 (by decide) ?_
          exact ih_132 (i_133 + 1, f_158) (mw h0 ad cs (upd iv 35 1) (uF (uF (uF (uF (uF (uF fv 36 f_158) 37 f37_35) 38 f38_45) 39 f39_46) 40 f40_47) 41 f41_48) gv) _ _ ls (by show n_34 - (i_133 + 1) < n_34 - i_133; omega) ⟨rfl, (show (i_133 + 1) ≤ n_34 from by omega), (show ∀ t9 : Nat, t9 < 10 → f_158 t9 = if bB a1 t9 ∧ cB a1 t9 < (i_133 + 1) then nI (sel4 pm x_116 y_117 z_118 (cB a1 t9)) else 0 from fun t9 h9 => by rw [hf_159]; exact kbs_s (f := fun k9 => nI (sel4 pm x_116 y_117 z_118 k9)) (by omega) hg7_136 h9)⟩ hP hD hS (lv_sub hl [0, 1, 2, 3, 4] rfl)
        have d_160 := n_nle (a := 10) (b := i_126) (by omega) (by omega) c_130
        refine lv_aload_n hx hb dX9_blend_683 rfl (lv_at hl 4 rfl) ?_
        refine va_get (D := D) (ci := 9) (v := .ref (ad 36)) (C := RX9) (T := TX9) (N := 44) hx hb hts hin9 hown hK hP 0 rfl rfl 36 (by decide) (hts (.fieldLink RX9 121 "HoneyHouseModel" "parts" "[I") (List.mem_of_getElem? (i := 11) rfl)) (fun _ h9 => h9) rfl dX9_blend_684 ?_
        refine lv_iload hx hb dX9_blend_687 (lv_at hl 0 rfl) ?_
        refine lv_iconst (v := 0) hx hb dX9_blend_689 (by decide) ?_
        refine va_iast (f := f36_127) (n := 10) hx hb hK hP hD hS 23 22 rfl rfl (vp_in_nI (n := i_126) (by omega) (by omega)) dX9_blend_690 (fun H locs hP hD hS => ?_)
        have hP : va_P D vwCl (mw h0 ad cs (upd iv 35 1) (uF (uF (uF (uF (uF (uF fv 36 (upd f36_127 (nI i_126).toNatClampNeg 0)) 37 f37_35) 38 f38_45) 39 f39_46) 40 f40_47) 41 f41_48) gv) H := hP
        have hD : va_D A (mw h0 ad cs (upd iv 35 1) (uF (uF (uF (uF (uF (uF fv 36 (upd f36_127 (nI i_126).toNatClampNeg 0)) 37 f37_35) 38 f38_45) 39 f39_46) 40 f40_47) 41 f41_48) gv) := hD
        obtain ⟨f_161, hf_162⟩ : ∃ g9, g9 = upd f36_127 (nI i_126).toNatClampNeg 0 := ⟨_, rfl⟩
        rw [← hf_162] at hP hD
        rw [nI_clamp (n := i_126) (by omega)] at hf_162
        refine lv_iinc (v := nI (i_126 + 1)) (lv' := [(10, .int (nI (i_126 + 1))), (9, .int kp_58), (7, .long be_59), (6, .int (nI n_34)), (0, .ref h0)]) hx hb dX9_blend_691 hl (k := 0) rfl (nI_add i_126 1) (by decide) rfl (fun ls hl => ?_)
        refine lv_goto (tgt := 676) hx hb dX9_blend_694 (by decide) ?_
        exact ih_125 (i_126 + 1, f_161) (mw h0 ad cs (upd iv 35 1) (uF (uF (uF (uF (uF (uF fv 36 f_161) 37 f37_35) 38 f38_45) 39 f39_46) 40 f40_47) 41 f41_48) gv) _ _ ls (by show 10 - (i_126 + 1) < 10 - i_126; omega) ⟨rfl, (show (i_126 + 1) ≤ 10 from by omega), (show ∀ t9 : Nat, t9 < (i_126 + 1) → f_161 t9 = 0 from fun t9 h9 => by rw [hf_162]; rcases Nat.decEq t9 i_126 with q | q; rw [upd_n q]; exact hz6_129 t9 (by omega); rw [q, upd_s])⟩ hP hD hS (lv_sub hl [0, 1, 2, 3, 4] rfl)
      have d_163 := n_nlt (a := bM fv a1 0) (b := a_57) (by omega) (by omega) c_114
      refine lv_iconst (v := 0) hx hb dX9_blend_322 (by decide) ?_
      refine lv_istore (lv' := [(11, .int 0), (10, .int (nI a_57)), (9, .int kp_58), (7, .long be_59), (6, .int (nI n_34)), (5, .int (nI mo)), (4, .int (nI le)), (3, .int (nI wa)), (2, .int (nI pm)), (0, .ref h0)]) hx hb dX9_blend_323 hl (by decide) rfl (fun ls hl => ?_)
      refine lp_V (nL := 20) (σ := Nat × Int32 × Int64) (lv := fun x9 => [(11, .int (nI x9.1)), (10, .int (nI a_57)), (9, .int x9.2.1), (7, .long x9.2.2), (6, .int (nI n_34)), (5, .int (nI mo)), (4, .int (nI le)), (3, .int (nI wa)), (2, .int (nI pm)), (0, .ref h0)]) (μ := fun x9 => pm + 1 - x9.1) (J := fun x9 ws9 => ws9 = (mw h0 ad cs iv (uF (uF (uF (uF (uF fv 37 f37_35) 38 f38_45) 39 f39_46) 40 f40_47) 41 f41_48) gv) ∧ (x9.1 ≤ pm + 1) ∧ (bY (bF (bM fv a1) (bW fv n3 a1) (bC fv n3 a1) pm wa le mo) (mix (bP fv a1) pm) pm x9.2.2 x9.2.1 a_57 x9.1 0)) (fun x9 ws9 H locs ls hj hP hD hS hl ih_164 => ?_) (0, kp_58, be_59) (mw h0 ad cs iv (uF (uF (uF (uF (uF fv 37 f37_35) 38 f38_45) 39 f39_46) 40 f40_47) 41 f41_48) gv) _ _ ls ⟨rfl, (show 0 ≤ pm + 1 from by omega), (show bY (bF (bM fv a1) (bW fv n3 a1) (bC fv n3 a1) pm wa le mo) (mix (bP fv a1) pm) pm be_59 kp_58 a_57 0 0 from hs1_61)⟩ hP hD hS (lv_sub hl [0, 1, 2, 3, 4, 5, 6, 7, 8, 9] rfl)
      obtain ⟨b_165, kp_166, be_167⟩ := x9
      replace hj : ws9 = (mw h0 ad cs iv (uF (uF (uF (uF (uF fv 37 f37_35) 38 f38_45) 39 f39_46) 40 f40_47) 41 f41_48) gv) ∧ (b_165 ≤ pm + 1) ∧ (bY (bF (bM fv a1) (bW fv n3 a1) (bC fv n3 a1) pm wa le mo) (mix (bP fv a1) pm) pm be_167 kp_166 a_57 b_165 0) := hj
      obtain ⟨rfl, hb9_168, hs2_169⟩ := hj
      have hl : lv_has ls 20 [(11, .int (nI b_165)), (10, .int (nI a_57)), (9, .int kp_166), (7, .long be_167), (6, .int (nI n_34)), (5, .int (nI mo)), (4, .int (nI le)), (3, .int (nI wa)), (2, .int (nI pm)), (0, .ref h0)] := hl
      refine lv_iload hx hb dX9_blend_325 (lv_at hl 1 rfl) ?_
      refine lv_iload hx hb dX9_blend_327 (lv_at hl 0 rfl) ?_
      refine lv_iadd hx hb dX9_blend_329 ?_
      refine tp_i (y := nI (a_57 + b_165)) (nI_add a_57 b_165) ?_
      refine lv_iload_n hx hb dX9_blend_330 rfl (lv_at hl 8 rfl) ?_
      refine lv_icmp_gt (tgt := 652) hx hb dX9_blend_331 (by decide) (fun c_170 => ?_) (fun c_170 => ?_)
      · have d_171 := n_lt (a := pm) (b := a_57 + b_165) (by omega) (by omega) c_170
        refine lv_iinc (v := nI (a_57 + 1)) (lv' := [(10, .int (nI (a_57 + 1))), (11, .int (nI b_165)), (9, .int kp_166), (7, .long be_167), (6, .int (nI n_34)), (5, .int (nI mo)), (4, .int (nI le)), (3, .int (nI wa)), (2, .int (nI pm)), (0, .ref h0)]) hx hb dX9_blend_652 hl (k := 1) rfl (nI_add a_57 1) (by decide) rfl (fun ls hl => ?_)
        refine lv_goto (tgt := 305) hx hb dX9_blend_655 (by decide) ?_
        exact ih_56 (a_57 + 1, kp_166, be_167) (mw h0 ad cs iv (uF (uF (uF (uF (uF fv 37 f37_35) 38 f38_45) 39 f39_46) 40 f40_47) 41 f41_48) gv) _ _ ls (by show pm + 1 - (a_57 + 1) < pm + 1 - a_57; omega) ⟨rfl, (show (a_57 + 1) ≤ pm + 1 from by omega), (show bY (bF (bM fv a1) (bW fv n3 a1) (bC fv n3 a1) pm wa le mo) (mix (bP fv a1) pm) pm be_167 kp_166 (a_57 + 1) 0 0 from bY_to hs2_169 lx_a (rn_b (fun k9 c8 h9 h8 => by have := h8.2.1; have := h8.2.2.2.1; omega)))⟩ hP hD hS (lv_sub hl [0, 2, 3, 4, 5, 6, 7, 8, 9] rfl)
      have d_172 := n_nlt (a := pm) (b := a_57 + b_165) (by omega) (by omega) c_170
      refine lv_iload hx hb dX9_blend_334 (lv_at hl 0 rfl) ?_
      refine lv_aload_n hx hb dX9_blend_336 rfl (lv_at hl 9 rfl) ?_
      refine va_get (D := D) (ci := 9) (v := .ref (ad 41)) (C := RX9) (T := TX9) (N := 44) hx hb hts hin9 hown hK hP 0 rfl rfl 41 (by decide) (hts (.fieldLink RX9 136 "HoneyHouseModel" "there" "[I") (List.mem_of_getElem? (i := 7) rfl)) (fun _ h9 => h9) rfl dX9_blend_337 ?_
      refine lv_iconst (v := 1) hx hb dX9_blend_340 (by decide) ?_
      refine va_iald (f := f41_48) (n := 4) hx hb hK hP 28 27 rfl rfl (vp_in_iff.mpr (by decide)) dX9_blend_341 ?_
      refine lv_topi (fun z_173 hz_174 => ?_)
      obtain rfl : z_173 = nI (bM fv a1 1) := hz_174.trans (h41_53 1 (by omega))
      refine lv_icmp_gt (tgt := 652) hx hb dX9_blend_342 (by decide) (fun c_175 => ?_) (fun c_175 => ?_)
      · have d_176 := n_lt (a := bM fv a1 1) (b := b_165) (by omega) (by omega) c_175
        refine lv_iinc (v := nI (a_57 + 1)) (lv' := [(10, .int (nI (a_57 + 1))), (11, .int (nI b_165)), (9, .int kp_166), (7, .long be_167), (6, .int (nI n_34)), (5, .int (nI mo)), (4, .int (nI le)), (3, .int (nI wa)), (2, .int (nI pm)), (0, .ref h0)]) hx hb dX9_blend_652 hl (k := 1) rfl (nI_add a_57 1) (by decide) rfl (fun ls hl => ?_)
        refine lv_goto (tgt := 305) hx hb dX9_blend_655 (by decide) ?_
        exact ih_56 (a_57 + 1, kp_166, be_167) (mw h0 ad cs iv (uF (uF (uF (uF (uF fv 37 f37_35) 38 f38_45) 39 f39_46) 40 f40_47) 41 f41_48) gv) _ _ ls (by show pm + 1 - (a_57 + 1) < pm + 1 - a_57; omega) ⟨rfl, (show (a_57 + 1) ≤ pm + 1 from by omega), (show bY (bF (bM fv a1) (bW fv n3 a1) (bC fv n3 a1) pm wa le mo) (mix (bP fv a1) pm) pm be_167 kp_166 (a_57 + 1) 0 0 from bY_to hs2_169 lx_a (rn_b (fun k9 c8 h9 h8 => by have := h8.2.1; have := h8.2.2.2.1; omega)))⟩ hP hD hS (lv_sub hl [0, 2, 3, 4, 5, 6, 7, 8, 9] rfl)
      have d_177 := n_nlt (a := bM fv a1 1) (b := b_165) (by omega) (by omega) c_175
      refine lv_iconst (v := 0) hx hb dX9_blend_345 (by decide) ?_
      refine lv_istore (lv' := [(12, .int 0), (11, .int (nI b_165)), (10, .int (nI a_57)), (9, .int kp_166), (7, .long be_167), (6, .int (nI n_34)), (5, .int (nI mo)), (4, .int (nI le)), (3, .int (nI wa)), (2, .int (nI pm)), (0, .ref h0)]) hx hb dX9_blend_346 hl (by decide) rfl (fun ls hl => ?_)
      refine lp_V (nL := 20) (σ := Nat × Int32 × Int64) (lv := fun x9 => [(12, .int (nI x9.1)), (11, .int (nI b_165)), (10, .int (nI a_57)), (9, .int x9.2.1), (7, .long x9.2.2), (6, .int (nI n_34)), (5, .int (nI mo)), (4, .int (nI le)), (3, .int (nI wa)), (2, .int (nI pm)), (0, .ref h0)]) (μ := fun x9 => pm + 1 - x9.1) (J := fun x9 ws9 => ws9 = (mw h0 ad cs iv (uF (uF (uF (uF (uF fv 37 f37_35) 38 f38_45) 39 f39_46) 40 f40_47) 41 f41_48) gv) ∧ (x9.1 ≤ pm + 1) ∧ (bY (bF (bM fv a1) (bW fv n3 a1) (bC fv n3 a1) pm wa le mo) (mix (bP fv a1) pm) pm x9.2.2 x9.2.1 a_57 b_165 x9.1)) (fun x9 ws9 H locs ls hj hP hD hS hl ih_178 => ?_) (0, kp_166, be_167) (mw h0 ad cs iv (uF (uF (uF (uF (uF fv 37 f37_35) 38 f38_45) 39 f39_46) 40 f40_47) 41 f41_48) gv) _ _ ls ⟨rfl, (show 0 ≤ pm + 1 from by omega), (show bY (bF (bM fv a1) (bW fv n3 a1) (bC fv n3 a1) pm wa le mo) (mix (bP fv a1) pm) pm be_167 kp_166 a_57 b_165 0 from hs2_169)⟩ hP hD hS (lv_sub hl [0, 1, 2, 3, 4, 5, 6, 7, 8, 9, 10] rfl)
      obtain ⟨c9_179, kp_180, be_181⟩ := x9
      replace hj : ws9 = (mw h0 ad cs iv (uF (uF (uF (uF (uF fv 37 f37_35) 38 f38_45) 39 f39_46) 40 f40_47) 41 f41_48) gv) ∧ (c9_179 ≤ pm + 1) ∧ (bY (bF (bM fv a1) (bW fv n3 a1) (bC fv n3 a1) pm wa le mo) (mix (bP fv a1) pm) pm be_181 kp_180 a_57 b_165 c9_179) := hj
      obtain ⟨rfl, hc_182, hs3_183⟩ := hj
      have hl : lv_has ls 20 [(12, .int (nI c9_179)), (11, .int (nI b_165)), (10, .int (nI a_57)), (9, .int kp_180), (7, .long be_181), (6, .int (nI n_34)), (5, .int (nI mo)), (4, .int (nI le)), (3, .int (nI wa)), (2, .int (nI pm)), (0, .ref h0)] := hl
      refine lv_iload hx hb dX9_blend_348 (lv_at hl 2 rfl) ?_
      refine lv_iload hx hb dX9_blend_350 (lv_at hl 1 rfl) ?_
      refine lv_iadd hx hb dX9_blend_352 ?_
      refine tp_i (y := nI (a_57 + b_165)) (nI_add a_57 b_165) ?_
      refine lv_iload hx hb dX9_blend_353 (lv_at hl 0 rfl) ?_
      refine lv_iadd hx hb dX9_blend_355 ?_
      refine tp_i (y := nI ((a_57 + b_165) + c9_179)) (nI_add (a_57 + b_165) c9_179) ?_
      refine lv_iload_n hx hb dX9_blend_356 rfl (lv_at hl 9 rfl) ?_
      refine lv_icmp_gt (tgt := 646) hx hb dX9_blend_357 (by decide) (fun c_184 => ?_) (fun c_184 => ?_)
      · have d_185 := n_lt (a := pm) (b := (a_57 + b_165) + c9_179) (by omega) (by omega) c_184
        refine lv_iinc (v := nI (b_165 + 1)) (lv' := [(11, .int (nI (b_165 + 1))), (12, .int (nI c9_179)), (10, .int (nI a_57)), (9, .int kp_180), (7, .long be_181), (6, .int (nI n_34)), (5, .int (nI mo)), (4, .int (nI le)), (3, .int (nI wa)), (2, .int (nI pm)), (0, .ref h0)]) hx hb dX9_blend_646 hl (k := 1) rfl (nI_add b_165 1) (by decide) rfl (fun ls hl => ?_)
        refine lv_goto (tgt := 325) hx hb dX9_blend_649 (by decide) ?_
        exact ih_164 (b_165 + 1, kp_180, be_181) (mw h0 ad cs iv (uF (uF (uF (uF (uF fv 37 f37_35) 38 f38_45) 39 f39_46) 40 f40_47) 41 f41_48) gv) _ _ ls (by show pm + 1 - (b_165 + 1) < pm + 1 - b_165; omega) ⟨rfl, (show (b_165 + 1) ≤ pm + 1 from by omega), (show bY (bF (bM fv a1) (bW fv n3 a1) (bC fv n3 a1) pm wa le mo) (mix (bP fv a1) pm) pm be_181 kp_180 a_57 (b_165 + 1) 0 from bY_to hs3_183 lx_b (rn_c (fun k9 h9 h8 => by have := h8.2.2.1; have := h8.2.2.2.1; omega)))⟩ hP hD hS (lv_sub hl [0, 2, 3, 4, 5, 6, 7, 8, 9, 10] rfl)
      have d_186 := n_nlt (a := pm) (b := (a_57 + b_165) + c9_179) (by omega) (by omega) c_184
      refine lv_iload hx hb dX9_blend_360 (lv_at hl 0 rfl) ?_
      refine lv_aload_n hx hb dX9_blend_362 rfl (lv_at hl 10 rfl) ?_
      refine va_get (D := D) (ci := 9) (v := .ref (ad 41)) (C := RX9) (T := TX9) (N := 44) hx hb hts hin9 hown hK hP 0 rfl rfl 41 (by decide) (hts (.fieldLink RX9 136 "HoneyHouseModel" "there" "[I") (List.mem_of_getElem? (i := 7) rfl)) (fun _ h9 => h9) rfl dX9_blend_363 ?_
      refine lv_iconst (v := 2) hx hb dX9_blend_366 (by decide) ?_
      refine va_iald (f := f41_48) (n := 4) hx hb hK hP 28 27 rfl rfl (vp_in_iff.mpr (by decide)) dX9_blend_367 ?_
      refine lv_topi (fun z_187 hz_188 => ?_)
      obtain rfl : z_187 = nI (bM fv a1 2) := hz_188.trans (h41_53 2 (by omega))
      refine lv_icmp_gt (tgt := 646) hx hb dX9_blend_368 (by decide) (fun c_189 => ?_) (fun c_189 => ?_)
      · have d_190 := n_lt (a := bM fv a1 2) (b := c9_179) (by omega) (by omega) c_189
        refine lv_iinc (v := nI (b_165 + 1)) (lv' := [(11, .int (nI (b_165 + 1))), (12, .int (nI c9_179)), (10, .int (nI a_57)), (9, .int kp_180), (7, .long be_181), (6, .int (nI n_34)), (5, .int (nI mo)), (4, .int (nI le)), (3, .int (nI wa)), (2, .int (nI pm)), (0, .ref h0)]) hx hb dX9_blend_646 hl (k := 1) rfl (nI_add b_165 1) (by decide) rfl (fun ls hl => ?_)
        refine lv_goto (tgt := 325) hx hb dX9_blend_649 (by decide) ?_
        exact ih_164 (b_165 + 1, kp_180, be_181) (mw h0 ad cs iv (uF (uF (uF (uF (uF fv 37 f37_35) 38 f38_45) 39 f39_46) 40 f40_47) 41 f41_48) gv) _ _ ls (by show pm + 1 - (b_165 + 1) < pm + 1 - b_165; omega) ⟨rfl, (show (b_165 + 1) ≤ pm + 1 from by omega), (show bY (bF (bM fv a1) (bW fv n3 a1) (bC fv n3 a1) pm wa le mo) (mix (bP fv a1) pm) pm be_181 kp_180 a_57 (b_165 + 1) 0 from bY_to hs3_183 lx_b (rn_c (fun k9 h9 h8 => by have := h8.2.2.1; have := h8.2.2.2.1; omega)))⟩ hP hD hS (lv_sub hl [0, 2, 3, 4, 5, 6, 7, 8, 9, 10] rfl)
      have d_191 := n_nlt (a := bM fv a1 2) (b := c9_179) (by omega) (by omega) c_189
      refine lv_iload_n hx hb dX9_blend_371 rfl (lv_at hl 9 rfl) ?_
      refine lv_iload hx hb dX9_blend_372 (lv_at hl 2 rfl) ?_
      refine lv_isub hx hb dX9_blend_374 ?_
      refine tp_i (y := nI (pm - a_57)) (pk_sub (a := pm) (b := a_57) (by omega)) ?_
      refine lv_iload hx hb dX9_blend_375 (lv_at hl 1 rfl) ?_
      refine lv_isub hx hb dX9_blend_377 ?_
      refine tp_i (y := nI ((pm - a_57) - b_165)) (pk_sub (a := pm - a_57) (b := b_165) (by omega)) ?_
      refine lv_iload hx hb dX9_blend_378 (lv_at hl 0 rfl) ?_
      refine lv_isub hx hb dX9_blend_380 ?_
      refine tp_i (y := nI (((pm - a_57) - b_165) - c9_179)) (pk_sub (a := (pm - a_57) - b_165) (b := c9_179) (by omega)) ?_
      refine lv_istore (lv' := [(13, .int (nI (((pm - a_57) - b_165) - c9_179))), (12, .int (nI c9_179)), (11, .int (nI b_165)), (10, .int (nI a_57)), (9, .int kp_180), (7, .long be_181), (6, .int (nI n_34)), (5, .int (nI mo)), (4, .int (nI le)), (3, .int (nI wa)), (2, .int (nI pm)), (0, .ref h0)]) hx hb dX9_blend_381 hl (by decide) rfl (fun ls hl => ?_)
      refine lv_iload hx hb dX9_blend_383 (lv_at hl 0 rfl) ?_
      refine lv_aload_n hx hb dX9_blend_385 rfl (lv_at hl 11 rfl) ?_
      refine va_get (D := D) (ci := 9) (v := .ref (ad 41)) (C := RX9) (T := TX9) (N := 44) hx hb hts hin9 hown hK hP 0 rfl rfl 41 (by decide) (hts (.fieldLink RX9 136 "HoneyHouseModel" "there" "[I") (List.mem_of_getElem? (i := 7) rfl)) (fun _ h9 => h9) rfl dX9_blend_386 ?_
      refine lv_iconst (v := 3) hx hb dX9_blend_389 (by decide) ?_
      refine va_iald (f := f41_48) (n := 4) hx hb hK hP 28 27 rfl rfl (vp_in_iff.mpr (by decide)) dX9_blend_390 ?_
      refine lv_topi (fun z_192 hz_193 => ?_)
      obtain rfl : z_192 = nI (bM fv a1 3) := hz_193.trans (h41_53 3 (by omega))
      refine lv_icmp_le (tgt := 397) hx hb dX9_blend_391 (by decide) (fun c_194 => ?_) (fun c_194 => ?_)
      · have d_195 := n_le (a := ((pm - a_57) - b_165) - c9_179) (b := bM fv a1 3) (by omega) (by omega) c_194
        refine lv_iload hx hb dX9_blend_397 (lv_at hl 3 rfl) ?_
        refine lv_i2l hx hb dX9_blend_399 rfl ?_
        refine lv_aload_n hx hb dX9_blend_400 rfl (lv_at hl 11 rfl) ?_
        refine va_get (D := D) (ci := 9) (v := .ref (ad 38)) (C := RX9) (T := TX9) (N := 44) hx hb hts hin9 hown hK hP 0 rfl rfl 38 (by decide) (hts (.fieldLink RX9 127 "HoneyHouseModel" "wet" "[I") (List.mem_of_getElem? (i := 2) rfl)) (fun _ h9 => h9) rfl dX9_blend_401 ?_
        refine lv_iconst (v := 0) hx hb dX9_blend_404 (by decide) ?_
        refine va_iald (f := f38_45) (n := 4) hx hb hK hP 25 24 rfl rfl (vp_in_iff.mpr (by decide)) dX9_blend_405 ?_
        refine lv_topi (fun z_196 hz_197 => ?_)
        obtain rfl : z_196 = nI (bW fv n3 a1 0) := hz_197.trans (h38_50 0 (by omega))
        refine lv_i2l hx hb dX9_blend_406 rfl ?_
        refine lv_lmul hx hb dX9_blend_407 ?_
        have hm_198 : a_57 * (bW fv n3 a1 0) ≤ 400 * 10000 := Nat.mul_le_mul (by omega) (by omega)
        refine tp_l (y := (nI (a_57 * (bW fv n3 a1 0))).toInt64) (m64 (by omega) (by omega)) ?_
        refine lv_iload hx hb dX9_blend_408 (lv_at hl 2 rfl) ?_
        refine lv_i2l hx hb dX9_blend_410 rfl ?_
        refine lv_aload_n hx hb dX9_blend_411 rfl (lv_at hl 11 rfl) ?_
        refine va_get (D := D) (ci := 9) (v := .ref (ad 38)) (C := RX9) (T := TX9) (N := 44) hx hb hts hin9 hown hK hP 0 rfl rfl 38 (by decide) (hts (.fieldLink RX9 127 "HoneyHouseModel" "wet" "[I") (List.mem_of_getElem? (i := 2) rfl)) (fun _ h9 => h9) rfl dX9_blend_412 ?_
        refine lv_iconst (v := 1) hx hb dX9_blend_415 (by decide) ?_
        refine va_iald (f := f38_45) (n := 4) hx hb hK hP 25 24 rfl rfl (vp_in_iff.mpr (by decide)) dX9_blend_416 ?_
        refine lv_topi (fun z_199 hz_200 => ?_)
        obtain rfl : z_199 = nI (bW fv n3 a1 1) := hz_200.trans (h38_50 1 (by omega))
        refine lv_i2l hx hb dX9_blend_417 rfl ?_
        refine lv_lmul hx hb dX9_blend_418 ?_
        have hm_201 : b_165 * (bW fv n3 a1 1) ≤ 400 * 10000 := Nat.mul_le_mul (by omega) (by omega)
        refine tp_l (y := (nI (b_165 * (bW fv n3 a1 1))).toInt64) (m64 (by omega) (by omega)) ?_
        refine lv_ladd hx hb dX9_blend_419 ?_
        refine tp_l (y := (nI ((a_57 * (bW fv n3 a1 0)) + (b_165 * (bW fv n3 a1 1)))).toInt64) (a64 (by omega)) ?_
        refine lv_iload hx hb dX9_blend_420 (lv_at hl 1 rfl) ?_
        refine lv_i2l hx hb dX9_blend_422 rfl ?_
        refine lv_aload_n hx hb dX9_blend_423 rfl (lv_at hl 11 rfl) ?_
        refine va_get (D := D) (ci := 9) (v := .ref (ad 38)) (C := RX9) (T := TX9) (N := 44) hx hb hts hin9 hown hK hP 0 rfl rfl 38 (by decide) (hts (.fieldLink RX9 127 "HoneyHouseModel" "wet" "[I") (List.mem_of_getElem? (i := 2) rfl)) (fun _ h9 => h9) rfl dX9_blend_424 ?_
        refine lv_iconst (v := 2) hx hb dX9_blend_427 (by decide) ?_
        refine va_iald (f := f38_45) (n := 4) hx hb hK hP 25 24 rfl rfl (vp_in_iff.mpr (by decide)) dX9_blend_428 ?_
        refine lv_topi (fun z_202 hz_203 => ?_)
        obtain rfl : z_202 = nI (bW fv n3 a1 2) := hz_203.trans (h38_50 2 (by omega))
        refine lv_i2l hx hb dX9_blend_429 rfl ?_
        refine lv_lmul hx hb dX9_blend_430 ?_
        have hm_204 : c9_179 * (bW fv n3 a1 2) ≤ 400 * 10000 := Nat.mul_le_mul (by omega) (by omega)
        refine tp_l (y := (nI (c9_179 * (bW fv n3 a1 2))).toInt64) (m64 (by omega) (by omega)) ?_
        refine lv_ladd hx hb dX9_blend_431 ?_
        refine tp_l (y := (nI (((a_57 * (bW fv n3 a1 0)) + (b_165 * (bW fv n3 a1 1))) + (c9_179 * (bW fv n3 a1 2)))).toInt64) (a64 (by omega)) ?_
        refine lv_iload hx hb dX9_blend_432 (lv_at hl 0 rfl) ?_
        refine lv_i2l hx hb dX9_blend_434 rfl ?_
        refine lv_aload_n hx hb dX9_blend_435 rfl (lv_at hl 11 rfl) ?_
        refine va_get (D := D) (ci := 9) (v := .ref (ad 38)) (C := RX9) (T := TX9) (N := 44) hx hb hts hin9 hown hK hP 0 rfl rfl 38 (by decide) (hts (.fieldLink RX9 127 "HoneyHouseModel" "wet" "[I") (List.mem_of_getElem? (i := 2) rfl)) (fun _ h9 => h9) rfl dX9_blend_436 ?_
        refine lv_iconst (v := 3) hx hb dX9_blend_439 (by decide) ?_
        refine va_iald (f := f38_45) (n := 4) hx hb hK hP 25 24 rfl rfl (vp_in_iff.mpr (by decide)) dX9_blend_440 ?_
        refine lv_topi (fun z_205 hz_206 => ?_)
        obtain rfl : z_205 = nI (bW fv n3 a1 3) := hz_206.trans (h38_50 3 (by omega))
        refine lv_i2l hx hb dX9_blend_441 rfl ?_
        refine lv_lmul hx hb dX9_blend_442 ?_
        have hm_207 : (((pm - a_57) - b_165) - c9_179) * (bW fv n3 a1 3) ≤ 400 * 10000 := Nat.mul_le_mul (by omega) (by omega)
        refine tp_l (y := (nI ((((pm - a_57) - b_165) - c9_179) * (bW fv n3 a1 3))).toInt64) (m64 (by omega) (by omega)) ?_
        refine lv_ladd hx hb dX9_blend_443 ?_
        refine tp_l (y := (nI ((((a_57 * (bW fv n3 a1 0)) + (b_165 * (bW fv n3 a1 1))) + (c9_179 * (bW fv n3 a1 2))) + ((((pm - a_57) - b_165) - c9_179) * (bW fv n3 a1 3)))).toInt64) (a64 (by omega)) ?_
        refine tp_l (y := (nI (mix (bW fv n3 a1) pm a_57 b_165 c9_179)).toInt64) (rfl) ?_
        have hx_208 : mix (bW fv n3 a1) pm a_57 b_165 c9_179 ≤ pm * 10000 := mix_le (fun k9 _ => by have := hpl k9; omega) (by omega)
        refine lv_lstore (lv' := [(14, .long ((nI (mix (bW fv n3 a1) pm a_57 b_165 c9_179)).toInt64)), (13, .int (nI (((pm - a_57) - b_165) - c9_179))), (12, .int (nI c9_179)), (11, .int (nI b_165)), (10, .int (nI a_57)), (9, .int kp_180), (7, .long be_181), (6, .int (nI n_34)), (5, .int (nI mo)), (4, .int (nI le)), (3, .int (nI wa)), (2, .int (nI pm)), (0, .ref h0)]) hx hb dX9_blend_444 hl (by decide) rfl (fun ls hl => ?_)
        refine lv_iload hx hb dX9_blend_446 (lv_at hl 4 rfl) ?_
        refine lv_i2l hx hb dX9_blend_448 rfl ?_
        refine lv_aload_n hx hb dX9_blend_449 rfl (lv_at hl 12 rfl) ?_
        refine va_get (D := D) (ci := 9) (v := .ref (ad 39)) (C := RX9) (T := TX9) (N := 44) hx hb hts hin9 hown hK hP 0 rfl rfl 39 (by decide) (hts (.fieldLink RX9 130 "HoneyHouseModel" "dark" "[I") (List.mem_of_getElem? (i := 4) rfl)) (fun _ h9 => h9) rfl dX9_blend_450 ?_
        refine lv_iconst (v := 0) hx hb dX9_blend_453 (by decide) ?_
        refine va_iald (f := f39_46) (n := 4) hx hb hK hP 26 25 rfl rfl (vp_in_iff.mpr (by decide)) dX9_blend_454 ?_
        refine lv_topi (fun z_209 hz_210 => ?_)
        obtain rfl : z_209 = nI (bC fv n3 a1 0) := hz_210.trans (h39_51 0 (by omega))
        refine lv_i2l hx hb dX9_blend_455 rfl ?_
        refine lv_lmul hx hb dX9_blend_456 ?_
        have hm_211 : a_57 * (bC fv n3 a1 0) ≤ 400 * 10000 := Nat.mul_le_mul (by omega) (by omega)
        refine tp_l (y := (nI (a_57 * (bC fv n3 a1 0))).toInt64) (m64 (by omega) (by omega)) ?_
        refine lv_iload hx hb dX9_blend_457 (lv_at hl 3 rfl) ?_
        refine lv_i2l hx hb dX9_blend_459 rfl ?_
        refine lv_aload_n hx hb dX9_blend_460 rfl (lv_at hl 12 rfl) ?_
        refine va_get (D := D) (ci := 9) (v := .ref (ad 39)) (C := RX9) (T := TX9) (N := 44) hx hb hts hin9 hown hK hP 0 rfl rfl 39 (by decide) (hts (.fieldLink RX9 130 "HoneyHouseModel" "dark" "[I") (List.mem_of_getElem? (i := 4) rfl)) (fun _ h9 => h9) rfl dX9_blend_461 ?_
        refine lv_iconst (v := 1) hx hb dX9_blend_464 (by decide) ?_
        refine va_iald (f := f39_46) (n := 4) hx hb hK hP 26 25 rfl rfl (vp_in_iff.mpr (by decide)) dX9_blend_465 ?_
        refine lv_topi (fun z_212 hz_213 => ?_)
        obtain rfl : z_212 = nI (bC fv n3 a1 1) := hz_213.trans (h39_51 1 (by omega))
        refine lv_i2l hx hb dX9_blend_466 rfl ?_
        refine lv_lmul hx hb dX9_blend_467 ?_
        have hm_214 : b_165 * (bC fv n3 a1 1) ≤ 400 * 10000 := Nat.mul_le_mul (by omega) (by omega)
        refine tp_l (y := (nI (b_165 * (bC fv n3 a1 1))).toInt64) (m64 (by omega) (by omega)) ?_
        refine lv_ladd hx hb dX9_blend_468 ?_
        refine tp_l (y := (nI ((a_57 * (bC fv n3 a1 0)) + (b_165 * (bC fv n3 a1 1)))).toInt64) (a64 (by omega)) ?_
        refine lv_iload hx hb dX9_blend_469 (lv_at hl 2 rfl) ?_
        refine lv_i2l hx hb dX9_blend_471 rfl ?_
        refine lv_aload_n hx hb dX9_blend_472 rfl (lv_at hl 12 rfl) ?_
        refine va_get (D := D) (ci := 9) (v := .ref (ad 39)) (C := RX9) (T := TX9) (N := 44) hx hb hts hin9 hown hK hP 0 rfl rfl 39 (by decide) (hts (.fieldLink RX9 130 "HoneyHouseModel" "dark" "[I") (List.mem_of_getElem? (i := 4) rfl)) (fun _ h9 => h9) rfl dX9_blend_473 ?_
        refine lv_iconst (v := 2) hx hb dX9_blend_476 (by decide) ?_
        refine va_iald (f := f39_46) (n := 4) hx hb hK hP 26 25 rfl rfl (vp_in_iff.mpr (by decide)) dX9_blend_477 ?_
        refine lv_topi (fun z_215 hz_216 => ?_)
        obtain rfl : z_215 = nI (bC fv n3 a1 2) := hz_216.trans (h39_51 2 (by omega))
        refine lv_i2l hx hb dX9_blend_478 rfl ?_
        refine lv_lmul hx hb dX9_blend_479 ?_
        have hm_217 : c9_179 * (bC fv n3 a1 2) ≤ 400 * 10000 := Nat.mul_le_mul (by omega) (by omega)
        refine tp_l (y := (nI (c9_179 * (bC fv n3 a1 2))).toInt64) (m64 (by omega) (by omega)) ?_
        refine lv_ladd hx hb dX9_blend_480 ?_
        refine tp_l (y := (nI (((a_57 * (bC fv n3 a1 0)) + (b_165 * (bC fv n3 a1 1))) + (c9_179 * (bC fv n3 a1 2)))).toInt64) (a64 (by omega)) ?_
        refine lv_iload hx hb dX9_blend_481 (lv_at hl 1 rfl) ?_
        refine lv_i2l hx hb dX9_blend_483 rfl ?_
        refine lv_aload_n hx hb dX9_blend_484 rfl (lv_at hl 12 rfl) ?_
        refine va_get (D := D) (ci := 9) (v := .ref (ad 39)) (C := RX9) (T := TX9) (N := 44) hx hb hts hin9 hown hK hP 0 rfl rfl 39 (by decide) (hts (.fieldLink RX9 130 "HoneyHouseModel" "dark" "[I") (List.mem_of_getElem? (i := 4) rfl)) (fun _ h9 => h9) rfl dX9_blend_485 ?_
        refine lv_iconst (v := 3) hx hb dX9_blend_488 (by decide) ?_
        refine va_iald (f := f39_46) (n := 4) hx hb hK hP 26 25 rfl rfl (vp_in_iff.mpr (by decide)) dX9_blend_489 ?_
        refine lv_topi (fun z_218 hz_219 => ?_)
        obtain rfl : z_218 = nI (bC fv n3 a1 3) := hz_219.trans (h39_51 3 (by omega))
        refine lv_i2l hx hb dX9_blend_490 rfl ?_
        refine lv_lmul hx hb dX9_blend_491 ?_
        have hm_220 : (((pm - a_57) - b_165) - c9_179) * (bC fv n3 a1 3) ≤ 400 * 10000 := Nat.mul_le_mul (by omega) (by omega)
        refine tp_l (y := (nI ((((pm - a_57) - b_165) - c9_179) * (bC fv n3 a1 3))).toInt64) (m64 (by omega) (by omega)) ?_
        refine lv_ladd hx hb dX9_blend_492 ?_
        refine tp_l (y := (nI ((((a_57 * (bC fv n3 a1 0)) + (b_165 * (bC fv n3 a1 1))) + (c9_179 * (bC fv n3 a1 2))) + ((((pm - a_57) - b_165) - c9_179) * (bC fv n3 a1 3)))).toInt64) (a64 (by omega)) ?_
        refine tp_l (y := (nI (mix (bC fv n3 a1) pm a_57 b_165 c9_179)).toInt64) (rfl) ?_
        have hx_221 : mix (bC fv n3 a1) pm a_57 b_165 c9_179 ≤ pm * 10000 := mix_le (fun k9 _ => by have := hpl k9; omega) (by omega)
        refine lv_lstore (lv' := [(16, .long ((nI (mix (bC fv n3 a1) pm a_57 b_165 c9_179)).toInt64)), (14, .long ((nI (mix (bW fv n3 a1) pm a_57 b_165 c9_179)).toInt64)), (13, .int (nI (((pm - a_57) - b_165) - c9_179))), (12, .int (nI c9_179)), (11, .int (nI b_165)), (10, .int (nI a_57)), (9, .int kp_180), (7, .long be_181), (6, .int (nI n_34)), (5, .int (nI mo)), (4, .int (nI le)), (3, .int (nI wa)), (2, .int (nI pm)), (0, .ref h0)]) hx hb dX9_blend_493 hl (by decide) rfl (fun ls hl => ?_)
        refine lv_lload hx hb dX9_blend_495 (lv_at hl 1 rfl) ?_
        refine lv_ldc2 hx hb hown (hts (.constantLong RX9 185 (10)) (List.mem_of_getElem? (i := 3) rfl)) dX9_blend_497 ?_
        refine lv_iload_n hx hb dX9_blend_500 rfl (lv_at hl 12 rfl) ?_
        refine lv_i2l hx hb dX9_blend_501 rfl ?_
        refine lv_lmul hx hb dX9_blend_502 ?_
        refine tp_l (y := (nI (pm * 10)).toInt64) (m10 (by omega)) ?_
        refine lv_iload_n hx hb dX9_blend_503 rfl (lv_at hl 11 rfl) ?_
        refine lv_i2l hx hb dX9_blend_504 rfl ?_
        refine lv_lmul hx hb dX9_blend_505 ?_
        have hm_222 : (pm * 10) * wa ≤ 400 * 10000 := Nat.mul_le_mul (by omega) (by omega)
        refine tp_l (y := (nI ((pm * 10) * wa)).toInt64) (m64 (by omega) (by omega)) ?_
        refine W.lcmp hx hb dX9_blend_506 ?_
        refine lv_if_gt (tgt := 640) hx hb dX9_blend_507 (by decide) (fun c_223 => ?_) (fun c_223 => ?_)
        · have d_224 := (lc_gt (x := mix (bW fv n3 a1) pm a_57 b_165 c9_179) (y := (pm * 10) * wa) (by omega) (by omega)).mp c_223
          refine lv_iinc (v := nI (c9_179 + 1)) (lv' := [(12, .int (nI (c9_179 + 1))), (16, .long ((nI (mix (bC fv n3 a1) pm a_57 b_165 c9_179)).toInt64)), (14, .long ((nI (mix (bW fv n3 a1) pm a_57 b_165 c9_179)).toInt64)), (13, .int (nI (((pm - a_57) - b_165) - c9_179))), (11, .int (nI b_165)), (10, .int (nI a_57)), (9, .int kp_180), (7, .long be_181), (6, .int (nI n_34)), (5, .int (nI mo)), (4, .int (nI le)), (3, .int (nI wa)), (2, .int (nI pm)), (0, .ref h0)]) hx hb dX9_blend_640 hl (k := 3) rfl (nI_add c9_179 1) (by decide) rfl (fun ls hl => ?_)
          refine lv_goto (tgt := 348) hx hb dX9_blend_643 (by decide) ?_
          exact ih_178 (c9_179 + 1, kp_180, be_181) (mw h0 ad cs iv (uF (uF (uF (uF (uF fv 37 f37_35) 38 f38_45) 39 f39_46) 40 f40_47) 41 f41_48) gv) _ _ ls (by show pm + 1 - (c9_179 + 1) < pm + 1 - c9_179; omega) ⟨rfl, (show (c9_179 + 1) ≤ pm + 1 from by omega), (show bY (bF (bM fv a1) (bW fv n3 a1) (bC fv n3 a1) pm wa le mo) (mix (bP fv a1) pm) pm be_181 kp_180 a_57 b_165 (c9_179 + 1) from hs3_183.elim (fun z9 => Or.inl ⟨z9.1, bN_no z9.2 (show ¬ (bF (bM fv a1) (bW fv n3 a1) (bC fv n3 a1) pm wa le mo) a_57 b_165 c9_179 from fun h9 => by have z1 := h9.1.2.2.2.2; have z2 := h9.2.1; have z3 := h9.2.2.1; have z4 := h9.2.2.2; omega)⟩) (fun ⟨x9, y9, w9, z1, z2⟩ => Or.inr ⟨x9, y9, w9, bS_no z1 (show ¬ (bF (bM fv a1) (bW fv n3 a1) (bC fv n3 a1) pm wa le mo) a_57 b_165 c9_179 from fun h9 => by have z1 := h9.1.2.2.2.2; have z2 := h9.2.1; have z3 := h9.2.2.1; have z4 := h9.2.2.2; omega), z2⟩))⟩ hP hD hS (lv_sub hl [0, 4, 5, 6, 7, 8, 9, 10, 11, 12, 13] rfl)
        have d_225 := Nat.le_of_not_lt (fun h9 => c_223 ((lc_gt (x := mix (bW fv n3 a1) pm a_57 b_165 c9_179) (y := (pm * 10) * wa) (by omega) (by omega)).mpr h9))
        refine lv_lload hx hb dX9_blend_510 (lv_at hl 0 rfl) ?_
        refine lv_ldc2 hx hb hown (hts (.constantLong RX9 185 (10)) (List.mem_of_getElem? (i := 3) rfl)) dX9_blend_512 ?_
        refine lv_iload_n hx hb dX9_blend_515 rfl (lv_at hl 12 rfl) ?_
        refine lv_i2l hx hb dX9_blend_516 rfl ?_
        refine lv_lmul hx hb dX9_blend_517 ?_
        refine tp_l (y := (nI (pm * 10)).toInt64) (m10 (by omega)) ?_
        refine lv_iload hx hb dX9_blend_518 (lv_at hl 10 rfl) ?_
        refine lv_i2l hx hb dX9_blend_520 rfl ?_
        refine lv_lmul hx hb dX9_blend_521 ?_
        have hm_226 : (pm * 10) * le ≤ 400 * 10000 := Nat.mul_le_mul (by omega) (by omega)
        refine tp_l (y := (nI ((pm * 10) * le)).toInt64) (m64 (by omega) (by omega)) ?_
        refine W.lcmp hx hb dX9_blend_522 ?_
        refine lv_if_lt (tgt := 640) hx hb dX9_blend_523 (by decide) (fun c_227 => ?_) (fun c_227 => ?_)
        · have d_228 := (lc_lt (x := mix (bC fv n3 a1) pm a_57 b_165 c9_179) (y := (pm * 10) * le) (by omega) (by omega)).mp c_227
          refine lv_iinc (v := nI (c9_179 + 1)) (lv' := [(12, .int (nI (c9_179 + 1))), (16, .long ((nI (mix (bC fv n3 a1) pm a_57 b_165 c9_179)).toInt64)), (14, .long ((nI (mix (bW fv n3 a1) pm a_57 b_165 c9_179)).toInt64)), (13, .int (nI (((pm - a_57) - b_165) - c9_179))), (11, .int (nI b_165)), (10, .int (nI a_57)), (9, .int kp_180), (7, .long be_181), (6, .int (nI n_34)), (5, .int (nI mo)), (4, .int (nI le)), (3, .int (nI wa)), (2, .int (nI pm)), (0, .ref h0)]) hx hb dX9_blend_640 hl (k := 3) rfl (nI_add c9_179 1) (by decide) rfl (fun ls hl => ?_)
          refine lv_goto (tgt := 348) hx hb dX9_blend_643 (by decide) ?_
          exact ih_178 (c9_179 + 1, kp_180, be_181) (mw h0 ad cs iv (uF (uF (uF (uF (uF fv 37 f37_35) 38 f38_45) 39 f39_46) 40 f40_47) 41 f41_48) gv) _ _ ls (by show pm + 1 - (c9_179 + 1) < pm + 1 - c9_179; omega) ⟨rfl, (show (c9_179 + 1) ≤ pm + 1 from by omega), (show bY (bF (bM fv a1) (bW fv n3 a1) (bC fv n3 a1) pm wa le mo) (mix (bP fv a1) pm) pm be_181 kp_180 a_57 b_165 (c9_179 + 1) from hs3_183.elim (fun z9 => Or.inl ⟨z9.1, bN_no z9.2 (show ¬ (bF (bM fv a1) (bW fv n3 a1) (bC fv n3 a1) pm wa le mo) a_57 b_165 c9_179 from fun h9 => by have z1 := h9.1.2.2.2.2; have z2 := h9.2.1; have z3 := h9.2.2.1; have z4 := h9.2.2.2; omega)⟩) (fun ⟨x9, y9, w9, z1, z2⟩ => Or.inr ⟨x9, y9, w9, bS_no z1 (show ¬ (bF (bM fv a1) (bW fv n3 a1) (bC fv n3 a1) pm wa le mo) a_57 b_165 c9_179 from fun h9 => by have z1 := h9.1.2.2.2.2; have z2 := h9.2.1; have z3 := h9.2.2.1; have z4 := h9.2.2.2; omega), z2⟩))⟩ hP hD hS (lv_sub hl [0, 4, 5, 6, 7, 8, 9, 10, 11, 12, 13] rfl)
        have d_229 := Nat.le_of_not_lt (fun h9 => c_227 ((lc_lt (x := mix (bC fv n3 a1) pm a_57 b_165 c9_179) (y := (pm * 10) * le) (by omega) (by omega)).mpr h9))
        refine lv_lload hx hb dX9_blend_526 (lv_at hl 0 rfl) ?_
        refine lv_ldc2 hx hb hown (hts (.constantLong RX9 185 (10)) (List.mem_of_getElem? (i := 3) rfl)) dX9_blend_528 ?_
        refine lv_iload_n hx hb dX9_blend_531 rfl (lv_at hl 12 rfl) ?_
        refine lv_i2l hx hb dX9_blend_532 rfl ?_
        refine lv_lmul hx hb dX9_blend_533 ?_
        refine tp_l (y := (nI (pm * 10)).toInt64) (m10 (by omega)) ?_
        refine lv_iload hx hb dX9_blend_534 (lv_at hl 9 rfl) ?_
        refine lv_i2l hx hb dX9_blend_536 rfl ?_
        refine lv_lmul hx hb dX9_blend_537 ?_
        have hm_230 : (pm * 10) * mo ≤ 400 * 10000 := Nat.mul_le_mul (by omega) (by omega)
        refine tp_l (y := (nI ((pm * 10) * mo)).toInt64) (m64 (by omega) (by omega)) ?_
        refine W.lcmp hx hb dX9_blend_538 ?_
        refine lv_if_le (tgt := 545) hx hb dX9_blend_539 (by decide) (fun c_231 => ?_) (fun c_231 => ?_)
        · have d_232 := Nat.le_of_not_lt (fun h9 => i_le0.mp c_231 ((lc_gt (x := mix (bC fv n3 a1) pm a_57 b_165 c9_179) (y := (pm * 10) * mo) (by omega) (by omega)).mpr h9))
          refine lv_iload hx hb dX9_blend_545 (lv_at hl 5 rfl) ?_
          refine lv_i2l hx hb dX9_blend_547 rfl ?_
          refine lv_aload_n hx hb dX9_blend_548 rfl (lv_at hl 13 rfl) ?_
          refine va_get (D := D) (ci := 9) (v := .ref (ad 40)) (C := RX9) (T := TX9) (N := 44) hx hb hts hin9 hown hK hP 0 rfl rfl 40 (by decide) (hts (.fieldLink RX9 133 "HoneyHouseModel" "cost" "[I") (List.mem_of_getElem? (i := 5) rfl)) (fun _ h9 => h9) rfl dX9_blend_549 ?_
          refine lv_iconst (v := 0) hx hb dX9_blend_552 (by decide) ?_
          refine va_iald (f := f40_47) (n := 4) hx hb hK hP 27 26 rfl rfl (vp_in_iff.mpr (by decide)) dX9_blend_553 ?_
          refine lv_topi (fun z_233 hz_234 => ?_)
          obtain rfl : z_233 = nI (bP fv a1 0) := hz_234.trans (h40_52 0 (by omega))
          refine lv_i2l hx hb dX9_blend_554 rfl ?_
          refine lv_lmul hx hb dX9_blend_555 ?_
          have hm_235 : a_57 * (bP fv a1 0) ≤ 400 * 10000 := Nat.mul_le_mul (by omega) (by omega)
          refine tp_l (y := (nI (a_57 * (bP fv a1 0))).toInt64) (m64 (by omega) (by omega)) ?_
          refine lv_iload hx hb dX9_blend_556 (lv_at hl 4 rfl) ?_
          refine lv_i2l hx hb dX9_blend_558 rfl ?_
          refine lv_aload_n hx hb dX9_blend_559 rfl (lv_at hl 13 rfl) ?_
          refine va_get (D := D) (ci := 9) (v := .ref (ad 40)) (C := RX9) (T := TX9) (N := 44) hx hb hts hin9 hown hK hP 0 rfl rfl 40 (by decide) (hts (.fieldLink RX9 133 "HoneyHouseModel" "cost" "[I") (List.mem_of_getElem? (i := 5) rfl)) (fun _ h9 => h9) rfl dX9_blend_560 ?_
          refine lv_iconst (v := 1) hx hb dX9_blend_563 (by decide) ?_
          refine va_iald (f := f40_47) (n := 4) hx hb hK hP 27 26 rfl rfl (vp_in_iff.mpr (by decide)) dX9_blend_564 ?_
          refine lv_topi (fun z_236 hz_237 => ?_)
          obtain rfl : z_236 = nI (bP fv a1 1) := hz_237.trans (h40_52 1 (by omega))
          refine lv_i2l hx hb dX9_blend_565 rfl ?_
          refine lv_lmul hx hb dX9_blend_566 ?_
          have hm_238 : b_165 * (bP fv a1 1) ≤ 400 * 10000 := Nat.mul_le_mul (by omega) (by omega)
          refine tp_l (y := (nI (b_165 * (bP fv a1 1))).toInt64) (m64 (by omega) (by omega)) ?_
          refine lv_ladd hx hb dX9_blend_567 ?_
          refine tp_l (y := (nI ((a_57 * (bP fv a1 0)) + (b_165 * (bP fv a1 1)))).toInt64) (a64 (by omega)) ?_
          refine lv_iload hx hb dX9_blend_568 (lv_at hl 3 rfl) ?_
          refine lv_i2l hx hb dX9_blend_570 rfl ?_
          refine lv_aload_n hx hb dX9_blend_571 rfl (lv_at hl 13 rfl) ?_
          refine va_get (D := D) (ci := 9) (v := .ref (ad 40)) (C := RX9) (T := TX9) (N := 44) hx hb hts hin9 hown hK hP 0 rfl rfl 40 (by decide) (hts (.fieldLink RX9 133 "HoneyHouseModel" "cost" "[I") (List.mem_of_getElem? (i := 5) rfl)) (fun _ h9 => h9) rfl dX9_blend_572 ?_
          refine lv_iconst (v := 2) hx hb dX9_blend_575 (by decide) ?_
          refine va_iald (f := f40_47) (n := 4) hx hb hK hP 27 26 rfl rfl (vp_in_iff.mpr (by decide)) dX9_blend_576 ?_
          refine lv_topi (fun z_239 hz_240 => ?_)
          obtain rfl : z_239 = nI (bP fv a1 2) := hz_240.trans (h40_52 2 (by omega))
          refine lv_i2l hx hb dX9_blend_577 rfl ?_
          refine lv_lmul hx hb dX9_blend_578 ?_
          have hm_241 : c9_179 * (bP fv a1 2) ≤ 400 * 10000 := Nat.mul_le_mul (by omega) (by omega)
          refine tp_l (y := (nI (c9_179 * (bP fv a1 2))).toInt64) (m64 (by omega) (by omega)) ?_
          refine lv_ladd hx hb dX9_blend_579 ?_
          refine tp_l (y := (nI (((a_57 * (bP fv a1 0)) + (b_165 * (bP fv a1 1))) + (c9_179 * (bP fv a1 2)))).toInt64) (a64 (by omega)) ?_
          refine lv_iload hx hb dX9_blend_580 (lv_at hl 2 rfl) ?_
          refine lv_i2l hx hb dX9_blend_582 rfl ?_
          refine lv_aload_n hx hb dX9_blend_583 rfl (lv_at hl 13 rfl) ?_
          refine va_get (D := D) (ci := 9) (v := .ref (ad 40)) (C := RX9) (T := TX9) (N := 44) hx hb hts hin9 hown hK hP 0 rfl rfl 40 (by decide) (hts (.fieldLink RX9 133 "HoneyHouseModel" "cost" "[I") (List.mem_of_getElem? (i := 5) rfl)) (fun _ h9 => h9) rfl dX9_blend_584 ?_
          refine lv_iconst (v := 3) hx hb dX9_blend_587 (by decide) ?_
          refine va_iald (f := f40_47) (n := 4) hx hb hK hP 27 26 rfl rfl (vp_in_iff.mpr (by decide)) dX9_blend_588 ?_
          refine lv_topi (fun z_242 hz_243 => ?_)
          obtain rfl : z_242 = nI (bP fv a1 3) := hz_243.trans (h40_52 3 (by omega))
          refine lv_i2l hx hb dX9_blend_589 rfl ?_
          refine lv_lmul hx hb dX9_blend_590 ?_
          have hm_244 : (((pm - a_57) - b_165) - c9_179) * (bP fv a1 3) ≤ 400 * 10000 := Nat.mul_le_mul (by omega) (by omega)
          refine tp_l (y := (nI ((((pm - a_57) - b_165) - c9_179) * (bP fv a1 3))).toInt64) (m64 (by omega) (by omega)) ?_
          refine lv_ladd hx hb dX9_blend_591 ?_
          refine tp_l (y := (nI ((((a_57 * (bP fv a1 0)) + (b_165 * (bP fv a1 1))) + (c9_179 * (bP fv a1 2))) + ((((pm - a_57) - b_165) - c9_179) * (bP fv a1 3)))).toInt64) (a64 (by omega)) ?_
          refine tp_l (y := (nI (mix (bP fv a1) pm a_57 b_165 c9_179)).toInt64) (rfl) ?_
          have hx_245 : mix (bP fv a1) pm a_57 b_165 c9_179 ≤ pm * 10000 := mix_le (fun k9 _ => by have := hpl k9; omega) (by omega)
          refine lv_lstore (lv' := [(18, .long ((nI (mix (bP fv a1) pm a_57 b_165 c9_179)).toInt64)), (16, .long ((nI (mix (bC fv n3 a1) pm a_57 b_165 c9_179)).toInt64)), (14, .long ((nI (mix (bW fv n3 a1) pm a_57 b_165 c9_179)).toInt64)), (13, .int (nI (((pm - a_57) - b_165) - c9_179))), (12, .int (nI c9_179)), (11, .int (nI b_165)), (10, .int (nI a_57)), (9, .int kp_180), (7, .long be_181), (6, .int (nI n_34)), (5, .int (nI mo)), (4, .int (nI le)), (3, .int (nI wa)), (2, .int (nI pm)), (0, .ref h0)]) hx hb dX9_blend_592 hl (by decide) rfl (fun ls hl => ?_)
          have hF : (bF (bM fv a1) (bW fv n3 a1) (bC fv n3 a1) pm wa le mo) a_57 b_165 c9_179 := ⟨⟨by omega, by omega, by omega, by omega, by omega⟩, by omega, by omega, by omega⟩
          rcases hs3_183 with ⟨hv_250, hN_252⟩ | ⟨x_246, y_247, z_248, hS_249, hv_250, hk_251⟩
          · refine lv_lload hx hb dX9_blend_594 (lv_at hl 8 rfl) ?_
            refine tp_l (y := (-1)) (hv_250) ?_
            refine lv_lconst (v := 0) hx hb dX9_blend_596 (by decide) ?_
            refine W.lcmp hx hb dX9_blend_597 ?_
            refine lv_if_lt (tgt := 612) hx hb dX9_blend_598 (by decide) (fun c_253 => ?_) (fun c_253 => absurd (by decide) c_253)
            refine lv_lload hx hb dX9_blend_612 (lv_at hl 0 rfl) ?_
            refine lv_lstore (lv' := [(7, .long ((nI (mix (bP fv a1) pm a_57 b_165 c9_179)).toInt64)), (18, .long ((nI (mix (bP fv a1) pm a_57 b_165 c9_179)).toInt64)), (16, .long ((nI (mix (bC fv n3 a1) pm a_57 b_165 c9_179)).toInt64)), (14, .long ((nI (mix (bW fv n3 a1) pm a_57 b_165 c9_179)).toInt64)), (13, .int (nI (((pm - a_57) - b_165) - c9_179))), (12, .int (nI c9_179)), (11, .int (nI b_165)), (10, .int (nI a_57)), (9, .int kp_180), (6, .int (nI n_34)), (5, .int (nI mo)), (4, .int (nI le)), (3, .int (nI wa)), (2, .int (nI pm)), (0, .ref h0)]) hx hb dX9_blend_614 hl (by decide) rfl (fun ls hl => ?_)
            refine lv_ldcw hx hb hown (hts (.constant RX9 292 (68921)) (List.mem_of_getElem? (i := 9) rfl)) dX9_blend_616 ?_
            refine lv_iload hx hb dX9_blend_619 (lv_at hl 7 rfl) ?_
            refine lv_imul hx hb dX9_blend_621 ?_
            refine tp_i (y := nI (68921 * a_57)) (pk_mul 68921 a_57) ?_
            refine lv_sipush (v := 1681) hx hb dX9_blend_622 (by decide) ?_
            refine lv_iload hx hb dX9_blend_625 (lv_at hl 6 rfl) ?_
            refine lv_imul hx hb dX9_blend_627 ?_
            refine tp_i (y := nI (1681 * b_165)) (pk_mul 1681 b_165) ?_
            refine lv_iadd hx hb dX9_blend_628 ?_
            refine tp_i (y := nI ((68921 * a_57) + (1681 * b_165))) (nI_add (68921 * a_57) (1681 * b_165)) ?_
            refine lv_bipush (v := 41) hx hb dX9_blend_629 (by decide) ?_
            refine lv_iload hx hb dX9_blend_631 (lv_at hl 5 rfl) ?_
            refine lv_imul hx hb dX9_blend_633 ?_
            refine tp_i (y := nI (41 * c9_179)) (pk_mul 41 c9_179) ?_
            refine lv_iadd hx hb dX9_blend_634 ?_
            refine tp_i (y := nI (((68921 * a_57) + (1681 * b_165)) + (41 * c9_179))) (nI_add ((68921 * a_57) + (1681 * b_165)) (41 * c9_179)) ?_
            refine lv_iload hx hb dX9_blend_635 (lv_at hl 4 rfl) ?_
            refine lv_iadd hx hb dX9_blend_637 ?_
            refine tp_i (y := nI ((((68921 * a_57) + (1681 * b_165)) + (41 * c9_179)) + (((pm - a_57) - b_165) - c9_179))) (nI_add (((68921 * a_57) + (1681 * b_165)) + (41 * c9_179)) (((pm - a_57) - b_165) - c9_179)) ?_
            refine lv_istore (lv' := [(9, .int (nI ((((68921 * a_57) + (1681 * b_165)) + (41 * c9_179)) + (((pm - a_57) - b_165) - c9_179)))), (7, .long ((nI (mix (bP fv a1) pm a_57 b_165 c9_179)).toInt64)), (18, .long ((nI (mix (bP fv a1) pm a_57 b_165 c9_179)).toInt64)), (16, .long ((nI (mix (bC fv n3 a1) pm a_57 b_165 c9_179)).toInt64)), (14, .long ((nI (mix (bW fv n3 a1) pm a_57 b_165 c9_179)).toInt64)), (13, .int (nI (((pm - a_57) - b_165) - c9_179))), (12, .int (nI c9_179)), (11, .int (nI b_165)), (10, .int (nI a_57)), (6, .int (nI n_34)), (5, .int (nI mo)), (4, .int (nI le)), (3, .int (nI wa)), (2, .int (nI pm)), (0, .ref h0)]) hx hb dX9_blend_638 hl (by decide) rfl (fun ls hl => ?_)
            refine lv_iinc (v := nI (c9_179 + 1)) (lv' := [(12, .int (nI (c9_179 + 1))), (9, .int (nI ((((68921 * a_57) + (1681 * b_165)) + (41 * c9_179)) + (((pm - a_57) - b_165) - c9_179)))), (7, .long ((nI (mix (bP fv a1) pm a_57 b_165 c9_179)).toInt64)), (18, .long ((nI (mix (bP fv a1) pm a_57 b_165 c9_179)).toInt64)), (16, .long ((nI (mix (bC fv n3 a1) pm a_57 b_165 c9_179)).toInt64)), (14, .long ((nI (mix (bW fv n3 a1) pm a_57 b_165 c9_179)).toInt64)), (13, .int (nI (((pm - a_57) - b_165) - c9_179))), (11, .int (nI b_165)), (10, .int (nI a_57)), (6, .int (nI n_34)), (5, .int (nI mo)), (4, .int (nI le)), (3, .int (nI wa)), (2, .int (nI pm)), (0, .ref h0)]) hx hb dX9_blend_640 hl (k := 6) rfl (nI_add c9_179 1) (by decide) rfl (fun ls hl => ?_)
            refine lv_goto (tgt := 348) hx hb dX9_blend_643 (by decide) ?_
            exact ih_178 (c9_179 + 1, nI ((((68921 * a_57) + (1681 * b_165)) + (41 * c9_179)) + (((pm - a_57) - b_165) - c9_179)), (nI (mix (bP fv a1) pm a_57 b_165 c9_179)).toInt64) (mw h0 ad cs iv (uF (uF (uF (uF (uF fv 37 f37_35) 38 f38_45) 39 f39_46) 40 f40_47) 41 f41_48) gv) _ _ ls (by show pm + 1 - (c9_179 + 1) < pm + 1 - c9_179; omega) ⟨rfl, (show (c9_179 + 1) ≤ pm + 1 from by omega), (show bY (bF (bM fv a1) (bW fv n3 a1) (bC fv n3 a1) pm wa le mo) (mix (bP fv a1) pm) pm ((nI (mix (bP fv a1) pm a_57 b_165 c9_179)).toInt64) (nI ((((68921 * a_57) + (1681 * b_165)) + (41 * c9_179)) + (((pm - a_57) - b_165) - c9_179))) a_57 b_165 (c9_179 + 1) from Or.inr ⟨a_57, b_165, c9_179, bN_new hN_252 hF, rfl, rfl⟩)⟩ hP hD hS (lv_sub hl [0, 7, 8, 1, 2, 9, 10, 11, 12, 13, 14] rfl)
          have hmq : mix (bP fv a1) pm x_246 y_247 z_248 ≤ pm * 10000 := mix_le (fun k9 _ => by have := hpl k9; omega) hS_249.2.1.1.2.2.2.1
          refine lv_lload hx hb dX9_blend_594 (lv_at hl 8 rfl) ?_
          refine tp_l (y := (nI (mix (bP fv a1) pm x_246 y_247 z_248)).toInt64) (hv_250) ?_
          refine lv_lconst (v := 0) hx hb dX9_blend_596 (by decide) ?_
          refine W.lcmp hx hb dX9_blend_597 ?_
          refine lv_if_lt (tgt := 612) hx hb dX9_blend_598 (by decide) (fun c_254 => absurd c_254 (lc_0 (by omega))) (fun c_254 => ?_)
          refine lv_lload hx hb dX9_blend_601 (lv_at hl 0 rfl) ?_
          refine lv_lload hx hb dX9_blend_603 (lv_at hl 8 rfl) ?_
          refine tp_l (y := (nI (mix (bP fv a1) pm x_246 y_247 z_248)).toInt64) (hv_250) ?_
          refine W.lcmp hx hb dX9_blend_605 ?_
          refine lv_if_lt (tgt := 612) hx hb dX9_blend_606 (by decide) (fun c_255 => ?_) (fun c_255 => ?_)
          · have d_256 := (lc_lt (x := mix (bP fv a1) pm a_57 b_165 c9_179) (y := mix (bP fv a1) pm x_246 y_247 z_248) (by omega) (by omega)).mp c_255
            refine lv_lload hx hb dX9_blend_612 (lv_at hl 0 rfl) ?_
            refine lv_lstore (lv' := [(7, .long ((nI (mix (bP fv a1) pm a_57 b_165 c9_179)).toInt64)), (18, .long ((nI (mix (bP fv a1) pm a_57 b_165 c9_179)).toInt64)), (16, .long ((nI (mix (bC fv n3 a1) pm a_57 b_165 c9_179)).toInt64)), (14, .long ((nI (mix (bW fv n3 a1) pm a_57 b_165 c9_179)).toInt64)), (13, .int (nI (((pm - a_57) - b_165) - c9_179))), (12, .int (nI c9_179)), (11, .int (nI b_165)), (10, .int (nI a_57)), (9, .int kp_180), (6, .int (nI n_34)), (5, .int (nI mo)), (4, .int (nI le)), (3, .int (nI wa)), (2, .int (nI pm)), (0, .ref h0)]) hx hb dX9_blend_614 hl (by decide) rfl (fun ls hl => ?_)
            refine lv_ldcw hx hb hown (hts (.constant RX9 292 (68921)) (List.mem_of_getElem? (i := 9) rfl)) dX9_blend_616 ?_
            refine lv_iload hx hb dX9_blend_619 (lv_at hl 7 rfl) ?_
            refine lv_imul hx hb dX9_blend_621 ?_
            refine tp_i (y := nI (68921 * a_57)) (pk_mul 68921 a_57) ?_
            refine lv_sipush (v := 1681) hx hb dX9_blend_622 (by decide) ?_
            refine lv_iload hx hb dX9_blend_625 (lv_at hl 6 rfl) ?_
            refine lv_imul hx hb dX9_blend_627 ?_
            refine tp_i (y := nI (1681 * b_165)) (pk_mul 1681 b_165) ?_
            refine lv_iadd hx hb dX9_blend_628 ?_
            refine tp_i (y := nI ((68921 * a_57) + (1681 * b_165))) (nI_add (68921 * a_57) (1681 * b_165)) ?_
            refine lv_bipush (v := 41) hx hb dX9_blend_629 (by decide) ?_
            refine lv_iload hx hb dX9_blend_631 (lv_at hl 5 rfl) ?_
            refine lv_imul hx hb dX9_blend_633 ?_
            refine tp_i (y := nI (41 * c9_179)) (pk_mul 41 c9_179) ?_
            refine lv_iadd hx hb dX9_blend_634 ?_
            refine tp_i (y := nI (((68921 * a_57) + (1681 * b_165)) + (41 * c9_179))) (nI_add ((68921 * a_57) + (1681 * b_165)) (41 * c9_179)) ?_
            refine lv_iload hx hb dX9_blend_635 (lv_at hl 4 rfl) ?_
            refine lv_iadd hx hb dX9_blend_637 ?_
            refine tp_i (y := nI ((((68921 * a_57) + (1681 * b_165)) + (41 * c9_179)) + (((pm - a_57) - b_165) - c9_179))) (nI_add (((68921 * a_57) + (1681 * b_165)) + (41 * c9_179)) (((pm - a_57) - b_165) - c9_179)) ?_
            refine lv_istore (lv' := [(9, .int (nI ((((68921 * a_57) + (1681 * b_165)) + (41 * c9_179)) + (((pm - a_57) - b_165) - c9_179)))), (7, .long ((nI (mix (bP fv a1) pm a_57 b_165 c9_179)).toInt64)), (18, .long ((nI (mix (bP fv a1) pm a_57 b_165 c9_179)).toInt64)), (16, .long ((nI (mix (bC fv n3 a1) pm a_57 b_165 c9_179)).toInt64)), (14, .long ((nI (mix (bW fv n3 a1) pm a_57 b_165 c9_179)).toInt64)), (13, .int (nI (((pm - a_57) - b_165) - c9_179))), (12, .int (nI c9_179)), (11, .int (nI b_165)), (10, .int (nI a_57)), (6, .int (nI n_34)), (5, .int (nI mo)), (4, .int (nI le)), (3, .int (nI wa)), (2, .int (nI pm)), (0, .ref h0)]) hx hb dX9_blend_638 hl (by decide) rfl (fun ls hl => ?_)
            refine lv_iinc (v := nI (c9_179 + 1)) (lv' := [(12, .int (nI (c9_179 + 1))), (9, .int (nI ((((68921 * a_57) + (1681 * b_165)) + (41 * c9_179)) + (((pm - a_57) - b_165) - c9_179)))), (7, .long ((nI (mix (bP fv a1) pm a_57 b_165 c9_179)).toInt64)), (18, .long ((nI (mix (bP fv a1) pm a_57 b_165 c9_179)).toInt64)), (16, .long ((nI (mix (bC fv n3 a1) pm a_57 b_165 c9_179)).toInt64)), (14, .long ((nI (mix (bW fv n3 a1) pm a_57 b_165 c9_179)).toInt64)), (13, .int (nI (((pm - a_57) - b_165) - c9_179))), (11, .int (nI b_165)), (10, .int (nI a_57)), (6, .int (nI n_34)), (5, .int (nI mo)), (4, .int (nI le)), (3, .int (nI wa)), (2, .int (nI pm)), (0, .ref h0)]) hx hb dX9_blend_640 hl (k := 6) rfl (nI_add c9_179 1) (by decide) rfl (fun ls hl => ?_)
            refine lv_goto (tgt := 348) hx hb dX9_blend_643 (by decide) ?_
            exact ih_178 (c9_179 + 1, nI ((((68921 * a_57) + (1681 * b_165)) + (41 * c9_179)) + (((pm - a_57) - b_165) - c9_179)), (nI (mix (bP fv a1) pm a_57 b_165 c9_179)).toInt64) (mw h0 ad cs iv (uF (uF (uF (uF (uF fv 37 f37_35) 38 f38_45) 39 f39_46) 40 f40_47) 41 f41_48) gv) _ _ ls (by show pm + 1 - (c9_179 + 1) < pm + 1 - c9_179; omega) ⟨rfl, (show (c9_179 + 1) ≤ pm + 1 from by omega), (show bY (bF (bM fv a1) (bW fv n3 a1) (bC fv n3 a1) pm wa le mo) (mix (bP fv a1) pm) pm ((nI (mix (bP fv a1) pm a_57 b_165 c9_179)).toInt64) (nI ((((68921 * a_57) + (1681 * b_165)) + (41 * c9_179)) + (((pm - a_57) - b_165) - c9_179))) a_57 b_165 (c9_179 + 1) from Or.inr ⟨a_57, b_165, c9_179, bS_new hS_249 hF (by omega), rfl, rfl⟩)⟩ hP hD hS (lv_sub hl [0, 7, 8, 1, 2, 9, 10, 11, 12, 13, 14] rfl)
          have d_257 := Nat.le_of_not_lt (fun h9 => c_255 ((lc_lt (x := mix (bP fv a1) pm a_57 b_165 c9_179) (y := mix (bP fv a1) pm x_246 y_247 z_248) (by omega) (by omega)).mpr h9))
          refine lv_goto (tgt := 640) hx hb dX9_blend_609 (by decide) ?_
          refine lv_iinc (v := nI (c9_179 + 1)) (lv' := [(12, .int (nI (c9_179 + 1))), (18, .long ((nI (mix (bP fv a1) pm a_57 b_165 c9_179)).toInt64)), (16, .long ((nI (mix (bC fv n3 a1) pm a_57 b_165 c9_179)).toInt64)), (14, .long ((nI (mix (bW fv n3 a1) pm a_57 b_165 c9_179)).toInt64)), (13, .int (nI (((pm - a_57) - b_165) - c9_179))), (11, .int (nI b_165)), (10, .int (nI a_57)), (9, .int kp_180), (7, .long be_181), (6, .int (nI n_34)), (5, .int (nI mo)), (4, .int (nI le)), (3, .int (nI wa)), (2, .int (nI pm)), (0, .ref h0)]) hx hb dX9_blend_640 hl (k := 4) rfl (nI_add c9_179 1) (by decide) rfl (fun ls hl => ?_)
          refine lv_goto (tgt := 348) hx hb dX9_blend_643 (by decide) ?_
          exact ih_178 (c9_179 + 1, kp_180, be_181) (mw h0 ad cs iv (uF (uF (uF (uF (uF fv 37 f37_35) 38 f38_45) 39 f39_46) 40 f40_47) 41 f41_48) gv) _ _ ls (by show pm + 1 - (c9_179 + 1) < pm + 1 - c9_179; omega) ⟨rfl, (show (c9_179 + 1) ≤ pm + 1 from by omega), (show bY (bF (bM fv a1) (bW fv n3 a1) (bC fv n3 a1) pm wa le mo) (mix (bP fv a1) pm) pm be_181 kp_180 a_57 b_165 (c9_179 + 1) from Or.inr ⟨x_246, y_247, z_248, bS_ge hS_249 (by omega), hv_250, hk_251⟩)⟩ hP hD hS (lv_sub hl [0, 5, 6, 7, 8, 9, 10, 11, 12, 13, 14] rfl)
        have d_258 := (lc_gt (x := mix (bC fv n3 a1) pm a_57 b_165 c9_179) (y := (pm * 10) * mo) (by omega) (by omega)).mp (Classical.byContradiction (fun h9 => c_231 (i_le0.mpr h9)))
        refine lv_goto (tgt := 640) hx hb dX9_blend_542 (by decide) ?_
        refine lv_iinc (v := nI (c9_179 + 1)) (lv' := [(12, .int (nI (c9_179 + 1))), (16, .long ((nI (mix (bC fv n3 a1) pm a_57 b_165 c9_179)).toInt64)), (14, .long ((nI (mix (bW fv n3 a1) pm a_57 b_165 c9_179)).toInt64)), (13, .int (nI (((pm - a_57) - b_165) - c9_179))), (11, .int (nI b_165)), (10, .int (nI a_57)), (9, .int kp_180), (7, .long be_181), (6, .int (nI n_34)), (5, .int (nI mo)), (4, .int (nI le)), (3, .int (nI wa)), (2, .int (nI pm)), (0, .ref h0)]) hx hb dX9_blend_640 hl (k := 3) rfl (nI_add c9_179 1) (by decide) rfl (fun ls hl => ?_)
        refine lv_goto (tgt := 348) hx hb dX9_blend_643 (by decide) ?_
        exact ih_178 (c9_179 + 1, kp_180, be_181) (mw h0 ad cs iv (uF (uF (uF (uF (uF fv 37 f37_35) 38 f38_45) 39 f39_46) 40 f40_47) 41 f41_48) gv) _ _ ls (by show pm + 1 - (c9_179 + 1) < pm + 1 - c9_179; omega) ⟨rfl, (show (c9_179 + 1) ≤ pm + 1 from by omega), (show bY (bF (bM fv a1) (bW fv n3 a1) (bC fv n3 a1) pm wa le mo) (mix (bP fv a1) pm) pm be_181 kp_180 a_57 b_165 (c9_179 + 1) from hs3_183.elim (fun z9 => Or.inl ⟨z9.1, bN_no z9.2 (show ¬ (bF (bM fv a1) (bW fv n3 a1) (bC fv n3 a1) pm wa le mo) a_57 b_165 c9_179 from fun h9 => by have z1 := h9.1.2.2.2.2; have z2 := h9.2.1; have z3 := h9.2.2.1; have z4 := h9.2.2.2; omega)⟩) (fun ⟨x9, y9, w9, z1, z2⟩ => Or.inr ⟨x9, y9, w9, bS_no z1 (show ¬ (bF (bM fv a1) (bW fv n3 a1) (bC fv n3 a1) pm wa le mo) a_57 b_165 c9_179 from fun h9 => by have z1 := h9.1.2.2.2.2; have z2 := h9.2.1; have z3 := h9.2.2.1; have z4 := h9.2.2.2; omega), z2⟩))⟩ hP hD hS (lv_sub hl [0, 4, 5, 6, 7, 8, 9, 10, 11, 12, 13] rfl)
      have d_259 := n_nle (a := ((pm - a_57) - b_165) - c9_179) (b := bM fv a1 3) (by omega) (by omega) c_194
      refine lv_goto (tgt := 640) hx hb dX9_blend_394 (by decide) ?_
      refine lv_iinc (v := nI (c9_179 + 1)) (lv' := [(12, .int (nI (c9_179 + 1))), (13, .int (nI (((pm - a_57) - b_165) - c9_179))), (11, .int (nI b_165)), (10, .int (nI a_57)), (9, .int kp_180), (7, .long be_181), (6, .int (nI n_34)), (5, .int (nI mo)), (4, .int (nI le)), (3, .int (nI wa)), (2, .int (nI pm)), (0, .ref h0)]) hx hb dX9_blend_640 hl (k := 1) rfl (nI_add c9_179 1) (by decide) rfl (fun ls hl => ?_)
      refine lv_goto (tgt := 348) hx hb dX9_blend_643 (by decide) ?_
      exact ih_178 (c9_179 + 1, kp_180, be_181) (mw h0 ad cs iv (uF (uF (uF (uF (uF fv 37 f37_35) 38 f38_45) 39 f39_46) 40 f40_47) 41 f41_48) gv) _ _ ls (by show pm + 1 - (c9_179 + 1) < pm + 1 - c9_179; omega) ⟨rfl, (show (c9_179 + 1) ≤ pm + 1 from by omega), (show bY (bF (bM fv a1) (bW fv n3 a1) (bC fv n3 a1) pm wa le mo) (mix (bP fv a1) pm) pm be_181 kp_180 a_57 b_165 (c9_179 + 1) from hs3_183.elim (fun z9 => Or.inl ⟨z9.1, bN_no z9.2 (show ¬ (bF (bM fv a1) (bW fv n3 a1) (bC fv n3 a1) pm wa le mo) a_57 b_165 c9_179 from fun h9 => by have z1 := h9.1.2.2.2.2; have z2 := h9.2.1; have z3 := h9.2.2.1; have z4 := h9.2.2.2; omega)⟩) (fun ⟨x9, y9, w9, z1, z2⟩ => Or.inr ⟨x9, y9, w9, bS_no z1 (show ¬ (bF (bM fv a1) (bW fv n3 a1) (bC fv n3 a1) pm wa le mo) a_57 b_165 c9_179 from fun h9 => by have z1 := h9.1.2.2.2.2; have z2 := h9.2.1; have z3 := h9.2.2.1; have z4 := h9.2.2.2; omega), z2⟩))⟩ hP hD hS (lv_sub hl [0, 2, 3, 4, 5, 6, 7, 8, 9, 10, 11] rfl)
    have d_260 := n_nle (a := 4) (b := k_44) (by omega) (by omega) c_54
    refine lv_aload_n hx hb dX9_blend_129 rfl (lv_at hl 7 rfl) ?_
    refine va_get (D := D) (ci := 9) (v := .ref (ad 38)) (C := RX9) (T := TX9) (N := 44) hx hb hts hin9 hown hK hP 0 rfl rfl 38 (by decide) (hts (.fieldLink RX9 127 "HoneyHouseModel" "wet" "[I") (List.mem_of_getElem? (i := 2) rfl)) (fun _ h9 => h9) rfl dX9_blend_130 ?_
    refine lv_iload hx hb dX9_blend_133 (lv_at hl 0 rfl) ?_
    refine lv_iload hx hb dX9_blend_135 (lv_at hl 0 rfl) ?_
    refine lv_iload hx hb dX9_blend_137 (lv_at hl 1 rfl) ?_
    refine lv_icmp_ge (tgt := 175) hx hb dX9_blend_139 (by decide) (fun c_261 => ?_) (fun c_261 => ?_)
    · have d_262 := n_le (a := n_34) (b := k_44) (by omega) (by omega) c_261
      refine lv_iconst (v := 0) hx hb dX9_blend_175 (by decide) ?_
      refine tp_i (y := nI (bW fv n3 a1 k_44)) ((bw_0 (fv := fv) (n := n3) (show ¬ k_44 < cB a1 10 by omega)).1.symm) ?_
      refine va_iast (f := f38_45) (n := 4) hx hb hK hP hD hS 25 24 rfl rfl (vp_in_nI (n := k_44) (by omega) (by omega)) dX9_blend_176 (fun H locs hP hD hS => ?_)
      have hP : va_P D vwCl (mw h0 ad cs iv (uF (uF (uF (uF (uF fv 37 f37_35) 38 (upd f38_45 (nI k_44).toNatClampNeg (nI (bW fv n3 a1 k_44)))) 39 f39_46) 40 f40_47) 41 f41_48) gv) H := hP
      have hD : va_D A (mw h0 ad cs iv (uF (uF (uF (uF (uF fv 37 f37_35) 38 (upd f38_45 (nI k_44).toNatClampNeg (nI (bW fv n3 a1 k_44)))) 39 f39_46) 40 f40_47) 41 f41_48) gv) := hD
      obtain ⟨f_263, hf_264⟩ : ∃ g9, g9 = upd f38_45 (nI k_44).toNatClampNeg (nI (bW fv n3 a1 k_44)) := ⟨_, rfl⟩
      rw [← hf_264] at hP hD
      rw [nI_clamp (n := k_44) (by omega)] at hf_264
      refine lv_aload_n hx hb dX9_blend_177 rfl (lv_at hl 7 rfl) ?_
      refine va_get (D := D) (ci := 9) (v := .ref (ad 39)) (C := RX9) (T := TX9) (N := 44) hx hb hts hin9 hown hK hP 0 rfl rfl 39 (by decide) (hts (.fieldLink RX9 130 "HoneyHouseModel" "dark" "[I") (List.mem_of_getElem? (i := 4) rfl)) (fun _ h9 => h9) rfl dX9_blend_178 ?_
      refine lv_iload hx hb dX9_blend_181 (lv_at hl 0 rfl) ?_
      refine lv_iload hx hb dX9_blend_183 (lv_at hl 0 rfl) ?_
      refine lv_iload hx hb dX9_blend_185 (lv_at hl 1 rfl) ?_
      refine lv_icmp_ge (tgt := 223) hx hb dX9_blend_187 (by decide) (fun c_265 => ?_) (fun c_265 => absurd (nI_le (a := n_34) (b := k_44) (by omega) (by omega)) c_265)
      refine lv_iconst (v := 0) hx hb dX9_blend_223 (by decide) ?_
      refine tp_i (y := nI (bC fv n3 a1 k_44)) ((bw_0 (fv := fv) (n := n3) (show ¬ k_44 < cB a1 10 by omega)).2.1.symm) ?_
      refine va_iast (f := f39_46) (n := 4) hx hb hK hP hD hS 26 25 rfl rfl (vp_in_nI (n := k_44) (by omega) (by omega)) dX9_blend_224 (fun H locs hP hD hS => ?_)
      have hP : va_P D vwCl (mw h0 ad cs iv (uF (uF (uF (uF (uF fv 37 f37_35) 38 f_263) 39 (upd f39_46 (nI k_44).toNatClampNeg (nI (bC fv n3 a1 k_44)))) 40 f40_47) 41 f41_48) gv) H := hP
      have hD : va_D A (mw h0 ad cs iv (uF (uF (uF (uF (uF fv 37 f37_35) 38 f_263) 39 (upd f39_46 (nI k_44).toNatClampNeg (nI (bC fv n3 a1 k_44)))) 40 f40_47) 41 f41_48) gv) := hD
      obtain ⟨f_266, hf_267⟩ : ∃ g9, g9 = upd f39_46 (nI k_44).toNatClampNeg (nI (bC fv n3 a1 k_44)) := ⟨_, rfl⟩
      rw [← hf_267] at hP hD
      rw [nI_clamp (n := k_44) (by omega)] at hf_267
      refine lv_aload_n hx hb dX9_blend_225 rfl (lv_at hl 7 rfl) ?_
      refine va_get (D := D) (ci := 9) (v := .ref (ad 40)) (C := RX9) (T := TX9) (N := 44) hx hb hts hin9 hown hK hP 0 rfl rfl 40 (by decide) (hts (.fieldLink RX9 133 "HoneyHouseModel" "cost" "[I") (List.mem_of_getElem? (i := 5) rfl)) (fun _ h9 => h9) rfl dX9_blend_226 ?_
      refine lv_iload hx hb dX9_blend_229 (lv_at hl 0 rfl) ?_
      refine lv_iload hx hb dX9_blend_231 (lv_at hl 0 rfl) ?_
      refine lv_iload hx hb dX9_blend_233 (lv_at hl 1 rfl) ?_
      refine lv_icmp_ge (tgt := 253) hx hb dX9_blend_235 (by decide) (fun c_268 => ?_) (fun c_268 => absurd (nI_le (a := n_34) (b := k_44) (by omega) (by omega)) c_268)
      refine lv_iconst (v := 0) hx hb dX9_blend_253 (by decide) ?_
      refine tp_i (y := nI (bP fv a1 k_44)) ((bw_0 (fv := fv) (n := n3) (show ¬ k_44 < cB a1 10 by omega)).2.2.1.symm) ?_
      refine va_iast (f := f40_47) (n := 4) hx hb hK hP hD hS 27 26 rfl rfl (vp_in_nI (n := k_44) (by omega) (by omega)) dX9_blend_254 (fun H locs hP hD hS => ?_)
      have hP : va_P D vwCl (mw h0 ad cs iv (uF (uF (uF (uF (uF fv 37 f37_35) 38 f_263) 39 f_266) 40 (upd f40_47 (nI k_44).toNatClampNeg (nI (bP fv a1 k_44)))) 41 f41_48) gv) H := hP
      have hD : va_D A (mw h0 ad cs iv (uF (uF (uF (uF (uF fv 37 f37_35) 38 f_263) 39 f_266) 40 (upd f40_47 (nI k_44).toNatClampNeg (nI (bP fv a1 k_44)))) 41 f41_48) gv) := hD
      obtain ⟨f_269, hf_270⟩ : ∃ g9, g9 = upd f40_47 (nI k_44).toNatClampNeg (nI (bP fv a1 k_44)) := ⟨_, rfl⟩
      rw [← hf_270] at hP hD
      rw [nI_clamp (n := k_44) (by omega)] at hf_270
      refine lv_aload_n hx hb dX9_blend_255 rfl (lv_at hl 7 rfl) ?_
      refine va_get (D := D) (ci := 9) (v := .ref (ad 41)) (C := RX9) (T := TX9) (N := 44) hx hb hts hin9 hown hK hP 0 rfl rfl 41 (by decide) (hts (.fieldLink RX9 136 "HoneyHouseModel" "there" "[I") (List.mem_of_getElem? (i := 7) rfl)) (fun _ h9 => h9) rfl dX9_blend_256 ?_
      refine lv_iload hx hb dX9_blend_259 (lv_at hl 0 rfl) ?_
      refine lv_iload hx hb dX9_blend_261 (lv_at hl 0 rfl) ?_
      refine lv_iload hx hb dX9_blend_263 (lv_at hl 1 rfl) ?_
      refine lv_icmp_ge (tgt := 286) hx hb dX9_blend_265 (by decide) (fun c_271 => ?_) (fun c_271 => absurd (nI_le (a := n_34) (b := k_44) (by omega) (by omega)) c_271)
      refine lv_iconst (v := 0) hx hb dX9_blend_286 (by decide) ?_
      refine tp_i (y := nI (bM fv a1 k_44)) ((bw_0 (fv := fv) (n := n3) (show ¬ k_44 < cB a1 10 by omega)).2.2.2.symm) ?_
      refine va_iast (f := f41_48) (n := 4) hx hb hK hP hD hS 28 27 rfl rfl (vp_in_nI (n := k_44) (by omega) (by omega)) dX9_blend_287 (fun H locs hP hD hS => ?_)
      have hP : va_P D vwCl (mw h0 ad cs iv (uF (uF (uF (uF (uF fv 37 f37_35) 38 f_263) 39 f_266) 40 f_269) 41 (upd f41_48 (nI k_44).toNatClampNeg (nI (bM fv a1 k_44)))) gv) H := hP
      have hD : va_D A (mw h0 ad cs iv (uF (uF (uF (uF (uF fv 37 f37_35) 38 f_263) 39 f_266) 40 f_269) 41 (upd f41_48 (nI k_44).toNatClampNeg (nI (bM fv a1 k_44)))) gv) := hD
      obtain ⟨f_272, hf_273⟩ : ∃ g9, g9 = upd f41_48 (nI k_44).toNatClampNeg (nI (bM fv a1 k_44)) := ⟨_, rfl⟩
      rw [← hf_273] at hP hD
      rw [nI_clamp (n := k_44) (by omega)] at hf_273
      refine lv_iinc (v := nI (k_44 + 1)) (lv' := [(7, .int (nI (k_44 + 1))), (6, .int (nI n_34)), (5, .int (nI mo)), (4, .int (nI le)), (3, .int (nI wa)), (2, .int (nI pm)), (1, .int a1), (0, .ref h0)]) hx hb dX9_blend_288 hl (k := 0) rfl (nI_add k_44 1) (by decide) rfl (fun ls hl => ?_)
      refine lv_goto (tgt := 123) hx hb dX9_blend_291 (by decide) ?_
      exact ih_43 (k_44 + 1, f_263, f_266, f_269, f_272) (mw h0 ad cs iv (uF (uF (uF (uF (uF fv 37 f37_35) 38 f_263) 39 f_266) 40 f_269) 41 f_272) gv) _ _ ls (by show 4 - (k_44 + 1) < 4 - k_44; omega) ⟨rfl, (show (k_44 + 1) ≤ 4 from by omega), (show ∀ q9 : Nat, q9 < (k_44 + 1) → f_263 q9 = nI (bW fv n3 a1 q9) from rwb_s h38_50 hf_264 rfl), (show ∀ q9 : Nat, q9 < (k_44 + 1) → f_266 q9 = nI (bC fv n3 a1 q9) from rwb_s h39_51 hf_267 rfl), (show ∀ q9 : Nat, q9 < (k_44 + 1) → f_269 q9 = nI (bP fv a1 q9) from rwb_s h40_52 hf_270 rfl), (show ∀ q9 : Nat, q9 < (k_44 + 1) → f_272 q9 = nI (bM fv a1 q9) from rwb_s h41_53 hf_273 rfl)⟩ hP hD hS (lv_sub hl [0, 1, 2, 3, 4, 5, 6, 7] rfl)
    have d_274 := n_nle (a := n_34) (b := k_44) (by omega) (by omega) c_261
    refine lv_ldc2 hx hb hown (hts (.constantLong RX9 185 (10)) (List.mem_of_getElem? (i := 3) rfl)) dX9_blend_142 ?_
    refine lv_aload_n hx hb dX9_blend_145 rfl (lv_at hl 7 rfl) ?_
    refine lv_aload_n hx hb dX9_blend_146 rfl (lv_at hl 7 rfl) ?_
    refine va_get (D := D) (ci := 9) (v := .ref (ad 37)) (C := RX9) (T := TX9) (N := 44) hx hb hts hin9 hown hK hP 0 rfl rfl 37 (by decide) (hts (.fieldLink RX9 124 "HoneyHouseModel" "which" "[I") (List.mem_of_getElem? (i := 1) rfl)) (fun _ h9 => h9) rfl dX9_blend_147 ?_
    refine lv_iload hx hb dX9_blend_150 (lv_at hl 0 rfl) ?_
    refine va_iald (f := f37_35) (n := 4) hx hb hK hP 24 23 rfl rfl (vp_in_nI (n := k_44) (by omega) (by omega)) dX9_blend_152 ?_
    refine lv_topi (fun z_275 hz_276 => ?_)
    rw [nI_clamp (n := k_44) (by omega)] at hz_276
    obtain rfl : z_275 = nI (tK a1 k_44) := hz_276.trans (hw_39 k_44 (by omega))
    have htk_277 := (tK_at (a := a1) (k := k_44) (by omega)).1
    refine lv_iconst (v := 0) hx hb dX9_blend_153 (by decide) ?_
    refine vp_callSl (W.runV (As := [.int (nI (tK a1 k_44)), .int 0]) (rest := [.long 10, .int (nI k_44), .ref (ad 38)]) ⟨hx, hb, hml, hown, hts⟩ (m_sum l D h0 ad cs iv (uF (uF (uF (uF (uF fv 37 f37_35) 38 f38_45) 39 f39_46) 40 f40_47) 41 f41_48) gv n3 (tK a1 k_44) 0 h3 (by omega) (by omega) (by omega)) (cwV 2 hts gX9_blend_X9_sum rfl rfl rfl (by decide +kernel) ⟨Nat.le_of_ble_eq_true rfl, Nat.le_of_ble_eq_true rfl⟩) ⟨fun a U g mk q => ⟨q.1, q.2.1, va_K.moved (u := U) (U := U.calling g mk a) (Vm.Alike.refl U.vm) q.2.2⟩, va_recv hK hP (ci := 9) (q0 := 0) rfl rfl, fun U hU hW => ⟨rfl, by rw [hU]; exact hP, va_K.moved hW.alike hK⟩⟩ rfl rfl hl.1 rfl (lv_room (Nat.le_of_ble_eq_true rfl)) dX9_blend_154 ⟨Nat.le_of_ble_eq_true rfl, Nat.le_of_ble_eq_true rfl⟩) (fun r_278 k_279 => ?_)
    replace k_279 : r_278 = wG (wRow fv (tK a1 k_44)) (pgN fv 0) n3 := k_279
    refine lv_lmul hx hb dX9_blend_157 ?_
    refine lv_aload_n hx hb dX9_blend_158 rfl (lv_at hl 7 rfl) ?_
    refine lv_aload_n hx hb dX9_blend_159 rfl (lv_at hl 7 rfl) ?_
    refine va_get (D := D) (ci := 9) (v := .ref (ad 37)) (C := RX9) (T := TX9) (N := 44) hx hb hts hin9 hown hK hP 0 rfl rfl 37 (by decide) (hts (.fieldLink RX9 124 "HoneyHouseModel" "which" "[I") (List.mem_of_getElem? (i := 1) rfl)) (fun _ h9 => h9) rfl dX9_blend_160 ?_
    refine lv_iload hx hb dX9_blend_163 (lv_at hl 0 rfl) ?_
    refine va_iald (f := f37_35) (n := 4) hx hb hK hP 24 23 rfl rfl (vp_in_nI (n := k_44) (by omega) (by omega)) dX9_blend_165 ?_
    refine lv_topi (fun z_280 hz_281 => ?_)
    rw [nI_clamp (n := k_44) (by omega)] at hz_281
    obtain rfl : z_280 = nI (tK a1 k_44) := hz_281.trans (hw_39 k_44 (by omega))
    refine vp_callSi (W.runV (As := [.int (nI (tK a1 k_44))]) (rest := [.long (10 * r_278), .int (nI k_44), .ref (ad 38)]) ⟨hx, hb, hml, hown, hts⟩ (m_all l D h0 ad cs iv (uF (uF (uF (uF (uF fv 37 f37_35) 38 f38_45) 39 f39_46) 40 f40_47) 41 f41_48) gv n3 (tK a1 k_44) h3 (by omega) (by omega)) (cwV 1 hts gX9_blend_X9_all rfl rfl rfl (by decide +kernel) ⟨Nat.le_of_ble_eq_true rfl, Nat.le_of_ble_eq_true rfl⟩) ⟨fun a U g mk q => ⟨q.1, q.2.1, va_K.moved (u := U) (U := U.calling g mk a) (Vm.Alike.refl U.vm) q.2.2⟩, va_recv hK hP (ci := 9) (q0 := 0) rfl rfl, fun U hU hW => ⟨rfl, by rw [hU]; exact hP, va_K.moved hW.alike hK⟩⟩ rfl rfl hl.1 rfl (lv_room (Nat.le_of_ble_eq_true rfl)) dX9_blend_166 ⟨Nat.le_of_ble_eq_true rfl, Nat.le_of_ble_eq_true rfl⟩) (fun r_282 k_283 => ?_)
    replace k_283 : r_282 = mall (fv 9) (tK a1 k_44) 40 := (show r_282 = mall (fv 9) (tK a1 k_44) n3 from k_283).trans (hM _ (by omega))
    refine lv_i2l hx hb dX9_blend_169 rfl ?_
    refine lv_ldiv hx hb dX9_blend_170 (i_ne64 (fun h9 => hAT.2.2.2 (tK a1 k_44) (by omega) (tK_at (a := a1) (k := k_44) (by omega)).2.1 (k_283.symm.trans h9))) ?_
    refine lv_l2i hx hb dX9_blend_171 rfl ?_
    refine lv_goto (tgt := 176) hx hb dX9_blend_172 (by decide) ?_
    refine tp_i (y := nI (bW fv n3 a1 k_44)) ((bt_m (q := 0) (Or.inl rfl) k_279 k_283).trans (bw_k hV hX b3 hAT (show k_44 < cB a1 10 by omega)).1) ?_
    refine va_iast (f := f38_45) (n := 4) hx hb hK hP hD hS 25 24 rfl rfl (vp_in_nI (n := k_44) (by omega) (by omega)) dX9_blend_176 (fun H locs hP hD hS => ?_)
    have hP : va_P D vwCl (mw h0 ad cs iv (uF (uF (uF (uF (uF fv 37 f37_35) 38 (upd f38_45 (nI k_44).toNatClampNeg (nI (bW fv n3 a1 k_44)))) 39 f39_46) 40 f40_47) 41 f41_48) gv) H := hP
    have hD : va_D A (mw h0 ad cs iv (uF (uF (uF (uF (uF fv 37 f37_35) 38 (upd f38_45 (nI k_44).toNatClampNeg (nI (bW fv n3 a1 k_44)))) 39 f39_46) 40 f40_47) 41 f41_48) gv) := hD
    obtain ⟨f_284, hf_285⟩ : ∃ g9, g9 = upd f38_45 (nI k_44).toNatClampNeg (nI (bW fv n3 a1 k_44)) := ⟨_, rfl⟩
    rw [← hf_285] at hP hD
    rw [nI_clamp (n := k_44) (by omega)] at hf_285
    refine lv_aload_n hx hb dX9_blend_177 rfl (lv_at hl 7 rfl) ?_
    refine va_get (D := D) (ci := 9) (v := .ref (ad 39)) (C := RX9) (T := TX9) (N := 44) hx hb hts hin9 hown hK hP 0 rfl rfl 39 (by decide) (hts (.fieldLink RX9 130 "HoneyHouseModel" "dark" "[I") (List.mem_of_getElem? (i := 4) rfl)) (fun _ h9 => h9) rfl dX9_blend_178 ?_
    refine lv_iload hx hb dX9_blend_181 (lv_at hl 0 rfl) ?_
    refine lv_iload hx hb dX9_blend_183 (lv_at hl 0 rfl) ?_
    refine lv_iload hx hb dX9_blend_185 (lv_at hl 1 rfl) ?_
    refine lv_icmp_ge (tgt := 223) hx hb dX9_blend_187 (by decide) (fun c_286 => absurd c_286 (nI_ge (a := k_44) (b := n_34) (by omega) (by omega))) (fun c_286 => ?_)
    refine lv_ldc2 hx hb hown (hts (.constantLong RX9 185 (10)) (List.mem_of_getElem? (i := 3) rfl)) dX9_blend_190 ?_
    refine lv_aload_n hx hb dX9_blend_193 rfl (lv_at hl 7 rfl) ?_
    refine lv_aload_n hx hb dX9_blend_194 rfl (lv_at hl 7 rfl) ?_
    refine va_get (D := D) (ci := 9) (v := .ref (ad 37)) (C := RX9) (T := TX9) (N := 44) hx hb hts hin9 hown hK hP 0 rfl rfl 37 (by decide) (hts (.fieldLink RX9 124 "HoneyHouseModel" "which" "[I") (List.mem_of_getElem? (i := 1) rfl)) (fun _ h9 => h9) rfl dX9_blend_195 ?_
    refine lv_iload hx hb dX9_blend_198 (lv_at hl 0 rfl) ?_
    refine va_iald (f := f37_35) (n := 4) hx hb hK hP 24 23 rfl rfl (vp_in_nI (n := k_44) (by omega) (by omega)) dX9_blend_200 ?_
    refine lv_topi (fun z_287 hz_288 => ?_)
    rw [nI_clamp (n := k_44) (by omega)] at hz_288
    obtain rfl : z_287 = nI (tK a1 k_44) := hz_288.trans (hw_39 k_44 (by omega))
    refine lv_iconst (v := 1) hx hb dX9_blend_201 (by decide) ?_
    refine vp_callSl (W.runV (As := [.int (nI (tK a1 k_44)), .int 1]) (rest := [.long 10, .int (nI k_44), .ref (ad 39)]) ⟨hx, hb, hml, hown, hts⟩ (m_sum l D h0 ad cs iv (uF (uF (uF (uF (uF fv 37 f37_35) 38 f_284) 39 f39_46) 40 f40_47) 41 f41_48) gv n3 (tK a1 k_44) 1 h3 (by omega) (by omega) (by omega)) (cwV 2 hts gX9_blend_X9_sum rfl rfl rfl (by decide +kernel) ⟨Nat.le_of_ble_eq_true rfl, Nat.le_of_ble_eq_true rfl⟩) ⟨fun a U g mk q => ⟨q.1, q.2.1, va_K.moved (u := U) (U := U.calling g mk a) (Vm.Alike.refl U.vm) q.2.2⟩, va_recv hK hP (ci := 9) (q0 := 0) rfl rfl, fun U hU hW => ⟨rfl, by rw [hU]; exact hP, va_K.moved hW.alike hK⟩⟩ rfl rfl hl.1 rfl (lv_room (Nat.le_of_ble_eq_true rfl)) dX9_blend_202 ⟨Nat.le_of_ble_eq_true rfl, Nat.le_of_ble_eq_true rfl⟩) (fun r_289 k_290 => ?_)
    replace k_290 : r_289 = wG (wRow fv (tK a1 k_44)) (pgN fv 1) n3 := k_290
    refine lv_lmul hx hb dX9_blend_205 ?_
    refine lv_aload_n hx hb dX9_blend_206 rfl (lv_at hl 7 rfl) ?_
    refine lv_aload_n hx hb dX9_blend_207 rfl (lv_at hl 7 rfl) ?_
    refine va_get (D := D) (ci := 9) (v := .ref (ad 37)) (C := RX9) (T := TX9) (N := 44) hx hb hts hin9 hown hK hP 0 rfl rfl 37 (by decide) (hts (.fieldLink RX9 124 "HoneyHouseModel" "which" "[I") (List.mem_of_getElem? (i := 1) rfl)) (fun _ h9 => h9) rfl dX9_blend_208 ?_
    refine lv_iload hx hb dX9_blend_211 (lv_at hl 0 rfl) ?_
    refine va_iald (f := f37_35) (n := 4) hx hb hK hP 24 23 rfl rfl (vp_in_nI (n := k_44) (by omega) (by omega)) dX9_blend_213 ?_
    refine lv_topi (fun z_291 hz_292 => ?_)
    rw [nI_clamp (n := k_44) (by omega)] at hz_292
    obtain rfl : z_291 = nI (tK a1 k_44) := hz_292.trans (hw_39 k_44 (by omega))
    refine vp_callSi (W.runV (As := [.int (nI (tK a1 k_44))]) (rest := [.long (10 * r_289), .int (nI k_44), .ref (ad 39)]) ⟨hx, hb, hml, hown, hts⟩ (m_all l D h0 ad cs iv (uF (uF (uF (uF (uF fv 37 f37_35) 38 f_284) 39 f39_46) 40 f40_47) 41 f41_48) gv n3 (tK a1 k_44) h3 (by omega) (by omega)) (cwV 1 hts gX9_blend_X9_all rfl rfl rfl (by decide +kernel) ⟨Nat.le_of_ble_eq_true rfl, Nat.le_of_ble_eq_true rfl⟩) ⟨fun a U g mk q => ⟨q.1, q.2.1, va_K.moved (u := U) (U := U.calling g mk a) (Vm.Alike.refl U.vm) q.2.2⟩, va_recv hK hP (ci := 9) (q0 := 0) rfl rfl, fun U hU hW => ⟨rfl, by rw [hU]; exact hP, va_K.moved hW.alike hK⟩⟩ rfl rfl hl.1 rfl (lv_room (Nat.le_of_ble_eq_true rfl)) dX9_blend_214 ⟨Nat.le_of_ble_eq_true rfl, Nat.le_of_ble_eq_true rfl⟩) (fun r_293 k_294 => ?_)
    replace k_294 : r_293 = mall (fv 9) (tK a1 k_44) 40 := (show r_293 = mall (fv 9) (tK a1 k_44) n3 from k_294).trans (hM _ (by omega))
    refine lv_i2l hx hb dX9_blend_217 rfl ?_
    refine lv_ldiv hx hb dX9_blend_218 (i_ne64 (fun h9 => hAT.2.2.2 (tK a1 k_44) (by omega) (tK_at (a := a1) (k := k_44) (by omega)).2.1 (k_294.symm.trans h9))) ?_
    refine lv_l2i hx hb dX9_blend_219 rfl ?_
    refine lv_goto (tgt := 224) hx hb dX9_blend_220 (by decide) ?_
    refine tp_i (y := nI (bC fv n3 a1 k_44)) ((bt_m (q := 1) (Or.inr rfl) k_290 k_294).trans (bw_k hV hX b3 hAT (show k_44 < cB a1 10 by omega)).2.1) ?_
    refine va_iast (f := f39_46) (n := 4) hx hb hK hP hD hS 26 25 rfl rfl (vp_in_nI (n := k_44) (by omega) (by omega)) dX9_blend_224 (fun H locs hP hD hS => ?_)
    have hP : va_P D vwCl (mw h0 ad cs iv (uF (uF (uF (uF (uF fv 37 f37_35) 38 f_284) 39 (upd f39_46 (nI k_44).toNatClampNeg (nI (bC fv n3 a1 k_44)))) 40 f40_47) 41 f41_48) gv) H := hP
    have hD : va_D A (mw h0 ad cs iv (uF (uF (uF (uF (uF fv 37 f37_35) 38 f_284) 39 (upd f39_46 (nI k_44).toNatClampNeg (nI (bC fv n3 a1 k_44)))) 40 f40_47) 41 f41_48) gv) := hD
    obtain ⟨f_295, hf_296⟩ : ∃ g9, g9 = upd f39_46 (nI k_44).toNatClampNeg (nI (bC fv n3 a1 k_44)) := ⟨_, rfl⟩
    rw [← hf_296] at hP hD
    rw [nI_clamp (n := k_44) (by omega)] at hf_296
    refine lv_aload_n hx hb dX9_blend_225 rfl (lv_at hl 7 rfl) ?_
    refine va_get (D := D) (ci := 9) (v := .ref (ad 40)) (C := RX9) (T := TX9) (N := 44) hx hb hts hin9 hown hK hP 0 rfl rfl 40 (by decide) (hts (.fieldLink RX9 133 "HoneyHouseModel" "cost" "[I") (List.mem_of_getElem? (i := 5) rfl)) (fun _ h9 => h9) rfl dX9_blend_226 ?_
    refine lv_iload hx hb dX9_blend_229 (lv_at hl 0 rfl) ?_
    refine lv_iload hx hb dX9_blend_231 (lv_at hl 0 rfl) ?_
    refine lv_iload hx hb dX9_blend_233 (lv_at hl 1 rfl) ?_
    refine lv_icmp_ge (tgt := 253) hx hb dX9_blend_235 (by decide) (fun c_297 => absurd c_297 (nI_ge (a := k_44) (b := n_34) (by omega) (by omega))) (fun c_297 => ?_)
    refine lv_aload_n hx hb dX9_blend_238 rfl (lv_at hl 7 rfl) ?_
    refine va_get (D := D) (ci := 9) (v := .ref (ad 12)) (C := RX9) (T := TX9) (N := 44) hx hb hts hin9 hown hK hP 0 rfl rfl 12 (by decide) (hts (.fieldLink RX9 47 "HoneyHouseModel" "price" "[I") (List.mem_of_getElem? (i := 6) rfl)) (fun _ h9 => h9) rfl dX9_blend_239 ?_
    refine lv_aload_n hx hb dX9_blend_242 rfl (lv_at hl 7 rfl) ?_
    refine va_get (D := D) (ci := 9) (v := .ref (ad 37)) (C := RX9) (T := TX9) (N := 44) hx hb hts hin9 hown hK hP 0 rfl rfl 37 (by decide) (hts (.fieldLink RX9 124 "HoneyHouseModel" "which" "[I") (List.mem_of_getElem? (i := 1) rfl)) (fun _ h9 => h9) rfl dX9_blend_243 ?_
    refine lv_iload hx hb dX9_blend_246 (lv_at hl 0 rfl) ?_
    refine va_iald (f := f37_35) (n := 4) hx hb hK hP 24 23 rfl rfl (vp_in_nI (n := k_44) (by omega) (by omega)) dX9_blend_248 ?_
    refine lv_topi (fun z_298 hz_299 => ?_)
    rw [nI_clamp (n := k_44) (by omega)] at hz_299
    obtain rfl : z_298 = nI (tK a1 k_44) := hz_299.trans (hw_39 k_44 (by omega))
    refine va_iald (f := fv 12) (n := 70) hx hb hK hP 10 9 rfl rfl (vp_in_nI (n := tK a1 k_44) (by omega) (by omega)) dX9_blend_249 ?_
    refine lv_topi (fun z_300 hz_301 => ?_)
    rw [nI_clamp (n := tK a1 k_44) (by omega)] at hz_301
    obtain rfl : z_300 = fv 12 (tK a1 k_44) := hz_301
    refine lv_goto (tgt := 254) hx hb dX9_blend_250 (by decide) ?_
    refine tp_i (y := nI (bP fv a1 k_44)) ((bw_k hV hX b3 hAT (show k_44 < cB a1 10 by omega)).2.2.1) ?_
    refine va_iast (f := f40_47) (n := 4) hx hb hK hP hD hS 27 26 rfl rfl (vp_in_nI (n := k_44) (by omega) (by omega)) dX9_blend_254 (fun H locs hP hD hS => ?_)
    have hP : va_P D vwCl (mw h0 ad cs iv (uF (uF (uF (uF (uF fv 37 f37_35) 38 f_284) 39 f_295) 40 (upd f40_47 (nI k_44).toNatClampNeg (nI (bP fv a1 k_44)))) 41 f41_48) gv) H := hP
    have hD : va_D A (mw h0 ad cs iv (uF (uF (uF (uF (uF fv 37 f37_35) 38 f_284) 39 f_295) 40 (upd f40_47 (nI k_44).toNatClampNeg (nI (bP fv a1 k_44)))) 41 f41_48) gv) := hD
    obtain ⟨f_302, hf_303⟩ : ∃ g9, g9 = upd f40_47 (nI k_44).toNatClampNeg (nI (bP fv a1 k_44)) := ⟨_, rfl⟩
    rw [← hf_303] at hP hD
    rw [nI_clamp (n := k_44) (by omega)] at hf_303
    refine lv_aload_n hx hb dX9_blend_255 rfl (lv_at hl 7 rfl) ?_
    refine va_get (D := D) (ci := 9) (v := .ref (ad 41)) (C := RX9) (T := TX9) (N := 44) hx hb hts hin9 hown hK hP 0 rfl rfl 41 (by decide) (hts (.fieldLink RX9 136 "HoneyHouseModel" "there" "[I") (List.mem_of_getElem? (i := 7) rfl)) (fun _ h9 => h9) rfl dX9_blend_256 ?_
    refine lv_iload hx hb dX9_blend_259 (lv_at hl 0 rfl) ?_
    refine lv_iload hx hb dX9_blend_261 (lv_at hl 0 rfl) ?_
    refine lv_iload hx hb dX9_blend_263 (lv_at hl 1 rfl) ?_
    refine lv_icmp_ge (tgt := 286) hx hb dX9_blend_265 (by decide) (fun c_304 => absurd c_304 (nI_ge (a := k_44) (b := n_34) (by omega) (by omega))) (fun c_304 => ?_)
    refine lv_aload_n hx hb dX9_blend_268 rfl (lv_at hl 7 rfl) ?_
    refine lv_aload_n hx hb dX9_blend_269 rfl (lv_at hl 7 rfl) ?_
    refine va_get (D := D) (ci := 9) (v := .ref (ad 37)) (C := RX9) (T := TX9) (N := 44) hx hb hts hin9 hown hK hP 0 rfl rfl 37 (by decide) (hts (.fieldLink RX9 124 "HoneyHouseModel" "which" "[I") (List.mem_of_getElem? (i := 1) rfl)) (fun _ h9 => h9) rfl dX9_blend_270 ?_
    refine lv_iload hx hb dX9_blend_273 (lv_at hl 0 rfl) ?_
    refine va_iald (f := f37_35) (n := 4) hx hb hK hP 24 23 rfl rfl (vp_in_nI (n := k_44) (by omega) (by omega)) dX9_blend_275 ?_
    refine lv_topi (fun z_305 hz_306 => ?_)
    rw [nI_clamp (n := k_44) (by omega)] at hz_306
    obtain rfl : z_305 = nI (tK a1 k_44) := hz_306.trans (hw_39 k_44 (by omega))
    refine vp_callSi (W.runV (As := [.int (nI (tK a1 k_44))]) (rest := [.int (nI k_44), .ref (ad 41)]) ⟨hx, hb, hml, hown, hts⟩ (m_all l D h0 ad cs iv (uF (uF (uF (uF (uF fv 37 f37_35) 38 f_284) 39 f_295) 40 f_302) 41 f41_48) gv n3 (tK a1 k_44) h3 (by omega) (by omega)) (cwV 1 hts gX9_blend_X9_all rfl rfl rfl (by decide +kernel) ⟨Nat.le_of_ble_eq_true rfl, Nat.le_of_ble_eq_true rfl⟩) ⟨fun a U g mk q => ⟨q.1, q.2.1, va_K.moved (u := U) (U := U.calling g mk a) (Vm.Alike.refl U.vm) q.2.2⟩, va_recv hK hP (ci := 9) (q0 := 0) rfl rfl, fun U hU hW => ⟨rfl, by rw [hU]; exact hP, va_K.moved hW.alike hK⟩⟩ rfl rfl hl.1 rfl (lv_room (Nat.le_of_ble_eq_true rfl)) dX9_blend_276 ⟨Nat.le_of_ble_eq_true rfl, Nat.le_of_ble_eq_true rfl⟩) (fun r_307 k_308 => ?_)
    replace k_308 : r_307 = mall (fv 9) (tK a1 k_44) 40 := (show r_307 = mall (fv 9) (tK a1 k_44) n3 from k_308).trans (hM _ (by omega))
    refine lv_sipush (v := 1000) hx hb dX9_blend_279 (by decide) ?_
    refine lv_idiv hx hb dX9_blend_282 (by decide) ?_
    refine lv_goto (tgt := 287) hx hb dX9_blend_283 (by decide) ?_
    refine tp_i (y := nI (bM fv a1 k_44)) (by rw [k_308]; exact (bw_k hV hX b3 hAT (show k_44 < cB a1 10 by omega)).2.2.2) ?_
    refine va_iast (f := f41_48) (n := 4) hx hb hK hP hD hS 28 27 rfl rfl (vp_in_nI (n := k_44) (by omega) (by omega)) dX9_blend_287 (fun H locs hP hD hS => ?_)
    have hP : va_P D vwCl (mw h0 ad cs iv (uF (uF (uF (uF (uF fv 37 f37_35) 38 f_284) 39 f_295) 40 f_302) 41 (upd f41_48 (nI k_44).toNatClampNeg (nI (bM fv a1 k_44)))) gv) H := hP
    have hD : va_D A (mw h0 ad cs iv (uF (uF (uF (uF (uF fv 37 f37_35) 38 f_284) 39 f_295) 40 f_302) 41 (upd f41_48 (nI k_44).toNatClampNeg (nI (bM fv a1 k_44)))) gv) := hD
    obtain ⟨f_309, hf_310⟩ : ∃ g9, g9 = upd f41_48 (nI k_44).toNatClampNeg (nI (bM fv a1 k_44)) := ⟨_, rfl⟩
    rw [← hf_310] at hP hD
    rw [nI_clamp (n := k_44) (by omega)] at hf_310
    refine lv_iinc (v := nI (k_44 + 1)) (lv' := [(7, .int (nI (k_44 + 1))), (6, .int (nI n_34)), (5, .int (nI mo)), (4, .int (nI le)), (3, .int (nI wa)), (2, .int (nI pm)), (1, .int a1), (0, .ref h0)]) hx hb dX9_blend_288 hl (k := 0) rfl (nI_add k_44 1) (by decide) rfl (fun ls hl => ?_)
    refine lv_goto (tgt := 123) hx hb dX9_blend_291 (by decide) ?_
    exact ih_43 (k_44 + 1, f_284, f_295, f_302, f_309) (mw h0 ad cs iv (uF (uF (uF (uF (uF fv 37 f37_35) 38 f_284) 39 f_295) 40 f_302) 41 f_309) gv) _ _ ls (by show 4 - (k_44 + 1) < 4 - k_44; omega) ⟨rfl, (show (k_44 + 1) ≤ 4 from by omega), (show ∀ q9 : Nat, q9 < (k_44 + 1) → f_284 q9 = nI (bW fv n3 a1 q9) from rwb_s h38_50 hf_285 rfl), (show ∀ q9 : Nat, q9 < (k_44 + 1) → f_295 q9 = nI (bC fv n3 a1 q9) from rwb_s h39_51 hf_296 rfl), (show ∀ q9 : Nat, q9 < (k_44 + 1) → f_302 q9 = nI (bP fv a1 q9) from rwb_s h40_52 hf_303 rfl), (show ∀ q9 : Nat, q9 < (k_44 + 1) → f_309 q9 = nI (bM fv a1 q9) from rwb_s h41_53 hf_310 rfl)⟩ hP hD hS (lv_sub hl [0, 1, 2, 3, 4, 5, 6, 7] rfl)
  have d_311 := n_nle (a := 10) (b := t_33) (by omega) (by omega) c_41
  refine lv_iload_n hx hb dX9_blend_73 rfl (lv_at hl 6 rfl) ?_
  refine lv_iload hx hb dX9_blend_74 (lv_at hl 0 rfl) ?_
  refine lv_ishr hx hb dX9_blend_76 ?_
  refine lv_iconst (v := 1) hx hb dX9_blend_77 (by decide) ?_
  refine lv_iand hx hb dX9_blend_78 ?_
  refine lv_if_ne (tgt := 85) hx hb dX9_blend_79 (by decide) (fun c_312 => ?_) (fun c_312 => ?_)
  · have hb_313 := bB_1 c_312
    refine lv_iload hx hb dX9_blend_85 (lv_at hl 1 rfl) ?_
    refine lv_iconst (v := 4) hx hb dX9_blend_87 (by decide) ?_
    refine lv_icmp_eq (tgt := 100) hx hb dX9_blend_88 (by decide) (fun c_314 => ?_) (fun c_314 => ?_)
    · have d_315 := n_eq (a := n_34) (b := 4) (by omega) (by omega) c_314
      refine lv_iconst (v := (-1)) hx hb dX9_blend_100 (by decide) ?_
      have hP : va_P D vwCl (mw h0 ad cs (upd iv 35 (iv 35)) (uF (uF (uF (uF (uF (uF fv 36 (fv 36)) 37 f37_35) 38 (fv 38)) 39 (fv 39)) 40 (fv 40)) 41 (fv 41)) gv) H := hP
      have hD : va_D A (mw h0 ad cs (upd iv 35 (iv 35)) (uF (uF (uF (uF (uF (uF fv 36 (fv 36)) 37 f37_35) 38 (fv 38)) 39 (fv 39)) 40 (fv 40)) 41 (fv 41)) gv) := hD
      exact W.iret (v := (-1)) hx hb hr (fun t ht hW => ⟨⟨(-1), (-1), rfl, rfl, iv 35, fv 36, f37_35, fv 38, fv 39, fv 40, fv 41, Or.inl ⟨bNo_i (Or.inr (Or.inr (Or.inr (Or.inr (fun h9 => cB_5 hb_313 (by omega) (by omega) h9.2.2.1))))), rfl, rfl⟩, by rw [ht]; exact hP, va_K.moved hW.alike hK, hD⟩, hS.F ht⟩) hS.2.2 dX9_blend_101
    have d_316 := n_ne (a := n_34) (b := 4) (by omega) (by omega) c_314
    refine lv_aload_n hx hb dX9_blend_91 rfl (lv_at hl 7 rfl) ?_
    refine lv_iload hx hb dX9_blend_92 (lv_at hl 0 rfl) ?_
    refine vp_callSi (W.runV (As := [.int (nI t_33)]) (rest := []) ⟨hx, hb, hml, hown, hts⟩ (m_all l D h0 ad cs iv (uF fv 37 f37_35) gv n3 t_33 h3 (by omega) (by omega)) (cwV 1 hts gX9_blend_X9_all rfl rfl rfl (by decide +kernel) ⟨Nat.le_of_ble_eq_true rfl, Nat.le_of_ble_eq_true rfl⟩) ⟨fun a U g mk q => ⟨q.1, q.2.1, va_K.moved (u := U) (U := U.calling g mk a) (Vm.Alike.refl U.vm) q.2.2⟩, va_recv hK hP (ci := 9) (q0 := 0) rfl rfl, fun U hU hW => ⟨rfl, by rw [hU]; exact hP, va_K.moved hW.alike hK⟩⟩ rfl rfl hl.1 rfl (lv_room (Nat.le_of_ble_eq_true rfl)) dX9_blend_94 ⟨Nat.le_of_ble_eq_true rfl, Nat.le_of_ble_eq_true rfl⟩) (fun r_317 k_318 => ?_)
    replace k_318 : r_317 = mall (fv 9) t_33 40 := (show r_317 = mall (fv 9) t_33 n3 from k_318).trans (hM _ (by omega))
    refine lv_if_ne (tgt := 102) hx hb dX9_blend_97 (by decide) (fun c_319 => ?_) (fun c_319 => ?_)
    · have cnz_320 : ¬ mall (fv 9) t_33 40 = 0 := fun h9 => c_319 (k_318.trans h9)
      refine lv_aload_n hx hb dX9_blend_102 rfl (lv_at hl 7 rfl) ?_
      refine va_get (D := D) (ci := 9) (v := .ref (ad 37)) (C := RX9) (T := TX9) (N := 44) hx hb hts hin9 hown hK hP 0 rfl rfl 37 (by decide) (hts (.fieldLink RX9 124 "HoneyHouseModel" "which" "[I") (List.mem_of_getElem? (i := 1) rfl)) (fun _ h9 => h9) rfl dX9_blend_103 ?_
      refine lv_iload hx hb dX9_blend_106 (lv_at hl 1 rfl) ?_
      refine lv_iload hx hb dX9_blend_108 (lv_at hl 0 rfl) ?_
      refine va_iast (f := f37_35) (n := 4) hx hb hK hP hD hS 24 23 rfl rfl (vp_in_nI (n := n_34) (by omega) (by omega)) dX9_blend_110 (fun H locs hP hD hS => ?_)
      have hP : va_P D vwCl (mw h0 ad cs iv (uF fv 37 (upd f37_35 (nI n_34).toNatClampNeg (nI t_33))) gv) H := hP
      have hD : va_D A (mw h0 ad cs iv (uF fv 37 (upd f37_35 (nI n_34).toNatClampNeg (nI t_33))) gv) := hD
      obtain ⟨f_321, hf_322⟩ : ∃ g9, g9 = upd f37_35 (nI n_34).toNatClampNeg (nI t_33) := ⟨_, rfl⟩
      rw [← hf_322] at hP hD
      rw [nI_clamp (n := n_34) (by omega)] at hf_322
      refine lv_iinc (v := nI (n_34 + 1)) (lv' := [(6, .int (nI (n_34 + 1))), (7, .int (nI t_33)), (5, .int (nI mo)), (4, .int (nI le)), (3, .int (nI wa)), (2, .int (nI pm)), (1, .int a1), (0, .ref h0)]) hx hb dX9_blend_111 hl (k := 1) rfl (nI_add n_34 1) (by decide) rfl (fun ls hl => ?_)
      refine lv_iinc (v := nI (t_33 + 1)) (lv' := [(7, .int (nI (t_33 + 1))), (6, .int (nI (n_34 + 1))), (5, .int (nI mo)), (4, .int (nI le)), (3, .int (nI wa)), (2, .int (nI pm)), (1, .int a1), (0, .ref h0)]) hx hb dX9_blend_114 hl (k := 1) rfl (nI_add t_33 1) (by decide) rfl (fun ls hl => ?_)
      refine lv_goto (tgt := 66) hx hb dX9_blend_117 (by decide) ?_
      exact ih_32 (t_33 + 1, n_34 + 1, f_321) (mw h0 ad cs iv (uF fv 37 f_321) gv) _ _ ls (by show 10 - (t_33 + 1) < 10 - t_33; omega) ⟨rfl, (show (t_33 + 1) ≤ 10 from by omega), (show (n_34 + 1) = cB a1 (t_33 + 1) from (by rw [cB_y hb_313, hn_37])), (show (n_34 + 1) ≤ 4 from by omega), (show ∀ k9 : Nat, k9 < (n_34 + 1) → f_321 k9 = nI (tK a1 k9) from rwb_s hw_39 hf_322 (by rw [hn_37, tK_eq hb_313 (by omega)])), (show ∀ u9 : Nat, u9 < (t_33 + 1) → bB a1 u9 → ¬ mall (fv 9) u9 40 = 0 from fun u9 h9 => (Nat.lt_or_ge u9 t_33).elim (fun q => hz_40 u9 q) (fun q => by rw [show u9 = t_33 by omega]; exact fun _ => cnz_320))⟩ hP hD hS (lv_sub hl [0, 1, 2, 3, 4, 5, 6, 7] rfl)
    refine lv_iconst (v := (-1)) hx hb dX9_blend_100 (by decide) ?_
    have hP : va_P D vwCl (mw h0 ad cs (upd iv 35 (iv 35)) (uF (uF (uF (uF (uF (uF fv 36 (fv 36)) 37 f37_35) 38 (fv 38)) 39 (fv 39)) 40 (fv 40)) 41 (fv 41)) gv) H := hP
    have hD : va_D A (mw h0 ad cs (upd iv 35 (iv 35)) (uF (uF (uF (uF (uF (uF fv 36 (fv 36)) 37 f37_35) 38 (fv 38)) 39 (fv 39)) 40 (fv 40)) 41 (fv 41)) gv) := hD
    exact W.iret (v := (-1)) hx hb hr (fun t ht hW => ⟨⟨(-1), (-1), rfl, rfl, iv 35, fv 36, f37_35, fv 38, fv 39, fv 40, fv 41, Or.inl ⟨bNo_i (Or.inr (Or.inr (Or.inr (Or.inr (fun h9 => h9.2.2.2 t_33 (by omega) hb_313 (k_318.symm.trans c_319)))))), rfl, rfl⟩, by rw [ht]; exact hP, va_K.moved hW.alike hK, hD⟩, hS.F ht⟩) hS.2.2 dX9_blend_101
  have hb_323 := bB_0 c_312
  refine lv_goto (tgt := 114) hx hb dX9_blend_82 (by decide) ?_
  refine lv_iinc (v := nI (t_33 + 1)) (lv' := [(7, .int (nI (t_33 + 1))), (6, .int (nI n_34)), (5, .int (nI mo)), (4, .int (nI le)), (3, .int (nI wa)), (2, .int (nI pm)), (1, .int a1), (0, .ref h0)]) hx hb dX9_blend_114 hl (k := 0) rfl (nI_add t_33 1) (by decide) rfl (fun ls hl => ?_)
  refine lv_goto (tgt := 66) hx hb dX9_blend_117 (by decide) ?_
  exact ih_32 (t_33 + 1, n_34, f37_35) (mw h0 ad cs iv (uF fv 37 f37_35) gv) _ _ ls (by show 10 - (t_33 + 1) < 10 - t_33; omega) ⟨rfl, (show (t_33 + 1) ≤ 10 from by omega), (show n_34 = cB a1 (t_33 + 1) from (by rw [cB_n hb_323]; exact hn_37)), (show n_34 ≤ 4 from hn4_38), (show ∀ k9 : Nat, k9 < n_34 → f37_35 k9 = nI (tK a1 k9) from hw_39), (show ∀ u9 : Nat, u9 < (t_33 + 1) → bB a1 u9 → ¬ mall (fv 9) u9 40 = 0 from fun u9 h9 => (Nat.lt_or_ge u9 t_33).elim (fun q => hz_40 u9 q) (fun q => by rw [show u9 = t_33 by omega]; exact fun h8 => absurd h8 hb_323))⟩ hP hD hS (lv_sub hl [0, 1, 2, 3, 4, 5, 6, 7] rfl)
