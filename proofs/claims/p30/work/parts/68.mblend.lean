theorem dX9_blend_0 : decode cX9_blend 0 = .ok (.iload_n 1, 1) := by decide +kernel
theorem dX9_blend_1 : decode cX9_blend 1 = .ok (.iconst 1, 1) := by decide +kernel
theorem dX9_blend_2 : decode cX9_blend 2 = .ok (.if_icmp .lt 56, 3) := by decide +kernel
theorem dX9_blend_5 : decode cX9_blend 5 = .ok (.iload_n 1, 1) := by decide +kernel
theorem dX9_blend_6 : decode cX9_blend 6 = .ok (.sipush 1023, 3) := by decide +kernel
theorem dX9_blend_9 : decode cX9_blend 9 = .ok (.if_icmp .gt 49, 3) := by decide +kernel
theorem dX9_blend_12 : decode cX9_blend 12 = .ok (.iload_n 2, 1) := by decide +kernel
theorem dX9_blend_13 : decode cX9_blend 13 = .ok (.iconst 1, 1) := by decide +kernel
theorem dX9_blend_14 : decode cX9_blend 14 = .ok (.bipush 40, 2) := by decide +kernel
theorem dX9_blend_16 : decode cX9_blend 16 = .ok (.invokestatic 151, 3) := by decide +kernel
theorem dX9_blend_19 : decode cX9_blend 19 = .ok (.ifCond .eq 39, 3) := by decide +kernel
theorem dX9_blend_22 : decode cX9_blend 22 = .ok (.iload_n 3, 1) := by decide +kernel
theorem dX9_blend_23 : decode cX9_blend 23 = .ok (.iconst 0, 1) := by decide +kernel
theorem dX9_blend_24 : decode cX9_blend 24 = .ok (.sipush 300, 3) := by decide +kernel
theorem dX9_blend_27 : decode cX9_blend 27 = .ok (.invokestatic 151, 3) := by decide +kernel
theorem dX9_blend_30 : decode cX9_blend 30 = .ok (.ifCond .eq 28, 3) := by decide +kernel
theorem dX9_blend_33 : decode cX9_blend 33 = .ok (.iload 4, 2) := by decide +kernel
theorem dX9_blend_35 : decode cX9_blend 35 = .ok (.iconst 0, 1) := by decide +kernel
theorem dX9_blend_36 : decode cX9_blend 36 = .ok (.sipush 140, 3) := by decide +kernel
theorem dX9_blend_39 : decode cX9_blend 39 = .ok (.invokestatic 151, 3) := by decide +kernel
theorem dX9_blend_42 : decode cX9_blend 42 = .ok (.ifCond .eq 16, 3) := by decide +kernel
theorem dX9_blend_45 : decode cX9_blend 45 = .ok (.iload 5, 2) := by decide +kernel
theorem dX9_blend_47 : decode cX9_blend 47 = .ok (.iload 4, 2) := by decide +kernel
theorem dX9_blend_49 : decode cX9_blend 49 = .ok (.sipush 140, 3) := by decide +kernel
theorem dX9_blend_52 : decode cX9_blend 52 = .ok (.invokestatic 151, 3) := by decide +kernel
theorem dX9_blend_55 : decode cX9_blend 55 = .ok (.ifCond .ne 5, 3) := by decide +kernel
theorem dX9_blend_58 : decode cX9_blend 58 = .ok (.iconst (-1), 1) := by decide +kernel
theorem dX9_blend_59 : decode cX9_blend 59 = .ok (.ireturn, 1) := by decide +kernel
theorem dX9_blend_60 : decode cX9_blend 60 = .ok (.iconst 0, 1) := by decide +kernel
theorem dX9_blend_61 : decode cX9_blend 61 = .ok (.istore 6, 2) := by decide +kernel
theorem dX9_blend_63 : decode cX9_blend 63 = .ok (.iconst 0, 1) := by decide +kernel
theorem dX9_blend_64 : decode cX9_blend 64 = .ok (.istore 7, 2) := by decide +kernel
theorem dX9_blend_66 : decode cX9_blend 66 = .ok (.iload 7, 2) := by decide +kernel
theorem dX9_blend_68 : decode cX9_blend 68 = .ok (.bipush 10, 2) := by decide +kernel
theorem dX9_blend_70 : decode cX9_blend 70 = .ok (.if_icmp .ge 50, 3) := by decide +kernel
theorem dX9_blend_73 : decode cX9_blend 73 = .ok (.iload_n 1, 1) := by decide +kernel
theorem dX9_blend_74 : decode cX9_blend 74 = .ok (.iload 7, 2) := by decide +kernel
theorem dX9_blend_76 : decode cX9_blend 76 = .ok (.ishr, 1) := by decide +kernel
theorem dX9_blend_77 : decode cX9_blend 77 = .ok (.iconst 1, 1) := by decide +kernel
theorem dX9_blend_78 : decode cX9_blend 78 = .ok (.iand, 1) := by decide +kernel
theorem dX9_blend_79 : decode cX9_blend 79 = .ok (.ifCond .ne 6, 3) := by decide +kernel
theorem dX9_blend_82 : decode cX9_blend 82 = .ok (.goto 32, 3) := by decide +kernel
theorem dX9_blend_85 : decode cX9_blend 85 = .ok (.iload 6, 2) := by decide +kernel
theorem dX9_blend_87 : decode cX9_blend 87 = .ok (.iconst 4, 1) := by decide +kernel
theorem dX9_blend_88 : decode cX9_blend 88 = .ok (.if_icmp .eq 12, 3) := by decide +kernel
theorem dX9_blend_91 : decode cX9_blend 91 = .ok (.aload_n 0, 1) := by decide +kernel
theorem dX9_blend_92 : decode cX9_blend 92 = .ok (.iload 7, 2) := by decide +kernel
theorem dX9_blend_94 : decode cX9_blend 94 = .ok (.invokevirtual 169, 3) := by decide +kernel
theorem dX9_blend_97 : decode cX9_blend 97 = .ok (.ifCond .ne 5, 3) := by decide +kernel
theorem dX9_blend_100 : decode cX9_blend 100 = .ok (.iconst (-1), 1) := by decide +kernel
theorem dX9_blend_101 : decode cX9_blend 101 = .ok (.ireturn, 1) := by decide +kernel
theorem dX9_blend_102 : decode cX9_blend 102 = .ok (.aload_n 0, 1) := by decide +kernel
theorem dX9_blend_103 : decode cX9_blend 103 = .ok (.getfield 124, 3) := by decide +kernel
theorem dX9_blend_106 : decode cX9_blend 106 = .ok (.iload 6, 2) := by decide +kernel
theorem dX9_blend_108 : decode cX9_blend 108 = .ok (.iload 7, 2) := by decide +kernel
theorem dX9_blend_110 : decode cX9_blend 110 = .ok (.iastore, 1) := by decide +kernel
theorem dX9_blend_111 : decode cX9_blend 111 = .ok (.iinc 6 1, 3) := by decide +kernel
theorem dX9_blend_114 : decode cX9_blend 114 = .ok (.iinc 7 1, 3) := by decide +kernel
theorem dX9_blend_117 : decode cX9_blend 117 = .ok (.goto (-51), 3) := by decide +kernel
theorem dX9_blend_120 : decode cX9_blend 120 = .ok (.iconst 0, 1) := by decide +kernel
theorem dX9_blend_121 : decode cX9_blend 121 = .ok (.istore 7, 2) := by decide +kernel
theorem dX9_blend_123 : decode cX9_blend 123 = .ok (.iload 7, 2) := by decide +kernel
theorem dX9_blend_125 : decode cX9_blend 125 = .ok (.iconst 4, 1) := by decide +kernel
theorem dX9_blend_126 : decode cX9_blend 126 = .ok (.if_icmp .ge 168, 3) := by decide +kernel
theorem dX9_blend_129 : decode cX9_blend 129 = .ok (.aload_n 0, 1) := by decide +kernel
theorem dX9_blend_130 : decode cX9_blend 130 = .ok (.getfield 127, 3) := by decide +kernel
theorem dX9_blend_133 : decode cX9_blend 133 = .ok (.iload 7, 2) := by decide +kernel
theorem dX9_blend_135 : decode cX9_blend 135 = .ok (.iload 7, 2) := by decide +kernel
theorem dX9_blend_137 : decode cX9_blend 137 = .ok (.iload 6, 2) := by decide +kernel
theorem dX9_blend_139 : decode cX9_blend 139 = .ok (.if_icmp .ge 36, 3) := by decide +kernel
theorem dX9_blend_142 : decode cX9_blend 142 = .ok (.ldc2_w 185, 3) := by decide +kernel
theorem dX9_blend_145 : decode cX9_blend 145 = .ok (.aload_n 0, 1) := by decide +kernel
theorem dX9_blend_146 : decode cX9_blend 146 = .ok (.aload_n 0, 1) := by decide +kernel
theorem dX9_blend_147 : decode cX9_blend 147 = .ok (.getfield 124, 3) := by decide +kernel
theorem dX9_blend_150 : decode cX9_blend 150 = .ok (.iload 7, 2) := by decide +kernel
theorem dX9_blend_152 : decode cX9_blend 152 = .ok (.iaload, 1) := by decide +kernel
theorem dX9_blend_153 : decode cX9_blend 153 = .ok (.iconst 0, 1) := by decide +kernel
theorem dX9_blend_154 : decode cX9_blend 154 = .ok (.invokevirtual 187, 3) := by decide +kernel
theorem dX9_blend_157 : decode cX9_blend 157 = .ok (.lmul, 1) := by decide +kernel
theorem dX9_blend_158 : decode cX9_blend 158 = .ok (.aload_n 0, 1) := by decide +kernel
theorem dX9_blend_159 : decode cX9_blend 159 = .ok (.aload_n 0, 1) := by decide +kernel
theorem dX9_blend_160 : decode cX9_blend 160 = .ok (.getfield 124, 3) := by decide +kernel
theorem dX9_blend_163 : decode cX9_blend 163 = .ok (.iload 7, 2) := by decide +kernel
theorem dX9_blend_165 : decode cX9_blend 165 = .ok (.iaload, 1) := by decide +kernel
theorem dX9_blend_166 : decode cX9_blend 166 = .ok (.invokevirtual 169, 3) := by decide +kernel
theorem dX9_blend_169 : decode cX9_blend 169 = .ok (.i2l, 1) := by decide +kernel
theorem dX9_blend_170 : decode cX9_blend 170 = .ok (.ldiv, 1) := by decide +kernel
theorem dX9_blend_171 : decode cX9_blend 171 = .ok (.l2i, 1) := by decide +kernel
theorem dX9_blend_172 : decode cX9_blend 172 = .ok (.goto 4, 3) := by decide +kernel
theorem dX9_blend_175 : decode cX9_blend 175 = .ok (.iconst 0, 1) := by decide +kernel
theorem dX9_blend_176 : decode cX9_blend 176 = .ok (.iastore, 1) := by decide +kernel
theorem dX9_blend_177 : decode cX9_blend 177 = .ok (.aload_n 0, 1) := by decide +kernel
theorem dX9_blend_178 : decode cX9_blend 178 = .ok (.getfield 130, 3) := by decide +kernel
theorem dX9_blend_181 : decode cX9_blend 181 = .ok (.iload 7, 2) := by decide +kernel
theorem dX9_blend_183 : decode cX9_blend 183 = .ok (.iload 7, 2) := by decide +kernel
theorem dX9_blend_185 : decode cX9_blend 185 = .ok (.iload 6, 2) := by decide +kernel
theorem dX9_blend_187 : decode cX9_blend 187 = .ok (.if_icmp .ge 36, 3) := by decide +kernel
theorem dX9_blend_190 : decode cX9_blend 190 = .ok (.ldc2_w 185, 3) := by decide +kernel
theorem dX9_blend_193 : decode cX9_blend 193 = .ok (.aload_n 0, 1) := by decide +kernel
theorem dX9_blend_194 : decode cX9_blend 194 = .ok (.aload_n 0, 1) := by decide +kernel
theorem dX9_blend_195 : decode cX9_blend 195 = .ok (.getfield 124, 3) := by decide +kernel
theorem dX9_blend_198 : decode cX9_blend 198 = .ok (.iload 7, 2) := by decide +kernel
theorem dX9_blend_200 : decode cX9_blend 200 = .ok (.iaload, 1) := by decide +kernel
theorem dX9_blend_201 : decode cX9_blend 201 = .ok (.iconst 1, 1) := by decide +kernel
theorem dX9_blend_202 : decode cX9_blend 202 = .ok (.invokevirtual 187, 3) := by decide +kernel
theorem dX9_blend_205 : decode cX9_blend 205 = .ok (.lmul, 1) := by decide +kernel
theorem dX9_blend_206 : decode cX9_blend 206 = .ok (.aload_n 0, 1) := by decide +kernel
theorem dX9_blend_207 : decode cX9_blend 207 = .ok (.aload_n 0, 1) := by decide +kernel
theorem dX9_blend_208 : decode cX9_blend 208 = .ok (.getfield 124, 3) := by decide +kernel
theorem dX9_blend_211 : decode cX9_blend 211 = .ok (.iload 7, 2) := by decide +kernel
theorem dX9_blend_213 : decode cX9_blend 213 = .ok (.iaload, 1) := by decide +kernel
theorem dX9_blend_214 : decode cX9_blend 214 = .ok (.invokevirtual 169, 3) := by decide +kernel
theorem dX9_blend_217 : decode cX9_blend 217 = .ok (.i2l, 1) := by decide +kernel
theorem dX9_blend_218 : decode cX9_blend 218 = .ok (.ldiv, 1) := by decide +kernel
theorem dX9_blend_219 : decode cX9_blend 219 = .ok (.l2i, 1) := by decide +kernel
theorem dX9_blend_220 : decode cX9_blend 220 = .ok (.goto 4, 3) := by decide +kernel
theorem dX9_blend_223 : decode cX9_blend 223 = .ok (.iconst 0, 1) := by decide +kernel
theorem dX9_blend_224 : decode cX9_blend 224 = .ok (.iastore, 1) := by decide +kernel
theorem dX9_blend_225 : decode cX9_blend 225 = .ok (.aload_n 0, 1) := by decide +kernel
theorem dX9_blend_226 : decode cX9_blend 226 = .ok (.getfield 133, 3) := by decide +kernel
theorem dX9_blend_229 : decode cX9_blend 229 = .ok (.iload 7, 2) := by decide +kernel
theorem dX9_blend_231 : decode cX9_blend 231 = .ok (.iload 7, 2) := by decide +kernel
theorem dX9_blend_233 : decode cX9_blend 233 = .ok (.iload 6, 2) := by decide +kernel
theorem dX9_blend_235 : decode cX9_blend 235 = .ok (.if_icmp .ge 18, 3) := by decide +kernel
theorem dX9_blend_238 : decode cX9_blend 238 = .ok (.aload_n 0, 1) := by decide +kernel
theorem dX9_blend_239 : decode cX9_blend 239 = .ok (.getfield 47, 3) := by decide +kernel
theorem dX9_blend_242 : decode cX9_blend 242 = .ok (.aload_n 0, 1) := by decide +kernel
theorem dX9_blend_243 : decode cX9_blend 243 = .ok (.getfield 124, 3) := by decide +kernel
theorem dX9_blend_246 : decode cX9_blend 246 = .ok (.iload 7, 2) := by decide +kernel
theorem dX9_blend_248 : decode cX9_blend 248 = .ok (.iaload, 1) := by decide +kernel
theorem dX9_blend_249 : decode cX9_blend 249 = .ok (.iaload, 1) := by decide +kernel
theorem dX9_blend_250 : decode cX9_blend 250 = .ok (.goto 4, 3) := by decide +kernel
theorem dX9_blend_253 : decode cX9_blend 253 = .ok (.iconst 0, 1) := by decide +kernel
theorem dX9_blend_254 : decode cX9_blend 254 = .ok (.iastore, 1) := by decide +kernel
theorem dX9_blend_255 : decode cX9_blend 255 = .ok (.aload_n 0, 1) := by decide +kernel
theorem dX9_blend_256 : decode cX9_blend 256 = .ok (.getfield 136, 3) := by decide +kernel
theorem dX9_blend_259 : decode cX9_blend 259 = .ok (.iload 7, 2) := by decide +kernel
theorem dX9_blend_261 : decode cX9_blend 261 = .ok (.iload 7, 2) := by decide +kernel
theorem dX9_blend_263 : decode cX9_blend 263 = .ok (.iload 6, 2) := by decide +kernel
theorem dX9_blend_265 : decode cX9_blend 265 = .ok (.if_icmp .ge 21, 3) := by decide +kernel
theorem dX9_blend_268 : decode cX9_blend 268 = .ok (.aload_n 0, 1) := by decide +kernel
theorem dX9_blend_269 : decode cX9_blend 269 = .ok (.aload_n 0, 1) := by decide +kernel
theorem dX9_blend_270 : decode cX9_blend 270 = .ok (.getfield 124, 3) := by decide +kernel
theorem dX9_blend_273 : decode cX9_blend 273 = .ok (.iload 7, 2) := by decide +kernel
theorem dX9_blend_275 : decode cX9_blend 275 = .ok (.iaload, 1) := by decide +kernel
theorem dX9_blend_276 : decode cX9_blend 276 = .ok (.invokevirtual 169, 3) := by decide +kernel
theorem dX9_blend_279 : decode cX9_blend 279 = .ok (.sipush 1000, 3) := by decide +kernel
theorem dX9_blend_282 : decode cX9_blend 282 = .ok (.idiv, 1) := by decide +kernel
theorem dX9_blend_283 : decode cX9_blend 283 = .ok (.goto 4, 3) := by decide +kernel
theorem dX9_blend_286 : decode cX9_blend 286 = .ok (.iconst 0, 1) := by decide +kernel
theorem dX9_blend_287 : decode cX9_blend 287 = .ok (.iastore, 1) := by decide +kernel
theorem dX9_blend_288 : decode cX9_blend 288 = .ok (.iinc 7 1, 3) := by decide +kernel
theorem dX9_blend_291 : decode cX9_blend 291 = .ok (.goto (-168), 3) := by decide +kernel
theorem dX9_blend_294 : decode cX9_blend 294 = .ok (.ldc2_w 173, 3) := by decide +kernel
theorem dX9_blend_297 : decode cX9_blend 297 = .ok (.lstore 7, 2) := by decide +kernel
theorem dX9_blend_299 : decode cX9_blend 299 = .ok (.iconst 0, 1) := by decide +kernel
theorem dX9_blend_300 : decode cX9_blend 300 = .ok (.istore 9, 2) := by decide +kernel
theorem dX9_blend_302 : decode cX9_blend 302 = .ok (.iconst 0, 1) := by decide +kernel
theorem dX9_blend_303 : decode cX9_blend 303 = .ok (.istore 10, 2) := by decide +kernel
theorem dX9_blend_305 : decode cX9_blend 305 = .ok (.iload 10, 2) := by decide +kernel
theorem dX9_blend_307 : decode cX9_blend 307 = .ok (.iload_n 2, 1) := by decide +kernel
theorem dX9_blend_308 : decode cX9_blend 308 = .ok (.if_icmp .gt 350, 3) := by decide +kernel
theorem dX9_blend_311 : decode cX9_blend 311 = .ok (.iload 10, 2) := by decide +kernel
theorem dX9_blend_313 : decode cX9_blend 313 = .ok (.aload_n 0, 1) := by decide +kernel
theorem dX9_blend_314 : decode cX9_blend 314 = .ok (.getfield 136, 3) := by decide +kernel
theorem dX9_blend_317 : decode cX9_blend 317 = .ok (.iconst 0, 1) := by decide +kernel
theorem dX9_blend_318 : decode cX9_blend 318 = .ok (.iaload, 1) := by decide +kernel
theorem dX9_blend_319 : decode cX9_blend 319 = .ok (.if_icmp .gt 339, 3) := by decide +kernel
theorem dX9_blend_322 : decode cX9_blend 322 = .ok (.iconst 0, 1) := by decide +kernel
theorem dX9_blend_323 : decode cX9_blend 323 = .ok (.istore 11, 2) := by decide +kernel
theorem dX9_blend_325 : decode cX9_blend 325 = .ok (.iload 10, 2) := by decide +kernel
theorem dX9_blend_327 : decode cX9_blend 327 = .ok (.iload 11, 2) := by decide +kernel
theorem dX9_blend_329 : decode cX9_blend 329 = .ok (.iadd, 1) := by decide +kernel
theorem dX9_blend_330 : decode cX9_blend 330 = .ok (.iload_n 2, 1) := by decide +kernel
theorem dX9_blend_331 : decode cX9_blend 331 = .ok (.if_icmp .gt 321, 3) := by decide +kernel
theorem dX9_blend_334 : decode cX9_blend 334 = .ok (.iload 11, 2) := by decide +kernel
theorem dX9_blend_336 : decode cX9_blend 336 = .ok (.aload_n 0, 1) := by decide +kernel
theorem dX9_blend_337 : decode cX9_blend 337 = .ok (.getfield 136, 3) := by decide +kernel
theorem dX9_blend_340 : decode cX9_blend 340 = .ok (.iconst 1, 1) := by decide +kernel
theorem dX9_blend_341 : decode cX9_blend 341 = .ok (.iaload, 1) := by decide +kernel
theorem dX9_blend_342 : decode cX9_blend 342 = .ok (.if_icmp .gt 310, 3) := by decide +kernel
theorem dX9_blend_345 : decode cX9_blend 345 = .ok (.iconst 0, 1) := by decide +kernel
theorem dX9_blend_346 : decode cX9_blend 346 = .ok (.istore 12, 2) := by decide +kernel
theorem dX9_blend_348 : decode cX9_blend 348 = .ok (.iload 10, 2) := by decide +kernel
theorem dX9_blend_350 : decode cX9_blend 350 = .ok (.iload 11, 2) := by decide +kernel
theorem dX9_blend_352 : decode cX9_blend 352 = .ok (.iadd, 1) := by decide +kernel
theorem dX9_blend_353 : decode cX9_blend 353 = .ok (.iload 12, 2) := by decide +kernel
theorem dX9_blend_355 : decode cX9_blend 355 = .ok (.iadd, 1) := by decide +kernel
theorem dX9_blend_356 : decode cX9_blend 356 = .ok (.iload_n 2, 1) := by decide +kernel
theorem dX9_blend_357 : decode cX9_blend 357 = .ok (.if_icmp .gt 289, 3) := by decide +kernel
theorem dX9_blend_360 : decode cX9_blend 360 = .ok (.iload 12, 2) := by decide +kernel
theorem dX9_blend_362 : decode cX9_blend 362 = .ok (.aload_n 0, 1) := by decide +kernel
theorem dX9_blend_363 : decode cX9_blend 363 = .ok (.getfield 136, 3) := by decide +kernel
theorem dX9_blend_366 : decode cX9_blend 366 = .ok (.iconst 2, 1) := by decide +kernel
theorem dX9_blend_367 : decode cX9_blend 367 = .ok (.iaload, 1) := by decide +kernel
theorem dX9_blend_368 : decode cX9_blend 368 = .ok (.if_icmp .gt 278, 3) := by decide +kernel
theorem dX9_blend_371 : decode cX9_blend 371 = .ok (.iload_n 2, 1) := by decide +kernel
theorem dX9_blend_372 : decode cX9_blend 372 = .ok (.iload 10, 2) := by decide +kernel
theorem dX9_blend_374 : decode cX9_blend 374 = .ok (.isub, 1) := by decide +kernel
theorem dX9_blend_375 : decode cX9_blend 375 = .ok (.iload 11, 2) := by decide +kernel
theorem dX9_blend_377 : decode cX9_blend 377 = .ok (.isub, 1) := by decide +kernel
theorem dX9_blend_378 : decode cX9_blend 378 = .ok (.iload 12, 2) := by decide +kernel
theorem dX9_blend_380 : decode cX9_blend 380 = .ok (.isub, 1) := by decide +kernel
theorem dX9_blend_381 : decode cX9_blend 381 = .ok (.istore 13, 2) := by decide +kernel
theorem dX9_blend_383 : decode cX9_blend 383 = .ok (.iload 13, 2) := by decide +kernel
theorem dX9_blend_385 : decode cX9_blend 385 = .ok (.aload_n 0, 1) := by decide +kernel
theorem dX9_blend_386 : decode cX9_blend 386 = .ok (.getfield 136, 3) := by decide +kernel
theorem dX9_blend_389 : decode cX9_blend 389 = .ok (.iconst 3, 1) := by decide +kernel
theorem dX9_blend_390 : decode cX9_blend 390 = .ok (.iaload, 1) := by decide +kernel
theorem dX9_blend_391 : decode cX9_blend 391 = .ok (.if_icmp .le 6, 3) := by decide +kernel
theorem dX9_blend_394 : decode cX9_blend 394 = .ok (.goto 246, 3) := by decide +kernel
theorem dX9_blend_397 : decode cX9_blend 397 = .ok (.iload 10, 2) := by decide +kernel
theorem dX9_blend_399 : decode cX9_blend 399 = .ok (.i2l, 1) := by decide +kernel
theorem dX9_blend_400 : decode cX9_blend 400 = .ok (.aload_n 0, 1) := by decide +kernel
theorem dX9_blend_401 : decode cX9_blend 401 = .ok (.getfield 127, 3) := by decide +kernel
theorem dX9_blend_404 : decode cX9_blend 404 = .ok (.iconst 0, 1) := by decide +kernel
theorem dX9_blend_405 : decode cX9_blend 405 = .ok (.iaload, 1) := by decide +kernel
theorem dX9_blend_406 : decode cX9_blend 406 = .ok (.i2l, 1) := by decide +kernel
theorem dX9_blend_407 : decode cX9_blend 407 = .ok (.lmul, 1) := by decide +kernel
theorem dX9_blend_408 : decode cX9_blend 408 = .ok (.iload 11, 2) := by decide +kernel
theorem dX9_blend_410 : decode cX9_blend 410 = .ok (.i2l, 1) := by decide +kernel
theorem dX9_blend_411 : decode cX9_blend 411 = .ok (.aload_n 0, 1) := by decide +kernel
theorem dX9_blend_412 : decode cX9_blend 412 = .ok (.getfield 127, 3) := by decide +kernel
theorem dX9_blend_415 : decode cX9_blend 415 = .ok (.iconst 1, 1) := by decide +kernel
theorem dX9_blend_416 : decode cX9_blend 416 = .ok (.iaload, 1) := by decide +kernel
theorem dX9_blend_417 : decode cX9_blend 417 = .ok (.i2l, 1) := by decide +kernel
theorem dX9_blend_418 : decode cX9_blend 418 = .ok (.lmul, 1) := by decide +kernel
theorem dX9_blend_419 : decode cX9_blend 419 = .ok (.ladd, 1) := by decide +kernel
theorem dX9_blend_420 : decode cX9_blend 420 = .ok (.iload 12, 2) := by decide +kernel
theorem dX9_blend_422 : decode cX9_blend 422 = .ok (.i2l, 1) := by decide +kernel
theorem dX9_blend_423 : decode cX9_blend 423 = .ok (.aload_n 0, 1) := by decide +kernel
theorem dX9_blend_424 : decode cX9_blend 424 = .ok (.getfield 127, 3) := by decide +kernel
theorem dX9_blend_427 : decode cX9_blend 427 = .ok (.iconst 2, 1) := by decide +kernel
theorem dX9_blend_428 : decode cX9_blend 428 = .ok (.iaload, 1) := by decide +kernel
theorem dX9_blend_429 : decode cX9_blend 429 = .ok (.i2l, 1) := by decide +kernel
theorem dX9_blend_430 : decode cX9_blend 430 = .ok (.lmul, 1) := by decide +kernel
theorem dX9_blend_431 : decode cX9_blend 431 = .ok (.ladd, 1) := by decide +kernel
theorem dX9_blend_432 : decode cX9_blend 432 = .ok (.iload 13, 2) := by decide +kernel
theorem dX9_blend_434 : decode cX9_blend 434 = .ok (.i2l, 1) := by decide +kernel
theorem dX9_blend_435 : decode cX9_blend 435 = .ok (.aload_n 0, 1) := by decide +kernel
theorem dX9_blend_436 : decode cX9_blend 436 = .ok (.getfield 127, 3) := by decide +kernel
theorem dX9_blend_439 : decode cX9_blend 439 = .ok (.iconst 3, 1) := by decide +kernel
theorem dX9_blend_440 : decode cX9_blend 440 = .ok (.iaload, 1) := by decide +kernel
theorem dX9_blend_441 : decode cX9_blend 441 = .ok (.i2l, 1) := by decide +kernel
theorem dX9_blend_442 : decode cX9_blend 442 = .ok (.lmul, 1) := by decide +kernel
theorem dX9_blend_443 : decode cX9_blend 443 = .ok (.ladd, 1) := by decide +kernel
theorem dX9_blend_444 : decode cX9_blend 444 = .ok (.lstore 14, 2) := by decide +kernel
theorem dX9_blend_446 : decode cX9_blend 446 = .ok (.iload 10, 2) := by decide +kernel
theorem dX9_blend_448 : decode cX9_blend 448 = .ok (.i2l, 1) := by decide +kernel
theorem dX9_blend_449 : decode cX9_blend 449 = .ok (.aload_n 0, 1) := by decide +kernel
theorem dX9_blend_450 : decode cX9_blend 450 = .ok (.getfield 130, 3) := by decide +kernel
theorem dX9_blend_453 : decode cX9_blend 453 = .ok (.iconst 0, 1) := by decide +kernel
theorem dX9_blend_454 : decode cX9_blend 454 = .ok (.iaload, 1) := by decide +kernel
theorem dX9_blend_455 : decode cX9_blend 455 = .ok (.i2l, 1) := by decide +kernel
theorem dX9_blend_456 : decode cX9_blend 456 = .ok (.lmul, 1) := by decide +kernel
theorem dX9_blend_457 : decode cX9_blend 457 = .ok (.iload 11, 2) := by decide +kernel
theorem dX9_blend_459 : decode cX9_blend 459 = .ok (.i2l, 1) := by decide +kernel
theorem dX9_blend_460 : decode cX9_blend 460 = .ok (.aload_n 0, 1) := by decide +kernel
theorem dX9_blend_461 : decode cX9_blend 461 = .ok (.getfield 130, 3) := by decide +kernel
theorem dX9_blend_464 : decode cX9_blend 464 = .ok (.iconst 1, 1) := by decide +kernel
theorem dX9_blend_465 : decode cX9_blend 465 = .ok (.iaload, 1) := by decide +kernel
theorem dX9_blend_466 : decode cX9_blend 466 = .ok (.i2l, 1) := by decide +kernel
theorem dX9_blend_467 : decode cX9_blend 467 = .ok (.lmul, 1) := by decide +kernel
theorem dX9_blend_468 : decode cX9_blend 468 = .ok (.ladd, 1) := by decide +kernel
theorem dX9_blend_469 : decode cX9_blend 469 = .ok (.iload 12, 2) := by decide +kernel
theorem dX9_blend_471 : decode cX9_blend 471 = .ok (.i2l, 1) := by decide +kernel
theorem dX9_blend_472 : decode cX9_blend 472 = .ok (.aload_n 0, 1) := by decide +kernel
theorem dX9_blend_473 : decode cX9_blend 473 = .ok (.getfield 130, 3) := by decide +kernel
theorem dX9_blend_476 : decode cX9_blend 476 = .ok (.iconst 2, 1) := by decide +kernel
theorem dX9_blend_477 : decode cX9_blend 477 = .ok (.iaload, 1) := by decide +kernel
theorem dX9_blend_478 : decode cX9_blend 478 = .ok (.i2l, 1) := by decide +kernel
theorem dX9_blend_479 : decode cX9_blend 479 = .ok (.lmul, 1) := by decide +kernel
theorem dX9_blend_480 : decode cX9_blend 480 = .ok (.ladd, 1) := by decide +kernel
theorem dX9_blend_481 : decode cX9_blend 481 = .ok (.iload 13, 2) := by decide +kernel
theorem dX9_blend_483 : decode cX9_blend 483 = .ok (.i2l, 1) := by decide +kernel
theorem dX9_blend_484 : decode cX9_blend 484 = .ok (.aload_n 0, 1) := by decide +kernel
theorem dX9_blend_485 : decode cX9_blend 485 = .ok (.getfield 130, 3) := by decide +kernel
theorem dX9_blend_488 : decode cX9_blend 488 = .ok (.iconst 3, 1) := by decide +kernel
theorem dX9_blend_489 : decode cX9_blend 489 = .ok (.iaload, 1) := by decide +kernel
theorem dX9_blend_490 : decode cX9_blend 490 = .ok (.i2l, 1) := by decide +kernel
theorem dX9_blend_491 : decode cX9_blend 491 = .ok (.lmul, 1) := by decide +kernel
theorem dX9_blend_492 : decode cX9_blend 492 = .ok (.ladd, 1) := by decide +kernel
theorem dX9_blend_493 : decode cX9_blend 493 = .ok (.lstore 16, 2) := by decide +kernel
theorem dX9_blend_495 : decode cX9_blend 495 = .ok (.lload 14, 2) := by decide +kernel
theorem dX9_blend_497 : decode cX9_blend 497 = .ok (.ldc2_w 185, 3) := by decide +kernel
theorem dX9_blend_500 : decode cX9_blend 500 = .ok (.iload_n 2, 1) := by decide +kernel
theorem dX9_blend_501 : decode cX9_blend 501 = .ok (.i2l, 1) := by decide +kernel
theorem dX9_blend_502 : decode cX9_blend 502 = .ok (.lmul, 1) := by decide +kernel
theorem dX9_blend_503 : decode cX9_blend 503 = .ok (.iload_n 3, 1) := by decide +kernel
theorem dX9_blend_504 : decode cX9_blend 504 = .ok (.i2l, 1) := by decide +kernel
theorem dX9_blend_505 : decode cX9_blend 505 = .ok (.lmul, 1) := by decide +kernel
theorem dX9_blend_506 : decode cX9_blend 506 = .ok (.lcmp, 1) := by decide +kernel
theorem dX9_blend_507 : decode cX9_blend 507 = .ok (.ifCond .gt 133, 3) := by decide +kernel
theorem dX9_blend_510 : decode cX9_blend 510 = .ok (.lload 16, 2) := by decide +kernel
theorem dX9_blend_512 : decode cX9_blend 512 = .ok (.ldc2_w 185, 3) := by decide +kernel
theorem dX9_blend_515 : decode cX9_blend 515 = .ok (.iload_n 2, 1) := by decide +kernel
theorem dX9_blend_516 : decode cX9_blend 516 = .ok (.i2l, 1) := by decide +kernel
theorem dX9_blend_517 : decode cX9_blend 517 = .ok (.lmul, 1) := by decide +kernel
theorem dX9_blend_518 : decode cX9_blend 518 = .ok (.iload 4, 2) := by decide +kernel
theorem dX9_blend_520 : decode cX9_blend 520 = .ok (.i2l, 1) := by decide +kernel
theorem dX9_blend_521 : decode cX9_blend 521 = .ok (.lmul, 1) := by decide +kernel
theorem dX9_blend_522 : decode cX9_blend 522 = .ok (.lcmp, 1) := by decide +kernel
theorem dX9_blend_523 : decode cX9_blend 523 = .ok (.ifCond .lt 117, 3) := by decide +kernel
theorem dX9_blend_526 : decode cX9_blend 526 = .ok (.lload 16, 2) := by decide +kernel
theorem dX9_blend_528 : decode cX9_blend 528 = .ok (.ldc2_w 185, 3) := by decide +kernel
theorem dX9_blend_531 : decode cX9_blend 531 = .ok (.iload_n 2, 1) := by decide +kernel
theorem dX9_blend_532 : decode cX9_blend 532 = .ok (.i2l, 1) := by decide +kernel
theorem dX9_blend_533 : decode cX9_blend 533 = .ok (.lmul, 1) := by decide +kernel
theorem dX9_blend_534 : decode cX9_blend 534 = .ok (.iload 5, 2) := by decide +kernel
theorem dX9_blend_536 : decode cX9_blend 536 = .ok (.i2l, 1) := by decide +kernel
theorem dX9_blend_537 : decode cX9_blend 537 = .ok (.lmul, 1) := by decide +kernel
theorem dX9_blend_538 : decode cX9_blend 538 = .ok (.lcmp, 1) := by decide +kernel
theorem dX9_blend_539 : decode cX9_blend 539 = .ok (.ifCond .le 6, 3) := by decide +kernel
theorem dX9_blend_542 : decode cX9_blend 542 = .ok (.goto 98, 3) := by decide +kernel
theorem dX9_blend_545 : decode cX9_blend 545 = .ok (.iload 10, 2) := by decide +kernel
theorem dX9_blend_547 : decode cX9_blend 547 = .ok (.i2l, 1) := by decide +kernel
theorem dX9_blend_548 : decode cX9_blend 548 = .ok (.aload_n 0, 1) := by decide +kernel
theorem dX9_blend_549 : decode cX9_blend 549 = .ok (.getfield 133, 3) := by decide +kernel
theorem dX9_blend_552 : decode cX9_blend 552 = .ok (.iconst 0, 1) := by decide +kernel
theorem dX9_blend_553 : decode cX9_blend 553 = .ok (.iaload, 1) := by decide +kernel
theorem dX9_blend_554 : decode cX9_blend 554 = .ok (.i2l, 1) := by decide +kernel
theorem dX9_blend_555 : decode cX9_blend 555 = .ok (.lmul, 1) := by decide +kernel
theorem dX9_blend_556 : decode cX9_blend 556 = .ok (.iload 11, 2) := by decide +kernel
theorem dX9_blend_558 : decode cX9_blend 558 = .ok (.i2l, 1) := by decide +kernel
theorem dX9_blend_559 : decode cX9_blend 559 = .ok (.aload_n 0, 1) := by decide +kernel
theorem dX9_blend_560 : decode cX9_blend 560 = .ok (.getfield 133, 3) := by decide +kernel
theorem dX9_blend_563 : decode cX9_blend 563 = .ok (.iconst 1, 1) := by decide +kernel
theorem dX9_blend_564 : decode cX9_blend 564 = .ok (.iaload, 1) := by decide +kernel
theorem dX9_blend_565 : decode cX9_blend 565 = .ok (.i2l, 1) := by decide +kernel
theorem dX9_blend_566 : decode cX9_blend 566 = .ok (.lmul, 1) := by decide +kernel
theorem dX9_blend_567 : decode cX9_blend 567 = .ok (.ladd, 1) := by decide +kernel
theorem dX9_blend_568 : decode cX9_blend 568 = .ok (.iload 12, 2) := by decide +kernel
theorem dX9_blend_570 : decode cX9_blend 570 = .ok (.i2l, 1) := by decide +kernel
theorem dX9_blend_571 : decode cX9_blend 571 = .ok (.aload_n 0, 1) := by decide +kernel
theorem dX9_blend_572 : decode cX9_blend 572 = .ok (.getfield 133, 3) := by decide +kernel
theorem dX9_blend_575 : decode cX9_blend 575 = .ok (.iconst 2, 1) := by decide +kernel
theorem dX9_blend_576 : decode cX9_blend 576 = .ok (.iaload, 1) := by decide +kernel
theorem dX9_blend_577 : decode cX9_blend 577 = .ok (.i2l, 1) := by decide +kernel
theorem dX9_blend_578 : decode cX9_blend 578 = .ok (.lmul, 1) := by decide +kernel
theorem dX9_blend_579 : decode cX9_blend 579 = .ok (.ladd, 1) := by decide +kernel
theorem dX9_blend_580 : decode cX9_blend 580 = .ok (.iload 13, 2) := by decide +kernel
theorem dX9_blend_582 : decode cX9_blend 582 = .ok (.i2l, 1) := by decide +kernel
theorem dX9_blend_583 : decode cX9_blend 583 = .ok (.aload_n 0, 1) := by decide +kernel
theorem dX9_blend_584 : decode cX9_blend 584 = .ok (.getfield 133, 3) := by decide +kernel
theorem dX9_blend_587 : decode cX9_blend 587 = .ok (.iconst 3, 1) := by decide +kernel
theorem dX9_blend_588 : decode cX9_blend 588 = .ok (.iaload, 1) := by decide +kernel
theorem dX9_blend_589 : decode cX9_blend 589 = .ok (.i2l, 1) := by decide +kernel
theorem dX9_blend_590 : decode cX9_blend 590 = .ok (.lmul, 1) := by decide +kernel
theorem dX9_blend_591 : decode cX9_blend 591 = .ok (.ladd, 1) := by decide +kernel
theorem dX9_blend_592 : decode cX9_blend 592 = .ok (.lstore 18, 2) := by decide +kernel
theorem dX9_blend_594 : decode cX9_blend 594 = .ok (.lload 7, 2) := by decide +kernel
theorem dX9_blend_596 : decode cX9_blend 596 = .ok (.lconst 0, 1) := by decide +kernel
theorem dX9_blend_597 : decode cX9_blend 597 = .ok (.lcmp, 1) := by decide +kernel
theorem dX9_blend_598 : decode cX9_blend 598 = .ok (.ifCond .lt 14, 3) := by decide +kernel
theorem dX9_blend_601 : decode cX9_blend 601 = .ok (.lload 18, 2) := by decide +kernel
theorem dX9_blend_603 : decode cX9_blend 603 = .ok (.lload 7, 2) := by decide +kernel
theorem dX9_blend_605 : decode cX9_blend 605 = .ok (.lcmp, 1) := by decide +kernel
theorem dX9_blend_606 : decode cX9_blend 606 = .ok (.ifCond .lt 6, 3) := by decide +kernel
theorem dX9_blend_609 : decode cX9_blend 609 = .ok (.goto 31, 3) := by decide +kernel
theorem dX9_blend_612 : decode cX9_blend 612 = .ok (.lload 18, 2) := by decide +kernel
theorem dX9_blend_614 : decode cX9_blend 614 = .ok (.lstore 7, 2) := by decide +kernel
theorem dX9_blend_616 : decode cX9_blend 616 = .ok (.ldc_w 292, 3) := by decide +kernel
theorem dX9_blend_619 : decode cX9_blend 619 = .ok (.iload 10, 2) := by decide +kernel
theorem dX9_blend_621 : decode cX9_blend 621 = .ok (.imul, 1) := by decide +kernel
theorem dX9_blend_622 : decode cX9_blend 622 = .ok (.sipush 1681, 3) := by decide +kernel
theorem dX9_blend_625 : decode cX9_blend 625 = .ok (.iload 11, 2) := by decide +kernel
theorem dX9_blend_627 : decode cX9_blend 627 = .ok (.imul, 1) := by decide +kernel
theorem dX9_blend_628 : decode cX9_blend 628 = .ok (.iadd, 1) := by decide +kernel
theorem dX9_blend_629 : decode cX9_blend 629 = .ok (.bipush 41, 2) := by decide +kernel
theorem dX9_blend_631 : decode cX9_blend 631 = .ok (.iload 12, 2) := by decide +kernel
theorem dX9_blend_633 : decode cX9_blend 633 = .ok (.imul, 1) := by decide +kernel
theorem dX9_blend_634 : decode cX9_blend 634 = .ok (.iadd, 1) := by decide +kernel
theorem dX9_blend_635 : decode cX9_blend 635 = .ok (.iload 13, 2) := by decide +kernel
theorem dX9_blend_637 : decode cX9_blend 637 = .ok (.iadd, 1) := by decide +kernel
theorem dX9_blend_638 : decode cX9_blend 638 = .ok (.istore 9, 2) := by decide +kernel
theorem dX9_blend_640 : decode cX9_blend 640 = .ok (.iinc 12 1, 3) := by decide +kernel
theorem dX9_blend_643 : decode cX9_blend 643 = .ok (.goto (-295), 3) := by decide +kernel
theorem dX9_blend_646 : decode cX9_blend 646 = .ok (.iinc 11 1, 3) := by decide +kernel
theorem dX9_blend_649 : decode cX9_blend 649 = .ok (.goto (-324), 3) := by decide +kernel
theorem dX9_blend_652 : decode cX9_blend 652 = .ok (.iinc 10 1, 3) := by decide +kernel
theorem dX9_blend_655 : decode cX9_blend 655 = .ok (.goto (-350), 3) := by decide +kernel
theorem dX9_blend_658 : decode cX9_blend 658 = .ok (.lload 7, 2) := by decide +kernel
theorem dX9_blend_660 : decode cX9_blend 660 = .ok (.lconst 0, 1) := by decide +kernel
theorem dX9_blend_661 : decode cX9_blend 661 = .ok (.lcmp, 1) := by decide +kernel
theorem dX9_blend_662 : decode cX9_blend 662 = .ok (.ifCond .ge 6, 3) := by decide +kernel
theorem dX9_blend_665 : decode cX9_blend 665 = .ok (.bipush (-2), 2) := by decide +kernel
theorem dX9_blend_667 : decode cX9_blend 667 = .ok (.ireturn, 1) := by decide +kernel
theorem dX9_blend_668 : decode cX9_blend 668 = .ok (.aload_n 0, 1) := by decide +kernel
theorem dX9_blend_669 : decode cX9_blend 669 = .ok (.iconst 1, 1) := by decide +kernel
theorem dX9_blend_670 : decode cX9_blend 670 = .ok (.putfield 117, 3) := by decide +kernel
theorem dX9_blend_673 : decode cX9_blend 673 = .ok (.iconst 0, 1) := by decide +kernel
theorem dX9_blend_674 : decode cX9_blend 674 = .ok (.istore 10, 2) := by decide +kernel
theorem dX9_blend_676 : decode cX9_blend 676 = .ok (.iload 10, 2) := by decide +kernel
theorem dX9_blend_678 : decode cX9_blend 678 = .ok (.bipush 10, 2) := by decide +kernel
theorem dX9_blend_680 : decode cX9_blend 680 = .ok (.if_icmp .ge 17, 3) := by decide +kernel
theorem dX9_blend_683 : decode cX9_blend 683 = .ok (.aload_n 0, 1) := by decide +kernel
theorem dX9_blend_684 : decode cX9_blend 684 = .ok (.getfield 121, 3) := by decide +kernel
theorem dX9_blend_687 : decode cX9_blend 687 = .ok (.iload 10, 2) := by decide +kernel
theorem dX9_blend_689 : decode cX9_blend 689 = .ok (.iconst 0, 1) := by decide +kernel
theorem dX9_blend_690 : decode cX9_blend 690 = .ok (.iastore, 1) := by decide +kernel
theorem dX9_blend_691 : decode cX9_blend 691 = .ok (.iinc 10 1, 3) := by decide +kernel
theorem dX9_blend_694 : decode cX9_blend 694 = .ok (.goto (-18), 3) := by decide +kernel
theorem dX9_blend_697 : decode cX9_blend 697 = .ok (.iconst 0, 1) := by decide +kernel
theorem dX9_blend_698 : decode cX9_blend 698 = .ok (.istore 10, 2) := by decide +kernel
theorem dX9_blend_700 : decode cX9_blend 700 = .ok (.iload 10, 2) := by decide +kernel
theorem dX9_blend_702 : decode cX9_blend 702 = .ok (.iload 6, 2) := by decide +kernel
theorem dX9_blend_704 : decode cX9_blend 704 = .ok (.if_icmp .ge 75, 3) := by decide +kernel
theorem dX9_blend_707 : decode cX9_blend 707 = .ok (.aload_n 0, 1) := by decide +kernel
theorem dX9_blend_708 : decode cX9_blend 708 = .ok (.getfield 121, 3) := by decide +kernel
theorem dX9_blend_711 : decode cX9_blend 711 = .ok (.aload_n 0, 1) := by decide +kernel
theorem dX9_blend_712 : decode cX9_blend 712 = .ok (.getfield 124, 3) := by decide +kernel
theorem dX9_blend_715 : decode cX9_blend 715 = .ok (.iload 10, 2) := by decide +kernel
theorem dX9_blend_717 : decode cX9_blend 717 = .ok (.iaload, 1) := by decide +kernel
theorem dX9_blend_718 : decode cX9_blend 718 = .ok (.iload 10, 2) := by decide +kernel
theorem dX9_blend_720 : decode cX9_blend 720 = .ok (.ifCond .ne 12, 3) := by decide +kernel
theorem dX9_blend_723 : decode cX9_blend 723 = .ok (.iload 9, 2) := by decide +kernel
theorem dX9_blend_725 : decode cX9_blend 725 = .ok (.ldc_w 292, 3) := by decide +kernel
theorem dX9_blend_728 : decode cX9_blend 728 = .ok (.idiv, 1) := by decide +kernel
theorem dX9_blend_729 : decode cX9_blend 729 = .ok (.goto 43, 3) := by decide +kernel
theorem dX9_blend_732 : decode cX9_blend 732 = .ok (.iload 10, 2) := by decide +kernel
theorem dX9_blend_734 : decode cX9_blend 734 = .ok (.iconst 1, 1) := by decide +kernel
theorem dX9_blend_735 : decode cX9_blend 735 = .ok (.if_icmp .ne 15, 3) := by decide +kernel
theorem dX9_blend_738 : decode cX9_blend 738 = .ok (.iload 9, 2) := by decide +kernel
theorem dX9_blend_740 : decode cX9_blend 740 = .ok (.sipush 1681, 3) := by decide +kernel
theorem dX9_blend_743 : decode cX9_blend 743 = .ok (.idiv, 1) := by decide +kernel
theorem dX9_blend_744 : decode cX9_blend 744 = .ok (.bipush 41, 2) := by decide +kernel
theorem dX9_blend_746 : decode cX9_blend 746 = .ok (.irem, 1) := by decide +kernel
theorem dX9_blend_747 : decode cX9_blend 747 = .ok (.goto 25, 3) := by decide +kernel
theorem dX9_blend_750 : decode cX9_blend 750 = .ok (.iload 10, 2) := by decide +kernel
theorem dX9_blend_752 : decode cX9_blend 752 = .ok (.iconst 2, 1) := by decide +kernel
theorem dX9_blend_753 : decode cX9_blend 753 = .ok (.if_icmp .ne 14, 3) := by decide +kernel
theorem dX9_blend_756 : decode cX9_blend 756 = .ok (.iload 9, 2) := by decide +kernel
theorem dX9_blend_758 : decode cX9_blend 758 = .ok (.bipush 41, 2) := by decide +kernel
theorem dX9_blend_760 : decode cX9_blend 760 = .ok (.idiv, 1) := by decide +kernel
theorem dX9_blend_761 : decode cX9_blend 761 = .ok (.bipush 41, 2) := by decide +kernel
theorem dX9_blend_763 : decode cX9_blend 763 = .ok (.irem, 1) := by decide +kernel
theorem dX9_blend_764 : decode cX9_blend 764 = .ok (.goto 8, 3) := by decide +kernel
theorem dX9_blend_767 : decode cX9_blend 767 = .ok (.iload 9, 2) := by decide +kernel
theorem dX9_blend_769 : decode cX9_blend 769 = .ok (.bipush 41, 2) := by decide +kernel
theorem dX9_blend_771 : decode cX9_blend 771 = .ok (.irem, 1) := by decide +kernel
theorem dX9_blend_772 : decode cX9_blend 772 = .ok (.iastore, 1) := by decide +kernel
theorem dX9_blend_773 : decode cX9_blend 773 = .ok (.iinc 10 1, 3) := by decide +kernel
theorem dX9_blend_776 : decode cX9_blend 776 = .ok (.goto (-76), 3) := by decide +kernel
theorem dX9_blend_779 : decode cX9_blend 779 = .ok (.lload 7, 2) := by decide +kernel
theorem dX9_blend_781 : decode cX9_blend 781 = .ok (.l2i, 1) := by decide +kernel
theorem dX9_blend_782 : decode cX9_blend 782 = .ok (.ireturn, 1) := by decide +kernel
set_option maxRecDepth 20000 in
theorem ggX9_blend_X9_is : GoodIn wsX9_blend wsX9_is := goodIn_r _ [15] rfl (by decide +kernel)
set_option maxRecDepth 20000 in
theorem gX9_blend_X9_is : GoodIn wsX9_blend (va_wsS RX9 151 yX9_is wsX9_is) := goodIn_app (goodIn_of _ (by decide +kernel)) ggX9_blend_X9_is
set_option maxRecDepth 20000 in
theorem ggX9_blend_X9_sum : GoodIn wsX9_blend wsX9_sum := goodIn_r _ [25, 20, 26, 27, 28, 21, 29, 30, 31, 32, 33, 34, 35, 36, 37, 38, 39, 40, 41, 42, 43, 44, 45, 46, 47, 48, 49, 50, 51, 52, 53, 54, 55, 56, 57, 58, 59, 60, 61, 62, 63, 64, 65, 66, 67, 68, 69, 70, 71, 72] rfl (by decide +kernel)
set_option maxRecDepth 20000 in
theorem gX9_blend_X9_sum : GoodIn wsX9_blend (wsV RX9 187 RX9 yX9_sum wsX9_sum) := goodIn_app (goodIn_of _ (by decide +kernel)) ggX9_blend_X9_sum
set_option maxRecDepth 20000 in
theorem ggX9_blend_X9_all : GoodIn wsX9_blend wsX9_all := goodIn_r _ [19, 20, 21, 29, 30, 31, 32, 33, 34, 35, 36, 37, 38, 39, 40, 41, 42, 43, 44, 45, 46, 47, 48, 49, 50, 51, 52, 53, 54, 55, 56, 57, 58, 59, 60, 61, 62, 63, 64, 65, 66, 67, 68, 69, 70, 71, 72] rfl (by decide +kernel)
set_option maxRecDepth 20000 in
theorem gX9_blend_X9_all : GoodIn wsX9_blend (wsV RX9 169 RX9 yX9_all wsX9_all) := goodIn_app (goodIn_of _ (by decide +kernel)) ggX9_blend_X9_all
set_option maxHeartbeats 4000000 in
set_option maxRecDepth 100000 in
theorem m_blend (l : Launch) (D : va_G) (h0 : Nat) (ad : Nat → Nat) (cs : Nat → ClassId) (iv : Nat → Int32) (fv : Nat → Nat → Int32) (gv : Nat → Int64) (n3 : Nat) (a1 a2 a3 a4 a5 : Int32) (sz : Nat) (h3 : iv 3 = nI n3) (b3 : n3 ≤ 40) : Met l yX9_blend wsX9_blend ({ frames := 1, cells := 0, slots := 0, locals := 26 }) (va_Pc [.ref h0, .int a1, .int a2, .int a3, .int a4, .int a5] (fun U => U.heap.size = sz ∧ va_P D vwCl (mw h0 ad cs iv fv gv) U.heap ∧ va_K D vwCl (mT cs) U ∧ va_D (fun _ => True) (mw h0 ad cs iv fv gv))) (va_Qi (fun (r u : Int32) => r = u) (fun (r : Int32) (t : State) => ∃ (i35 : Int32) (f36 : Nat → Int32) (f37 : Nat → Int32) (f38 : Nat → Int32) (f39 : Nat → Int32) (f40 : Nat → Int32) (f41 : Nat → Int32), va_P D vwCl (mw h0 ad cs (upd iv 35 i35) (uF (uF (uF (uF (uF (uF fv 36 f36) 37 f37) 38 f38) 39 f39) 40 f40) 41 f41) gv) t.heap ∧ va_K D vwCl (mT cs) t ∧ va_D (va_A (mw h0 ad cs iv fv gv) sz) (mw h0 ad cs (upd iv 35 i35) (uF (uF (uF (uF (uF (uF fv 36 f36) 37 f37) 38 f38) 39 f39) 40 f40) 41 f41) gv)) (va_A (mw h0 ad cs iv fv gv) sz)) 0 0 (va_A (mw h0 ad cs iv fv gv) sz) := by
  refine Met.ofW (cc := cX9_blend) (maxL := 20) (ret := (some .int)) (by decide) rfl ?_
  intro p e s m args below meth c s₁ B hml hv
  obtain ⟨rfl, hsz, hP, hK, hD0⟩ := hv
  have hx := B.exec
  have hb := B.bytes
  have hr := B.returns
  have hts := atoms_spec (ws := wsX9_blend) B.pre
  have hown : s.vm.findClass RX9 = some m.cls := findClass_of_methodNamed B.named
  have hlocks := B.notSynchronized
  subst hsz
  have hD := hD0.self (sz := s.heap.size)
  generalize hAe : va_A (mw h0 ad cs iv fv gv) s.heap.size = A at hD ⊢
  have hA : ∀ q : Nat, s.heap.size ≤ q → A q := fun q h => by rw [← hAe]; exact Or.inr h
  have hS : va_S A s.heap s.heap [] := va_S.rf
  have hin9 : ∀ w ∈ u_ws RX9 TX9 44, w ∈ wsX9_blend := (fun _ h9 => List.mem_cons_of_mem _ ((List.mem_append_right _ h9)))
  have hl := lv_entry ([.ref h0, .int a1, .int a2, .int a3, .int a4, .int a5]) (n := 20) (Nat.le_of_ble_eq_true rfl)
  rw [lg_entry_eq]
  generalize (lg_sl ([.ref h0, .int a1, .int a2, .int a3, .int a4, .int a5]) ++ List.replicate (20 - (lg_sl ([.ref h0, .int a1, .int a2, .int a3, .int a4, .int a5])).length) Slot.unset).toArray = ls at hl ⊢
  have hl : lv_has ls 20 [(0, .ref h0), (1, .int a1), (2, .int a2), (3, .int a3), (4, .int a4), (5, .int a5)] := hl
  refine lv_iload_n hx hb dX9_blend_0 rfl (lv_at hl 1 rfl) ?_
  refine lv_iconst (v := 1) hx hb dX9_blend_1 (by decide) ?_
  refine lv_icmp_lt (tgt := 58) hx hb dX9_blend_2 (by decide) (fun c_1 => ?_) (fun c_1 => ?_)
  · refine lv_iconst (v := (-1)) hx hb dX9_blend_58 (by decide) ?_
    have hP : va_P D vwCl (mw h0 ad cs (upd iv 35 (iv 35)) (uF (uF (uF (uF (uF (uF fv 36 (fv 36)) 37 (fv 37)) 38 (fv 38)) 39 (fv 39)) 40 (fv 40)) 41 (fv 41)) gv) s.heap := hP
    have hD : va_D A (mw h0 ad cs (upd iv 35 (iv 35)) (uF (uF (uF (uF (uF (uF fv 36 (fv 36)) 37 (fv 37)) 38 (fv 38)) 39 (fv 39)) 40 (fv 40)) 41 (fv 41)) gv) := hD
    exact W.iret (v := (-1)) hx hb hr (fun t ht hW => ⟨⟨(-1), (-1), rfl, rfl, iv 35, fv 36, fv 37, fv 38, fv 39, fv 40, fv 41, by rw [ht]; exact hP, va_K.moved hW.alike hK, hD⟩, hS.F ht⟩) hS.2.2 dX9_blend_59
  refine lv_iload_n hx hb dX9_blend_5 rfl (lv_at hl 1 rfl) ?_
  refine lv_sipush (v := 1023) hx hb dX9_blend_6 (by decide) ?_
  refine lv_icmp_gt (tgt := 58) hx hb dX9_blend_9 (by decide) (fun c_2 => ?_) (fun c_2 => ?_)
  · refine lv_iconst (v := (-1)) hx hb dX9_blend_58 (by decide) ?_
    have hP : va_P D vwCl (mw h0 ad cs (upd iv 35 (iv 35)) (uF (uF (uF (uF (uF (uF fv 36 (fv 36)) 37 (fv 37)) 38 (fv 38)) 39 (fv 39)) 40 (fv 40)) 41 (fv 41)) gv) s.heap := hP
    have hD : va_D A (mw h0 ad cs (upd iv 35 (iv 35)) (uF (uF (uF (uF (uF (uF fv 36 (fv 36)) 37 (fv 37)) 38 (fv 38)) 39 (fv 39)) 40 (fv 40)) 41 (fv 41)) gv) := hD
    exact W.iret (v := (-1)) hx hb hr (fun t ht hW => ⟨⟨(-1), (-1), rfl, rfl, iv 35, fv 36, fv 37, fv 38, fv 39, fv 40, fv 41, by rw [ht]; exact hP, va_K.moved hW.alike hK, hD⟩, hS.F ht⟩) hS.2.2 dX9_blend_59
  refine lv_iload_n hx hb dX9_blend_12 rfl (lv_at hl 2 rfl) ?_
  refine lv_iconst (v := 1) hx hb dX9_blend_13 (by decide) ?_
  refine lv_bipush (v := 40) hx hb dX9_blend_14 (by decide) ?_
  refine vp_callSi (W.runS (As := [.int a2, .int 1, .int 40]) (rest := []) ⟨hx, hb, hml, hown, hts⟩ (s_X9_is l a2 1 40) (va_cwS 3 hts gX9_blend_X9_is rfl rfl rfl (by decide +kernel) ⟨Nat.le_of_ble_eq_true rfl, Nat.le_of_ble_eq_true rfl⟩) ⟨fun a U g mk q => q, fun U hU hW => ⟨rfl, trivial⟩⟩ rfl rfl hl.1 rfl (lv_room (Nat.le_of_ble_eq_true rfl)) dX9_blend_16 ⟨Nat.le_of_ble_eq_true rfl, Nat.le_of_ble_eq_true rfl⟩) (fun r_3 k_4 => ?_)
  rcases k_4 with ⟨rfl, o_5⟩ | ⟨rfl, a_6, b_7⟩
  · refine lv_if_eq (tgt := 58) hx hb dX9_blend_19 (by decide) (fun c_8 => ?_) (fun c_8 => absurd (by decide) c_8)
    refine lv_iconst (v := (-1)) hx hb dX9_blend_58 (by decide) ?_
    have hP : va_P D vwCl (mw h0 ad cs (upd iv 35 (iv 35)) (uF (uF (uF (uF (uF (uF fv 36 (fv 36)) 37 (fv 37)) 38 (fv 38)) 39 (fv 39)) 40 (fv 40)) 41 (fv 41)) gv) s.heap := hP
    have hD : va_D A (mw h0 ad cs (upd iv 35 (iv 35)) (uF (uF (uF (uF (uF (uF fv 36 (fv 36)) 37 (fv 37)) 38 (fv 38)) 39 (fv 39)) 40 (fv 40)) 41 (fv 41)) gv) := hD
    exact W.iret (v := (-1)) hx hb hr (fun t ht hW => ⟨⟨(-1), (-1), rfl, rfl, iv 35, fv 36, fv 37, fv 38, fv 39, fv 40, fv 41, by rw [ht]; exact hP, va_K.moved hW.alike hK, hD⟩, hS.F ht⟩) hS.2.2 dX9_blend_59
  obtain ⟨j_9, hj_10, hj_11, rfl⟩ := is_nat (a := 1) (b := 40) a_6 b_7 (by omega)
  refine lv_if_eq (tgt := 58) hx hb dX9_blend_19 (by decide) (fun c_12 => absurd c_12 (by decide)) (fun c_12 => ?_)
  refine lv_iload_n hx hb dX9_blend_22 rfl (lv_at hl 3 rfl) ?_
  refine lv_iconst (v := 0) hx hb dX9_blend_23 (by decide) ?_
  refine lv_sipush (v := 300) hx hb dX9_blend_24 (by decide) ?_
  refine vp_callSi (W.runS (As := [.int a3, .int 0, .int 300]) (rest := []) ⟨hx, hb, hml, hown, hts⟩ (s_X9_is l a3 0 300) (va_cwS 3 hts gX9_blend_X9_is rfl rfl rfl (by decide +kernel) ⟨Nat.le_of_ble_eq_true rfl, Nat.le_of_ble_eq_true rfl⟩) ⟨fun a U g mk q => q, fun U hU hW => ⟨rfl, trivial⟩⟩ rfl rfl hl.1 rfl (lv_room (Nat.le_of_ble_eq_true rfl)) dX9_blend_27 ⟨Nat.le_of_ble_eq_true rfl, Nat.le_of_ble_eq_true rfl⟩) (fun r_13 k_14 => ?_)
  rcases k_14 with ⟨rfl, o_15⟩ | ⟨rfl, a_16, b_17⟩
  · refine lv_if_eq (tgt := 58) hx hb dX9_blend_30 (by decide) (fun c_18 => ?_) (fun c_18 => absurd (by decide) c_18)
    refine lv_iconst (v := (-1)) hx hb dX9_blend_58 (by decide) ?_
    have hP : va_P D vwCl (mw h0 ad cs (upd iv 35 (iv 35)) (uF (uF (uF (uF (uF (uF fv 36 (fv 36)) 37 (fv 37)) 38 (fv 38)) 39 (fv 39)) 40 (fv 40)) 41 (fv 41)) gv) s.heap := hP
    have hD : va_D A (mw h0 ad cs (upd iv 35 (iv 35)) (uF (uF (uF (uF (uF (uF fv 36 (fv 36)) 37 (fv 37)) 38 (fv 38)) 39 (fv 39)) 40 (fv 40)) 41 (fv 41)) gv) := hD
    exact W.iret (v := (-1)) hx hb hr (fun t ht hW => ⟨⟨(-1), (-1), rfl, rfl, iv 35, fv 36, fv 37, fv 38, fv 39, fv 40, fv 41, by rw [ht]; exact hP, va_K.moved hW.alike hK, hD⟩, hS.F ht⟩) hS.2.2 dX9_blend_59
  obtain ⟨j_19, hj_20, hj_21, rfl⟩ := is_nat (a := 0) (b := 300) a_16 b_17 (by omega)
  refine lv_if_eq (tgt := 58) hx hb dX9_blend_30 (by decide) (fun c_22 => absurd c_22 (by decide)) (fun c_22 => ?_)
  refine lv_iload hx hb dX9_blend_33 (lv_at hl 4 rfl) ?_
  refine lv_iconst (v := 0) hx hb dX9_blend_35 (by decide) ?_
  refine lv_sipush (v := 140) hx hb dX9_blend_36 (by decide) ?_
  refine vp_callSi (W.runS (As := [.int a4, .int 0, .int 140]) (rest := []) ⟨hx, hb, hml, hown, hts⟩ (s_X9_is l a4 0 140) (va_cwS 3 hts gX9_blend_X9_is rfl rfl rfl (by decide +kernel) ⟨Nat.le_of_ble_eq_true rfl, Nat.le_of_ble_eq_true rfl⟩) ⟨fun a U g mk q => q, fun U hU hW => ⟨rfl, trivial⟩⟩ rfl rfl hl.1 rfl (lv_room (Nat.le_of_ble_eq_true rfl)) dX9_blend_39 ⟨Nat.le_of_ble_eq_true rfl, Nat.le_of_ble_eq_true rfl⟩) (fun r_23 k_24 => ?_)
  rcases k_24 with ⟨rfl, o_25⟩ | ⟨rfl, a_26, b_27⟩
  · refine lv_if_eq (tgt := 58) hx hb dX9_blend_42 (by decide) (fun c_28 => ?_) (fun c_28 => absurd (by decide) c_28)
    refine lv_iconst (v := (-1)) hx hb dX9_blend_58 (by decide) ?_
    have hP : va_P D vwCl (mw h0 ad cs (upd iv 35 (iv 35)) (uF (uF (uF (uF (uF (uF fv 36 (fv 36)) 37 (fv 37)) 38 (fv 38)) 39 (fv 39)) 40 (fv 40)) 41 (fv 41)) gv) s.heap := hP
    have hD : va_D A (mw h0 ad cs (upd iv 35 (iv 35)) (uF (uF (uF (uF (uF (uF fv 36 (fv 36)) 37 (fv 37)) 38 (fv 38)) 39 (fv 39)) 40 (fv 40)) 41 (fv 41)) gv) := hD
    exact W.iret (v := (-1)) hx hb hr (fun t ht hW => ⟨⟨(-1), (-1), rfl, rfl, iv 35, fv 36, fv 37, fv 38, fv 39, fv 40, fv 41, by rw [ht]; exact hP, va_K.moved hW.alike hK, hD⟩, hS.F ht⟩) hS.2.2 dX9_blend_59
  obtain ⟨j_29, hj_30, hj_31, rfl⟩ := is_nat (a := 0) (b := 140) a_26 b_27 (by omega)
  refine lv_if_eq (tgt := 58) hx hb dX9_blend_42 (by decide) (fun c_32 => absurd c_32 (by decide)) (fun c_32 => ?_)
  refine lv_iload hx hb dX9_blend_45 (lv_at hl 5 rfl) ?_
  refine lv_iload hx hb dX9_blend_47 (lv_at hl 4 rfl) ?_
  refine lv_sipush (v := 140) hx hb dX9_blend_49 (by decide) ?_
  refine vp_callSi (W.runS (As := [.int a5, .int (nI j_29), .int 140]) (rest := []) ⟨hx, hb, hml, hown, hts⟩ (s_X9_is l a5 (nI j_29) 140) (va_cwS 3 hts gX9_blend_X9_is rfl rfl rfl (by decide +kernel) ⟨Nat.le_of_ble_eq_true rfl, Nat.le_of_ble_eq_true rfl⟩) ⟨fun a U g mk q => q, fun U hU hW => ⟨rfl, trivial⟩⟩ rfl rfl hl.1 rfl (lv_room (Nat.le_of_ble_eq_true rfl)) dX9_blend_52 ⟨Nat.le_of_ble_eq_true rfl, Nat.le_of_ble_eq_true rfl⟩) (fun r_33 k_34 => ?_)
  rcases k_34 with ⟨rfl, o_35⟩ | ⟨rfl, a_36, b_37⟩
  · refine lv_if_ne (tgt := 60) hx hb dX9_blend_55 (by decide) (fun c_38 => absurd (by decide) c_38) (fun c_38 => ?_)
    refine lv_iconst (v := (-1)) hx hb dX9_blend_58 (by decide) ?_
    have hP : va_P D vwCl (mw h0 ad cs (upd iv 35 (iv 35)) (uF (uF (uF (uF (uF (uF fv 36 (fv 36)) 37 (fv 37)) 38 (fv 38)) 39 (fv 39)) 40 (fv 40)) 41 (fv 41)) gv) s.heap := hP
    have hD : va_D A (mw h0 ad cs (upd iv 35 (iv 35)) (uF (uF (uF (uF (uF (uF fv 36 (fv 36)) 37 (fv 37)) 38 (fv 38)) 39 (fv 39)) 40 (fv 40)) 41 (fv 41)) gv) := hD
    exact W.iret (v := (-1)) hx hb hr (fun t ht hW => ⟨⟨(-1), (-1), rfl, rfl, iv 35, fv 36, fv 37, fv 38, fv 39, fv 40, fv 41, by rw [ht]; exact hP, va_K.moved hW.alike hK, hD⟩, hS.F ht⟩) hS.2.2 dX9_blend_59
  refine lv_if_ne (tgt := 60) hx hb dX9_blend_55 (by decide) (fun c_39 => ?_) (fun c_39 => absurd c_39 (by decide))
  refine lv_iconst (v := 0) hx hb dX9_blend_60 (by decide) ?_
  refine lv_istore (lv' := [(6, .int 0), (0, .ref h0), (1, .int a1), (2, .int (nI j_9)), (3, .int (nI j_19)), (4, .int (nI j_29)), (5, .int a5)]) hx hb dX9_blend_61 hl (by decide) rfl (fun ls hl => ?_)
  refine lv_iconst (v := 0) hx hb dX9_blend_63 (by decide) ?_
  refine lv_istore (lv' := [(7, .int 0), (6, .int 0), (0, .ref h0), (1, .int a1), (2, .int (nI j_9)), (3, .int (nI j_19)), (4, .int (nI j_29)), (5, .int a5)]) hx hb dX9_blend_64 hl (by decide) rfl (fun ls hl => ?_)
  refine lp_V (nL := 20) (σ := Nat × Nat × (Nat → Int32)) (lv := fun x9 => [(7, .int (nI x9.1)), (6, .int (nI x9.2.1)), (5, .int a5), (4, .int (nI j_29)), (3, .int (nI j_19)), (2, .int (nI j_9)), (1, .int a1), (0, .ref h0)]) (μ := fun x9 => 10 - x9.1) (J := fun x9 ws9 => ws9 = (mw h0 ad cs iv (uF fv 37 x9.2.2) gv) ∧ (x9.1 ≤ 10) ∧ (x9.2.1 ≤ 4) ∧ (∀ i9 : Nat, i9 < x9.2.1 → ∃ u9 : Nat, u9 < 10 ∧ x9.2.2 i9 = nI u9 ∧ ¬ mall (fv 9) u9 n3 = 0)) (fun x9 ws9 H locs ls hj hP hD hS hl ih_40 => ?_) (0, 0, fv 37) (mw h0 ad cs iv fv gv) _ _ ls ⟨rfl, (show 0 ≤ 10 from by omega), (show 0 ≤ 4 from by omega), (show ∀ i9 : Nat, i9 < 0 → ∃ u9 : Nat, u9 < 10 ∧ (fv 37) i9 = nI u9 ∧ ¬ mall (fv 9) u9 n3 = 0 from fun i9 h9 => absurd h9 (by omega))⟩ hP hD hS (lv_sub hl [0, 1, 7, 6, 5, 4, 3, 2] rfl)
  obtain ⟨t_41, n_42, f37_43⟩ := x9
  replace hj : ws9 = (mw h0 ad cs iv (uF fv 37 f37_43) gv) ∧ (t_41 ≤ 10) ∧ (n_42 ≤ 4) ∧ (∀ i9 : Nat, i9 < n_42 → ∃ u9 : Nat, u9 < 10 ∧ f37_43 i9 = nI u9 ∧ ¬ mall (fv 9) u9 n3 = 0) := hj
  obtain ⟨rfl, ht_44, hn_45, hW_46⟩ := hj
  have hl : lv_has ls 20 [(7, .int (nI t_41)), (6, .int (nI n_42)), (5, .int a5), (4, .int (nI j_29)), (3, .int (nI j_19)), (2, .int (nI j_9)), (1, .int a1), (0, .ref h0)] := hl
  refine lv_iload hx hb dX9_blend_66 (lv_at hl 0 rfl) ?_
  refine lv_bipush (v := 10) hx hb dX9_blend_68 (by decide) ?_
  refine lv_icmp_ge (tgt := 120) hx hb dX9_blend_70 (by decide) (fun c_47 => ?_) (fun c_47 => ?_)
  · have d_48 := n_le (a := 10) (b := t_41) (by omega) (by omega) c_47
    refine lv_iconst (v := 0) hx hb dX9_blend_120 (by decide) ?_
    refine lv_istore (lv' := [(7, .int 0), (6, .int (nI n_42)), (5, .int a5), (4, .int (nI j_29)), (3, .int (nI j_19)), (2, .int (nI j_9)), (1, .int a1), (0, .ref h0)]) hx hb dX9_blend_121 hl (by decide) rfl (fun ls hl => ?_)
    refine lp_V (nL := 20) (σ := Nat × (Nat → Int32) × (Nat → Int32) × (Nat → Int32) × (Nat → Int32)) (lv := fun x9 => [(7, .int (nI x9.1)), (6, .int (nI n_42)), (5, .int a5), (4, .int (nI j_29)), (3, .int (nI j_19)), (2, .int (nI j_9)), (1, .int a1), (0, .ref h0)]) (μ := fun x9 => 4 - x9.1) (J := fun x9 ws9 => ws9 = (mw h0 ad cs iv (uF (uF (uF (uF (uF fv 37 f37_43) 38 x9.2.1) 39 x9.2.2.1) 40 x9.2.2.2.1) 41 x9.2.2.2.2) gv) ∧ (x9.1 ≤ 4)) (fun x9 ws9 H locs ls hj hP hD hS hl ih_49 => ?_) (0, fv 38, fv 39, fv 40, fv 41) (mw h0 ad cs iv (uF fv 37 f37_43) gv) _ _ ls ⟨rfl, (show 0 ≤ 4 from by omega)⟩ hP hD hS (lv_sub hl [0, 1, 2, 3, 4, 5, 6, 7] rfl)
    obtain ⟨k_50, f38_51, f39_52, f40_53, f41_54⟩ := x9
    replace hj : ws9 = (mw h0 ad cs iv (uF (uF (uF (uF (uF fv 37 f37_43) 38 f38_51) 39 f39_52) 40 f40_53) 41 f41_54) gv) ∧ (k_50 ≤ 4) := hj
    obtain ⟨rfl, hk_55⟩ := hj
    have hl : lv_has ls 20 [(7, .int (nI k_50)), (6, .int (nI n_42)), (5, .int a5), (4, .int (nI j_29)), (3, .int (nI j_19)), (2, .int (nI j_9)), (1, .int a1), (0, .ref h0)] := hl
    refine lv_iload hx hb dX9_blend_123 (lv_at hl 0 rfl) ?_
    refine lv_iconst (v := 4) hx hb dX9_blend_125 (by decide) ?_
    refine lv_icmp_ge (tgt := 294) hx hb dX9_blend_126 (by decide) (fun c_56 => ?_) (fun c_56 => ?_)
    · have d_57 := n_le (a := 4) (b := k_50) (by omega) (by omega) c_56
      refine lv_ldc2 hx hb hown (hts (.constantLong RX9 173 (-1)) (List.mem_of_getElem? (i := 8) rfl)) dX9_blend_294 ?_
      refine lv_lstore (lv' := [(7, .long (-1)), (6, .int (nI n_42)), (5, .int a5), (4, .int (nI j_29)), (3, .int (nI j_19)), (2, .int (nI j_9)), (1, .int a1), (0, .ref h0)]) hx hb dX9_blend_297 hl (by decide) rfl (fun ls hl => ?_)
      refine lv_iconst (v := 0) hx hb dX9_blend_299 (by decide) ?_
      refine lv_istore (lv' := [(9, .int 0), (7, .long (-1)), (6, .int (nI n_42)), (5, .int a5), (4, .int (nI j_29)), (3, .int (nI j_19)), (2, .int (nI j_9)), (1, .int a1), (0, .ref h0)]) hx hb dX9_blend_300 hl (by decide) rfl (fun ls hl => ?_)
      refine lv_iconst (v := 0) hx hb dX9_blend_302 (by decide) ?_
      refine lv_istore (lv' := [(10, .int 0), (9, .int 0), (7, .long (-1)), (6, .int (nI n_42)), (5, .int a5), (4, .int (nI j_29)), (3, .int (nI j_19)), (2, .int (nI j_9)), (1, .int a1), (0, .ref h0)]) hx hb dX9_blend_303 hl (by decide) rfl (fun ls hl => ?_)
      refine lp_V (nL := 20) (σ := Nat × Int32 × Int64) (lv := fun x9 => [(10, .int (nI x9.1)), (9, .int x9.2.1), (7, .long x9.2.2), (6, .int (nI n_42)), (5, .int a5), (4, .int (nI j_29)), (3, .int (nI j_19)), (2, .int (nI j_9)), (0, .ref h0)]) (μ := fun x9 => j_9 + 1 - x9.1) (J := fun x9 ws9 => ws9 = (mw h0 ad cs iv (uF (uF (uF (uF (uF fv 37 f37_43) 38 f38_51) 39 f39_52) 40 f40_53) 41 f41_54) gv) ∧ (x9.1 ≤ j_9 + 1)) (fun x9 ws9 H locs ls hj hP hD hS hl ih_58 => ?_) (0, 0, (-1)) (mw h0 ad cs iv (uF (uF (uF (uF (uF fv 37 f37_43) 38 f38_51) 39 f39_52) 40 f40_53) 41 f41_54) gv) _ _ ls ⟨rfl, (show 0 ≤ j_9 + 1 from by omega)⟩ hP hD hS (lv_sub hl [0, 1, 2, 3, 4, 5, 6, 7, 9] rfl)
      obtain ⟨a_59, kp_60, be_61⟩ := x9
      replace hj : ws9 = (mw h0 ad cs iv (uF (uF (uF (uF (uF fv 37 f37_43) 38 f38_51) 39 f39_52) 40 f40_53) 41 f41_54) gv) ∧ (a_59 ≤ j_9 + 1) := hj
      obtain ⟨rfl, ha_62⟩ := hj
      have hl : lv_has ls 20 [(10, .int (nI a_59)), (9, .int kp_60), (7, .long be_61), (6, .int (nI n_42)), (5, .int a5), (4, .int (nI j_29)), (3, .int (nI j_19)), (2, .int (nI j_9)), (0, .ref h0)] := hl
      refine lv_iload hx hb dX9_blend_305 (lv_at hl 0 rfl) ?_
      refine lv_iload_n hx hb dX9_blend_307 rfl (lv_at hl 7 rfl) ?_
      refine lv_icmp_gt (tgt := 658) hx hb dX9_blend_308 (by decide) (fun c_63 => ?_) (fun c_63 => ?_)
      · have d_64 := n_lt (a := j_9) (b := a_59) (by omega) (by omega) c_63
        refine lv_lload hx hb dX9_blend_658 (lv_at hl 2 rfl) ?_
        refine lv_lconst (v := 0) hx hb dX9_blend_660 (by decide) ?_
        refine W.lcmp hx hb dX9_blend_661 ?_
        refine lv_topi (fun z_65 _ => ?_)
        refine lv_if_ge (tgt := 668) hx hb dX9_blend_662 (by decide) (fun c_66 => ?_) (fun c_66 => ?_)
        · refine lv_aload_n hx hb dX9_blend_668 rfl (lv_at hl 8 rfl) ?_
          refine lv_iconst (v := 1) hx hb dX9_blend_669 (by decide) ?_
          refine va_put (D := D) (ci := 9) (v := .int 1) (ty := .boolean) (C := RX9) (T := TX9) (N := 44) hx hb hts hin9 tyX9 tyX9_ok nmX9 hown hK hP hD hS 0 rfl rfl 35 (by decide) (hts (.fieldLink RX9 117 "HoneyHouseModel" "blended" "Z") (List.mem_of_getElem? (i := 10) rfl)) (fun _ h9 => h9) rfl (tyX9_ok 35 (by decide)) rfl rfl (Nat.le_of_ble_eq_true rfl) dX9_blend_670 (fun H locs hP hD hS => ?_)
          have hP : va_P D vwCl (mw h0 ad cs (upd iv 35 1) (uF (uF (uF (uF (uF fv 37 f37_43) 38 f38_51) 39 f39_52) 40 f40_53) 41 f41_54) gv) H := hP
          have hD : va_D A (mw h0 ad cs (upd iv 35 1) (uF (uF (uF (uF (uF fv 37 f37_43) 38 f38_51) 39 f39_52) 40 f40_53) 41 f41_54) gv) := hD
          refine lv_iconst (v := 0) hx hb dX9_blend_673 (by decide) ?_
          refine lv_istore (lv' := [(10, .int 0), (9, .int kp_60), (7, .long be_61), (6, .int (nI n_42)), (5, .int a5), (4, .int (nI j_29)), (3, .int (nI j_19)), (2, .int (nI j_9)), (0, .ref h0)]) hx hb dX9_blend_674 hl (by decide) rfl (fun ls hl => ?_)
          refine lp_V (nL := 20) (σ := Nat × (Nat → Int32)) (lv := fun x9 => [(10, .int (nI x9.1)), (9, .int kp_60), (7, .long be_61), (6, .int (nI n_42)), (0, .ref h0)]) (μ := fun x9 => 10 - x9.1) (J := fun x9 ws9 => ws9 = (mw h0 ad cs (upd iv 35 1) (uF (uF (uF (uF (uF (uF fv 36 x9.2) 37 f37_43) 38 f38_51) 39 f39_52) 40 f40_53) 41 f41_54) gv) ∧ (x9.1 ≤ 10)) (fun x9 ws9 H locs ls hj hP hD hS hl ih_67 => ?_) (0, fv 36) (mw h0 ad cs (upd iv 35 1) (uF (uF (uF (uF (uF fv 37 f37_43) 38 f38_51) 39 f39_52) 40 f40_53) 41 f41_54) gv) _ _ ls ⟨rfl, (show 0 ≤ 10 from by omega)⟩ hP hD hS (lv_sub hl [0, 1, 2, 3, 8] rfl)
          obtain ⟨i_68, f36_69⟩ := x9
          replace hj : ws9 = (mw h0 ad cs (upd iv 35 1) (uF (uF (uF (uF (uF (uF fv 36 f36_69) 37 f37_43) 38 f38_51) 39 f39_52) 40 f40_53) 41 f41_54) gv) ∧ (i_68 ≤ 10) := hj
          obtain ⟨rfl, hi_70⟩ := hj
          have hl : lv_has ls 20 [(10, .int (nI i_68)), (9, .int kp_60), (7, .long be_61), (6, .int (nI n_42)), (0, .ref h0)] := hl
          refine lv_iload hx hb dX9_blend_676 (lv_at hl 0 rfl) ?_
          refine lv_bipush (v := 10) hx hb dX9_blend_678 (by decide) ?_
          refine lv_icmp_ge (tgt := 697) hx hb dX9_blend_680 (by decide) (fun c_71 => ?_) (fun c_71 => ?_)
          · have d_72 := n_le (a := 10) (b := i_68) (by omega) (by omega) c_71
            refine lv_iconst (v := 0) hx hb dX9_blend_697 (by decide) ?_
            refine lv_istore (lv' := [(10, .int 0), (9, .int kp_60), (7, .long be_61), (6, .int (nI n_42)), (0, .ref h0)]) hx hb dX9_blend_698 hl (by decide) rfl (fun ls hl => ?_)
            refine lp_V (nL := 20) (σ := Nat × (Nat → Int32)) (lv := fun x9 => [(10, .int (nI x9.1)), (9, .int kp_60), (7, .long be_61), (6, .int (nI n_42)), (0, .ref h0)]) (μ := fun x9 => n_42 - x9.1) (J := fun x9 ws9 => ws9 = (mw h0 ad cs (upd iv 35 1) (uF (uF (uF (uF (uF (uF fv 36 x9.2) 37 f37_43) 38 f38_51) 39 f39_52) 40 f40_53) 41 f41_54) gv) ∧ (x9.1 ≤ n_42)) (fun x9 ws9 H locs ls hj hP hD hS hl ih_73 => ?_) (0, f36_69) (mw h0 ad cs (upd iv 35 1) (uF (uF (uF (uF (uF (uF fv 36 f36_69) 37 f37_43) 38 f38_51) 39 f39_52) 40 f40_53) 41 f41_54) gv) _ _ ls ⟨rfl, (show 0 ≤ n_42 from by omega)⟩ hP hD hS (lv_sub hl [0, 1, 2, 3, 4] rfl)
            obtain ⟨i_74, f36_75⟩ := x9
            replace hj : ws9 = (mw h0 ad cs (upd iv 35 1) (uF (uF (uF (uF (uF (uF fv 36 f36_75) 37 f37_43) 38 f38_51) 39 f39_52) 40 f40_53) 41 f41_54) gv) ∧ (i_74 ≤ n_42) := hj
            obtain ⟨rfl, hi_76⟩ := hj
            have hl : lv_has ls 20 [(10, .int (nI i_74)), (9, .int kp_60), (7, .long be_61), (6, .int (nI n_42)), (0, .ref h0)] := hl
            refine lv_iload hx hb dX9_blend_700 (lv_at hl 0 rfl) ?_
            refine lv_iload hx hb dX9_blend_702 (lv_at hl 3 rfl) ?_
            refine lv_icmp_ge (tgt := 779) hx hb dX9_blend_704 (by decide) (fun c_77 => ?_) (fun c_77 => ?_)
            · have d_78 := n_le (a := n_42) (b := i_74) (by omega) (by omega) c_77
              refine lv_lload hx hb dX9_blend_779 (lv_at hl 2 rfl) ?_
              refine lv_l2i hx hb dX9_blend_781 rfl ?_
              refine lv_topi (fun z_79 _ => ?_)
              have hP : va_P D vwCl (mw h0 ad cs (upd iv 35 1) (uF (uF (uF (uF (uF (uF fv 36 f36_75) 37 f37_43) 38 f38_51) 39 f39_52) 40 f40_53) 41 f41_54) gv) H := hP
              have hD : va_D A (mw h0 ad cs (upd iv 35 1) (uF (uF (uF (uF (uF (uF fv 36 f36_75) 37 f37_43) 38 f38_51) 39 f39_52) 40 f40_53) 41 f41_54) gv) := hD
              exact W.iret (v := z_79) hx hb hr (fun t ht hW => ⟨⟨z_79, z_79, rfl, rfl, 1, f36_75, f37_43, f38_51, f39_52, f40_53, f41_54, by rw [ht]; exact hP, va_K.moved hW.alike hK, hD⟩, hS.F ht⟩) hS.2.2 dX9_blend_782
            have d_80 := n_nle (a := n_42) (b := i_74) (by omega) (by omega) c_77
            refine lv_aload_n hx hb dX9_blend_707 rfl (lv_at hl 4 rfl) ?_
            refine va_get (D := D) (ci := 9) (v := .ref (ad 36)) (C := RX9) (T := TX9) (N := 44) hx hb hts hin9 hown hK hP 0 rfl rfl 36 (by decide) (hts (.fieldLink RX9 121 "HoneyHouseModel" "parts" "[I") (List.mem_of_getElem? (i := 11) rfl)) (fun _ h9 => h9) rfl dX9_blend_708 ?_
            refine lv_aload_n hx hb dX9_blend_711 rfl (lv_at hl 4 rfl) ?_
            refine va_get (D := D) (ci := 9) (v := .ref (ad 37)) (C := RX9) (T := TX9) (N := 44) hx hb hts hin9 hown hK hP 0 rfl rfl 37 (by decide) (hts (.fieldLink RX9 124 "HoneyHouseModel" "which" "[I") (List.mem_of_getElem? (i := 1) rfl)) (fun _ h9 => h9) rfl dX9_blend_712 ?_
            refine lv_iload hx hb dX9_blend_715 (lv_at hl 0 rfl) ?_
            refine va_iald (f := f37_43) (n := 4) hx hb hK hP 24 23 rfl rfl (vp_in_nI (n := i_74) (by omega) (by omega)) dX9_blend_717 ?_
            refine lv_topi (fun z_81 hz_82 => ?_)
            rw [nI_clamp (n := i_74) (by omega)] at hz_82
            obtain ⟨u_83, hu_84, eu_85, hnz_86⟩ := hW_46 i_74 (by omega)
            rw [eu_85] at hz_82
            subst hz_82
            refine lv_iload hx hb dX9_blend_718 (lv_at hl 0 rfl) ?_
            refine lv_if_ne (tgt := 732) hx hb dX9_blend_720 (by decide) (fun c_87 => ?_) (fun c_87 => ?_)
            · have d_88 := n_ne (a := i_74) (b := 0) (by omega) (by omega) c_87
              refine lv_iload hx hb dX9_blend_732 (lv_at hl 0 rfl) ?_
              refine lv_iconst (v := 1) hx hb dX9_blend_734 (by decide) ?_
              refine lv_icmp_ne (tgt := 750) hx hb dX9_blend_735 (by decide) (fun c_89 => ?_) (fun c_89 => ?_)
              · have d_90 := n_ne (a := i_74) (b := 1) (by omega) (by omega) c_89
                refine lv_iload hx hb dX9_blend_750 (lv_at hl 0 rfl) ?_
                refine lv_iconst (v := 2) hx hb dX9_blend_752 (by decide) ?_
                refine lv_icmp_ne (tgt := 767) hx hb dX9_blend_753 (by decide) (fun c_91 => ?_) (fun c_91 => ?_)
                · have d_92 := n_ne (a := i_74) (b := 2) (by omega) (by omega) c_91
                  refine lv_iload hx hb dX9_blend_767 (lv_at hl 1 rfl) ?_
                  refine lv_bipush (v := 41) hx hb dX9_blend_769 (by decide) ?_
                  refine lv_irem hx hb dX9_blend_771 (by decide) ?_
                  refine lv_topi (fun z_93 _ => ?_)
                  refine va_iast (f := f36_75) (n := 10) hx hb hK hP hD hS 23 22 rfl rfl (vp_in_nI (n := u_83) (by omega) (by omega)) dX9_blend_772 (fun H locs hP hD hS => ?_)
                  have hP : va_P D vwCl (mw h0 ad cs (upd iv 35 1) (uF (uF (uF (uF (uF (uF fv 36 (upd f36_75 (nI u_83).toNatClampNeg z_93)) 37 f37_43) 38 f38_51) 39 f39_52) 40 f40_53) 41 f41_54) gv) H := hP
                  have hD : va_D A (mw h0 ad cs (upd iv 35 1) (uF (uF (uF (uF (uF (uF fv 36 (upd f36_75 (nI u_83).toNatClampNeg z_93)) 37 f37_43) 38 f38_51) 39 f39_52) 40 f40_53) 41 f41_54) gv) := hD
                  obtain ⟨f_94, hf_95⟩ : ∃ g9, g9 = upd f36_75 (nI u_83).toNatClampNeg z_93 := ⟨_, rfl⟩
                  rw [← hf_95] at hP hD
                  rw [nI_clamp (n := u_83) (by omega)] at hf_95
                  refine lv_iinc (v := nI (i_74 + 1)) (lv' := [(10, .int (nI (i_74 + 1))), (9, .int kp_60), (7, .long be_61), (6, .int (nI n_42)), (0, .ref h0)]) hx hb dX9_blend_773 hl (k := 0) rfl (nI_add i_74 1) (by decide) rfl (fun ls hl => ?_)
                  refine lv_goto (tgt := 700) hx hb dX9_blend_776 (by decide) ?_
                  exact ih_73 (i_74 + 1, f_94) (mw h0 ad cs (upd iv 35 1) (uF (uF (uF (uF (uF (uF fv 36 f_94) 37 f37_43) 38 f38_51) 39 f39_52) 40 f40_53) 41 f41_54) gv) _ _ ls (by show n_42 - (i_74 + 1) < n_42 - i_74; omega) ⟨rfl, (show (i_74 + 1) ≤ n_42 from by omega)⟩ hP hD hS (lv_sub hl [0, 1, 2, 3, 4] rfl)
                have d_96 := n_eq (a := i_74) (b := 2) (by omega) (by omega) c_91
                refine lv_iload hx hb dX9_blend_756 (lv_at hl 1 rfl) ?_
                refine lv_bipush (v := 41) hx hb dX9_blend_758 (by decide) ?_
                refine lv_idiv hx hb dX9_blend_760 (by decide) ?_
                refine lv_topi (fun z_97 _ => ?_)
                refine lv_bipush (v := 41) hx hb dX9_blend_761 (by decide) ?_
                refine lv_irem hx hb dX9_blend_763 (by decide) ?_
                refine lv_topi (fun z_98 _ => ?_)
                refine lv_goto (tgt := 772) hx hb dX9_blend_764 (by decide) ?_
                refine va_iast (f := f36_75) (n := 10) hx hb hK hP hD hS 23 22 rfl rfl (vp_in_nI (n := u_83) (by omega) (by omega)) dX9_blend_772 (fun H locs hP hD hS => ?_)
                have hP : va_P D vwCl (mw h0 ad cs (upd iv 35 1) (uF (uF (uF (uF (uF (uF fv 36 (upd f36_75 (nI u_83).toNatClampNeg z_98)) 37 f37_43) 38 f38_51) 39 f39_52) 40 f40_53) 41 f41_54) gv) H := hP
                have hD : va_D A (mw h0 ad cs (upd iv 35 1) (uF (uF (uF (uF (uF (uF fv 36 (upd f36_75 (nI u_83).toNatClampNeg z_98)) 37 f37_43) 38 f38_51) 39 f39_52) 40 f40_53) 41 f41_54) gv) := hD
                obtain ⟨f_99, hf_100⟩ : ∃ g9, g9 = upd f36_75 (nI u_83).toNatClampNeg z_98 := ⟨_, rfl⟩
                rw [← hf_100] at hP hD
                rw [nI_clamp (n := u_83) (by omega)] at hf_100
                refine lv_iinc (v := nI (i_74 + 1)) (lv' := [(10, .int (nI (i_74 + 1))), (9, .int kp_60), (7, .long be_61), (6, .int (nI n_42)), (0, .ref h0)]) hx hb dX9_blend_773 hl (k := 0) rfl (nI_add i_74 1) (by decide) rfl (fun ls hl => ?_)
                refine lv_goto (tgt := 700) hx hb dX9_blend_776 (by decide) ?_
                exact ih_73 (i_74 + 1, f_99) (mw h0 ad cs (upd iv 35 1) (uF (uF (uF (uF (uF (uF fv 36 f_99) 37 f37_43) 38 f38_51) 39 f39_52) 40 f40_53) 41 f41_54) gv) _ _ ls (by show n_42 - (i_74 + 1) < n_42 - i_74; omega) ⟨rfl, (show (i_74 + 1) ≤ n_42 from by omega)⟩ hP hD hS (lv_sub hl [0, 1, 2, 3, 4] rfl)
              have d_101 := n_eq (a := i_74) (b := 1) (by omega) (by omega) c_89
              refine lv_iload hx hb dX9_blend_738 (lv_at hl 1 rfl) ?_
              refine lv_sipush (v := 1681) hx hb dX9_blend_740 (by decide) ?_
              refine lv_idiv hx hb dX9_blend_743 (by decide) ?_
              refine lv_topi (fun z_102 _ => ?_)
              refine lv_bipush (v := 41) hx hb dX9_blend_744 (by decide) ?_
              refine lv_irem hx hb dX9_blend_746 (by decide) ?_
              refine lv_topi (fun z_103 _ => ?_)
              refine lv_goto (tgt := 772) hx hb dX9_blend_747 (by decide) ?_
              refine va_iast (f := f36_75) (n := 10) hx hb hK hP hD hS 23 22 rfl rfl (vp_in_nI (n := u_83) (by omega) (by omega)) dX9_blend_772 (fun H locs hP hD hS => ?_)
              have hP : va_P D vwCl (mw h0 ad cs (upd iv 35 1) (uF (uF (uF (uF (uF (uF fv 36 (upd f36_75 (nI u_83).toNatClampNeg z_103)) 37 f37_43) 38 f38_51) 39 f39_52) 40 f40_53) 41 f41_54) gv) H := hP
              have hD : va_D A (mw h0 ad cs (upd iv 35 1) (uF (uF (uF (uF (uF (uF fv 36 (upd f36_75 (nI u_83).toNatClampNeg z_103)) 37 f37_43) 38 f38_51) 39 f39_52) 40 f40_53) 41 f41_54) gv) := hD
              obtain ⟨f_104, hf_105⟩ : ∃ g9, g9 = upd f36_75 (nI u_83).toNatClampNeg z_103 := ⟨_, rfl⟩
              rw [← hf_105] at hP hD
              rw [nI_clamp (n := u_83) (by omega)] at hf_105
              refine lv_iinc (v := nI (i_74 + 1)) (lv' := [(10, .int (nI (i_74 + 1))), (9, .int kp_60), (7, .long be_61), (6, .int (nI n_42)), (0, .ref h0)]) hx hb dX9_blend_773 hl (k := 0) rfl (nI_add i_74 1) (by decide) rfl (fun ls hl => ?_)
              refine lv_goto (tgt := 700) hx hb dX9_blend_776 (by decide) ?_
              exact ih_73 (i_74 + 1, f_104) (mw h0 ad cs (upd iv 35 1) (uF (uF (uF (uF (uF (uF fv 36 f_104) 37 f37_43) 38 f38_51) 39 f39_52) 40 f40_53) 41 f41_54) gv) _ _ ls (by show n_42 - (i_74 + 1) < n_42 - i_74; omega) ⟨rfl, (show (i_74 + 1) ≤ n_42 from by omega)⟩ hP hD hS (lv_sub hl [0, 1, 2, 3, 4] rfl)
            have d_106 := n_eq (a := i_74) (b := 0) (by omega) (by omega) c_87
            refine lv_iload hx hb dX9_blend_723 (lv_at hl 1 rfl) ?_
            refine lv_ldcw hx hb hown (hts (.constant RX9 292 (68921)) (List.mem_of_getElem? (i := 9) rfl)) dX9_blend_725 ?_
            refine lv_idiv hx hb dX9_blend_728 (by decide) ?_
            refine lv_topi (fun z_107 _ => ?_)
            refine lv_goto (tgt := 772) hx hb dX9_blend_729 (by decide) ?_
            refine va_iast (f := f36_75) (n := 10) hx hb hK hP hD hS 23 22 rfl rfl (vp_in_nI (n := u_83) (by omega) (by omega)) dX9_blend_772 (fun H locs hP hD hS => ?_)
            have hP : va_P D vwCl (mw h0 ad cs (upd iv 35 1) (uF (uF (uF (uF (uF (uF fv 36 (upd f36_75 (nI u_83).toNatClampNeg z_107)) 37 f37_43) 38 f38_51) 39 f39_52) 40 f40_53) 41 f41_54) gv) H := hP
            have hD : va_D A (mw h0 ad cs (upd iv 35 1) (uF (uF (uF (uF (uF (uF fv 36 (upd f36_75 (nI u_83).toNatClampNeg z_107)) 37 f37_43) 38 f38_51) 39 f39_52) 40 f40_53) 41 f41_54) gv) := hD
            obtain ⟨f_108, hf_109⟩ : ∃ g9, g9 = upd f36_75 (nI u_83).toNatClampNeg z_107 := ⟨_, rfl⟩
            rw [← hf_109] at hP hD
            rw [nI_clamp (n := u_83) (by omega)] at hf_109
            refine lv_iinc (v := nI (i_74 + 1)) (lv' := [(10, .int (nI (i_74 + 1))), (9, .int kp_60), (7, .long be_61), (6, .int (nI n_42)), (0, .ref h0)]) hx hb dX9_blend_773 hl (k := 0) rfl (nI_add i_74 1) (by decide) rfl (fun ls hl => ?_)
            refine lv_goto (tgt := 700) hx hb dX9_blend_776 (by decide) ?_
            exact ih_73 (i_74 + 1, f_108) (mw h0 ad cs (upd iv 35 1) (uF (uF (uF (uF (uF (uF fv 36 f_108) 37 f37_43) 38 f38_51) 39 f39_52) 40 f40_53) 41 f41_54) gv) _ _ ls (by show n_42 - (i_74 + 1) < n_42 - i_74; omega) ⟨rfl, (show (i_74 + 1) ≤ n_42 from by omega)⟩ hP hD hS (lv_sub hl [0, 1, 2, 3, 4] rfl)
          have d_110 := n_nle (a := 10) (b := i_68) (by omega) (by omega) c_71
          refine lv_aload_n hx hb dX9_blend_683 rfl (lv_at hl 4 rfl) ?_
          refine va_get (D := D) (ci := 9) (v := .ref (ad 36)) (C := RX9) (T := TX9) (N := 44) hx hb hts hin9 hown hK hP 0 rfl rfl 36 (by decide) (hts (.fieldLink RX9 121 "HoneyHouseModel" "parts" "[I") (List.mem_of_getElem? (i := 11) rfl)) (fun _ h9 => h9) rfl dX9_blend_684 ?_
          refine lv_iload hx hb dX9_blend_687 (lv_at hl 0 rfl) ?_
          refine lv_iconst (v := 0) hx hb dX9_blend_689 (by decide) ?_
          refine va_iast (f := f36_69) (n := 10) hx hb hK hP hD hS 23 22 rfl rfl (vp_in_nI (n := i_68) (by omega) (by omega)) dX9_blend_690 (fun H locs hP hD hS => ?_)
          have hP : va_P D vwCl (mw h0 ad cs (upd iv 35 1) (uF (uF (uF (uF (uF (uF fv 36 (upd f36_69 (nI i_68).toNatClampNeg 0)) 37 f37_43) 38 f38_51) 39 f39_52) 40 f40_53) 41 f41_54) gv) H := hP
          have hD : va_D A (mw h0 ad cs (upd iv 35 1) (uF (uF (uF (uF (uF (uF fv 36 (upd f36_69 (nI i_68).toNatClampNeg 0)) 37 f37_43) 38 f38_51) 39 f39_52) 40 f40_53) 41 f41_54) gv) := hD
          obtain ⟨f_111, hf_112⟩ : ∃ g9, g9 = upd f36_69 (nI i_68).toNatClampNeg 0 := ⟨_, rfl⟩
          rw [← hf_112] at hP hD
          rw [nI_clamp (n := i_68) (by omega)] at hf_112
          refine lv_iinc (v := nI (i_68 + 1)) (lv' := [(10, .int (nI (i_68 + 1))), (9, .int kp_60), (7, .long be_61), (6, .int (nI n_42)), (0, .ref h0)]) hx hb dX9_blend_691 hl (k := 0) rfl (nI_add i_68 1) (by decide) rfl (fun ls hl => ?_)
          refine lv_goto (tgt := 676) hx hb dX9_blend_694 (by decide) ?_
          exact ih_67 (i_68 + 1, f_111) (mw h0 ad cs (upd iv 35 1) (uF (uF (uF (uF (uF (uF fv 36 f_111) 37 f37_43) 38 f38_51) 39 f39_52) 40 f40_53) 41 f41_54) gv) _ _ ls (by show 10 - (i_68 + 1) < 10 - i_68; omega) ⟨rfl, (show (i_68 + 1) ≤ 10 from by omega)⟩ hP hD hS (lv_sub hl [0, 1, 2, 3, 4] rfl)
        refine lv_bipush (v := (-2)) hx hb dX9_blend_665 (by decide) ?_
        have hP : va_P D vwCl (mw h0 ad cs (upd iv 35 (iv 35)) (uF (uF (uF (uF (uF (uF fv 36 (fv 36)) 37 f37_43) 38 f38_51) 39 f39_52) 40 f40_53) 41 f41_54) gv) H := hP
        have hD : va_D A (mw h0 ad cs (upd iv 35 (iv 35)) (uF (uF (uF (uF (uF (uF fv 36 (fv 36)) 37 f37_43) 38 f38_51) 39 f39_52) 40 f40_53) 41 f41_54) gv) := hD
        exact W.iret (v := (-2)) hx hb hr (fun t ht hW => ⟨⟨(-2), (-2), rfl, rfl, iv 35, fv 36, f37_43, f38_51, f39_52, f40_53, f41_54, by rw [ht]; exact hP, va_K.moved hW.alike hK, hD⟩, hS.F ht⟩) hS.2.2 dX9_blend_667
      have d_113 := n_nlt (a := j_9) (b := a_59) (by omega) (by omega) c_63
      refine lv_iload hx hb dX9_blend_311 (lv_at hl 0 rfl) ?_
      refine lv_aload_n hx hb dX9_blend_313 rfl (lv_at hl 8 rfl) ?_
      refine va_get (D := D) (ci := 9) (v := .ref (ad 41)) (C := RX9) (T := TX9) (N := 44) hx hb hts hin9 hown hK hP 0 rfl rfl 41 (by decide) (hts (.fieldLink RX9 136 "HoneyHouseModel" "there" "[I") (List.mem_of_getElem? (i := 7) rfl)) (fun _ h9 => h9) rfl dX9_blend_314 ?_
      refine lv_iconst (v := 0) hx hb dX9_blend_317 (by decide) ?_
      refine va_iald (f := f41_54) (n := 4) hx hb hK hP 28 27 rfl rfl (vp_in_iff.mpr (by decide)) dX9_blend_318 ?_
      refine lv_topi (fun z_114 hz_115 => ?_)
      refine lv_icmp_gt (tgt := 658) hx hb dX9_blend_319 (by decide) (fun c_116 => ?_) (fun c_116 => ?_)
      · refine lv_lload hx hb dX9_blend_658 (lv_at hl 2 rfl) ?_
        refine lv_lconst (v := 0) hx hb dX9_blend_660 (by decide) ?_
        refine W.lcmp hx hb dX9_blend_661 ?_
        refine lv_topi (fun z_117 _ => ?_)
        refine lv_if_ge (tgt := 668) hx hb dX9_blend_662 (by decide) (fun c_118 => ?_) (fun c_118 => ?_)
        · refine lv_aload_n hx hb dX9_blend_668 rfl (lv_at hl 8 rfl) ?_
          refine lv_iconst (v := 1) hx hb dX9_blend_669 (by decide) ?_
          refine va_put (D := D) (ci := 9) (v := .int 1) (ty := .boolean) (C := RX9) (T := TX9) (N := 44) hx hb hts hin9 tyX9 tyX9_ok nmX9 hown hK hP hD hS 0 rfl rfl 35 (by decide) (hts (.fieldLink RX9 117 "HoneyHouseModel" "blended" "Z") (List.mem_of_getElem? (i := 10) rfl)) (fun _ h9 => h9) rfl (tyX9_ok 35 (by decide)) rfl rfl (Nat.le_of_ble_eq_true rfl) dX9_blend_670 (fun H locs hP hD hS => ?_)
          have hP : va_P D vwCl (mw h0 ad cs (upd iv 35 1) (uF (uF (uF (uF (uF fv 37 f37_43) 38 f38_51) 39 f39_52) 40 f40_53) 41 f41_54) gv) H := hP
          have hD : va_D A (mw h0 ad cs (upd iv 35 1) (uF (uF (uF (uF (uF fv 37 f37_43) 38 f38_51) 39 f39_52) 40 f40_53) 41 f41_54) gv) := hD
          refine lv_iconst (v := 0) hx hb dX9_blend_673 (by decide) ?_
          refine lv_istore (lv' := [(10, .int 0), (9, .int kp_60), (7, .long be_61), (6, .int (nI n_42)), (5, .int a5), (4, .int (nI j_29)), (3, .int (nI j_19)), (2, .int (nI j_9)), (0, .ref h0)]) hx hb dX9_blend_674 hl (by decide) rfl (fun ls hl => ?_)
          refine lp_V (nL := 20) (σ := Nat × (Nat → Int32)) (lv := fun x9 => [(10, .int (nI x9.1)), (9, .int kp_60), (7, .long be_61), (6, .int (nI n_42)), (0, .ref h0)]) (μ := fun x9 => 10 - x9.1) (J := fun x9 ws9 => ws9 = (mw h0 ad cs (upd iv 35 1) (uF (uF (uF (uF (uF (uF fv 36 x9.2) 37 f37_43) 38 f38_51) 39 f39_52) 40 f40_53) 41 f41_54) gv) ∧ (x9.1 ≤ 10)) (fun x9 ws9 H locs ls hj hP hD hS hl ih_119 => ?_) (0, fv 36) (mw h0 ad cs (upd iv 35 1) (uF (uF (uF (uF (uF fv 37 f37_43) 38 f38_51) 39 f39_52) 40 f40_53) 41 f41_54) gv) _ _ ls ⟨rfl, (show 0 ≤ 10 from by omega)⟩ hP hD hS (lv_sub hl [0, 1, 2, 3, 8] rfl)
          obtain ⟨i_120, f36_121⟩ := x9
          replace hj : ws9 = (mw h0 ad cs (upd iv 35 1) (uF (uF (uF (uF (uF (uF fv 36 f36_121) 37 f37_43) 38 f38_51) 39 f39_52) 40 f40_53) 41 f41_54) gv) ∧ (i_120 ≤ 10) := hj
          obtain ⟨rfl, hi_122⟩ := hj
          have hl : lv_has ls 20 [(10, .int (nI i_120)), (9, .int kp_60), (7, .long be_61), (6, .int (nI n_42)), (0, .ref h0)] := hl
          refine lv_iload hx hb dX9_blend_676 (lv_at hl 0 rfl) ?_
          refine lv_bipush (v := 10) hx hb dX9_blend_678 (by decide) ?_
          refine lv_icmp_ge (tgt := 697) hx hb dX9_blend_680 (by decide) (fun c_123 => ?_) (fun c_123 => ?_)
          · have d_124 := n_le (a := 10) (b := i_120) (by omega) (by omega) c_123
            refine lv_iconst (v := 0) hx hb dX9_blend_697 (by decide) ?_
            refine lv_istore (lv' := [(10, .int 0), (9, .int kp_60), (7, .long be_61), (6, .int (nI n_42)), (0, .ref h0)]) hx hb dX9_blend_698 hl (by decide) rfl (fun ls hl => ?_)
            refine lp_V (nL := 20) (σ := Nat × (Nat → Int32)) (lv := fun x9 => [(10, .int (nI x9.1)), (9, .int kp_60), (7, .long be_61), (6, .int (nI n_42)), (0, .ref h0)]) (μ := fun x9 => n_42 - x9.1) (J := fun x9 ws9 => ws9 = (mw h0 ad cs (upd iv 35 1) (uF (uF (uF (uF (uF (uF fv 36 x9.2) 37 f37_43) 38 f38_51) 39 f39_52) 40 f40_53) 41 f41_54) gv) ∧ (x9.1 ≤ n_42)) (fun x9 ws9 H locs ls hj hP hD hS hl ih_125 => ?_) (0, f36_121) (mw h0 ad cs (upd iv 35 1) (uF (uF (uF (uF (uF (uF fv 36 f36_121) 37 f37_43) 38 f38_51) 39 f39_52) 40 f40_53) 41 f41_54) gv) _ _ ls ⟨rfl, (show 0 ≤ n_42 from by omega)⟩ hP hD hS (lv_sub hl [0, 1, 2, 3, 4] rfl)
            obtain ⟨i_126, f36_127⟩ := x9
            replace hj : ws9 = (mw h0 ad cs (upd iv 35 1) (uF (uF (uF (uF (uF (uF fv 36 f36_127) 37 f37_43) 38 f38_51) 39 f39_52) 40 f40_53) 41 f41_54) gv) ∧ (i_126 ≤ n_42) := hj
            obtain ⟨rfl, hi_128⟩ := hj
            have hl : lv_has ls 20 [(10, .int (nI i_126)), (9, .int kp_60), (7, .long be_61), (6, .int (nI n_42)), (0, .ref h0)] := hl
            refine lv_iload hx hb dX9_blend_700 (lv_at hl 0 rfl) ?_
            refine lv_iload hx hb dX9_blend_702 (lv_at hl 3 rfl) ?_
            refine lv_icmp_ge (tgt := 779) hx hb dX9_blend_704 (by decide) (fun c_129 => ?_) (fun c_129 => ?_)
            · have d_130 := n_le (a := n_42) (b := i_126) (by omega) (by omega) c_129
              refine lv_lload hx hb dX9_blend_779 (lv_at hl 2 rfl) ?_
              refine lv_l2i hx hb dX9_blend_781 rfl ?_
              refine lv_topi (fun z_131 _ => ?_)
              have hP : va_P D vwCl (mw h0 ad cs (upd iv 35 1) (uF (uF (uF (uF (uF (uF fv 36 f36_127) 37 f37_43) 38 f38_51) 39 f39_52) 40 f40_53) 41 f41_54) gv) H := hP
              have hD : va_D A (mw h0 ad cs (upd iv 35 1) (uF (uF (uF (uF (uF (uF fv 36 f36_127) 37 f37_43) 38 f38_51) 39 f39_52) 40 f40_53) 41 f41_54) gv) := hD
              exact W.iret (v := z_131) hx hb hr (fun t ht hW => ⟨⟨z_131, z_131, rfl, rfl, 1, f36_127, f37_43, f38_51, f39_52, f40_53, f41_54, by rw [ht]; exact hP, va_K.moved hW.alike hK, hD⟩, hS.F ht⟩) hS.2.2 dX9_blend_782
            have d_132 := n_nle (a := n_42) (b := i_126) (by omega) (by omega) c_129
            refine lv_aload_n hx hb dX9_blend_707 rfl (lv_at hl 4 rfl) ?_
            refine va_get (D := D) (ci := 9) (v := .ref (ad 36)) (C := RX9) (T := TX9) (N := 44) hx hb hts hin9 hown hK hP 0 rfl rfl 36 (by decide) (hts (.fieldLink RX9 121 "HoneyHouseModel" "parts" "[I") (List.mem_of_getElem? (i := 11) rfl)) (fun _ h9 => h9) rfl dX9_blend_708 ?_
            refine lv_aload_n hx hb dX9_blend_711 rfl (lv_at hl 4 rfl) ?_
            refine va_get (D := D) (ci := 9) (v := .ref (ad 37)) (C := RX9) (T := TX9) (N := 44) hx hb hts hin9 hown hK hP 0 rfl rfl 37 (by decide) (hts (.fieldLink RX9 124 "HoneyHouseModel" "which" "[I") (List.mem_of_getElem? (i := 1) rfl)) (fun _ h9 => h9) rfl dX9_blend_712 ?_
            refine lv_iload hx hb dX9_blend_715 (lv_at hl 0 rfl) ?_
            refine va_iald (f := f37_43) (n := 4) hx hb hK hP 24 23 rfl rfl (vp_in_nI (n := i_126) (by omega) (by omega)) dX9_blend_717 ?_
            refine lv_topi (fun z_133 hz_134 => ?_)
            rw [nI_clamp (n := i_126) (by omega)] at hz_134
            obtain ⟨u_135, hu_136, eu_137, hnz_138⟩ := hW_46 i_126 (by omega)
            rw [eu_137] at hz_134
            subst hz_134
            refine lv_iload hx hb dX9_blend_718 (lv_at hl 0 rfl) ?_
            refine lv_if_ne (tgt := 732) hx hb dX9_blend_720 (by decide) (fun c_139 => ?_) (fun c_139 => ?_)
            · have d_140 := n_ne (a := i_126) (b := 0) (by omega) (by omega) c_139
              refine lv_iload hx hb dX9_blend_732 (lv_at hl 0 rfl) ?_
              refine lv_iconst (v := 1) hx hb dX9_blend_734 (by decide) ?_
              refine lv_icmp_ne (tgt := 750) hx hb dX9_blend_735 (by decide) (fun c_141 => ?_) (fun c_141 => ?_)
              · have d_142 := n_ne (a := i_126) (b := 1) (by omega) (by omega) c_141
                refine lv_iload hx hb dX9_blend_750 (lv_at hl 0 rfl) ?_
                refine lv_iconst (v := 2) hx hb dX9_blend_752 (by decide) ?_
                refine lv_icmp_ne (tgt := 767) hx hb dX9_blend_753 (by decide) (fun c_143 => ?_) (fun c_143 => ?_)
                · have d_144 := n_ne (a := i_126) (b := 2) (by omega) (by omega) c_143
                  refine lv_iload hx hb dX9_blend_767 (lv_at hl 1 rfl) ?_
                  refine lv_bipush (v := 41) hx hb dX9_blend_769 (by decide) ?_
                  refine lv_irem hx hb dX9_blend_771 (by decide) ?_
                  refine lv_topi (fun z_145 _ => ?_)
                  refine va_iast (f := f36_127) (n := 10) hx hb hK hP hD hS 23 22 rfl rfl (vp_in_nI (n := u_135) (by omega) (by omega)) dX9_blend_772 (fun H locs hP hD hS => ?_)
                  have hP : va_P D vwCl (mw h0 ad cs (upd iv 35 1) (uF (uF (uF (uF (uF (uF fv 36 (upd f36_127 (nI u_135).toNatClampNeg z_145)) 37 f37_43) 38 f38_51) 39 f39_52) 40 f40_53) 41 f41_54) gv) H := hP
                  have hD : va_D A (mw h0 ad cs (upd iv 35 1) (uF (uF (uF (uF (uF (uF fv 36 (upd f36_127 (nI u_135).toNatClampNeg z_145)) 37 f37_43) 38 f38_51) 39 f39_52) 40 f40_53) 41 f41_54) gv) := hD
                  obtain ⟨f_146, hf_147⟩ : ∃ g9, g9 = upd f36_127 (nI u_135).toNatClampNeg z_145 := ⟨_, rfl⟩
                  rw [← hf_147] at hP hD
                  rw [nI_clamp (n := u_135) (by omega)] at hf_147
                  refine lv_iinc (v := nI (i_126 + 1)) (lv' := [(10, .int (nI (i_126 + 1))), (9, .int kp_60), (7, .long be_61), (6, .int (nI n_42)), (0, .ref h0)]) hx hb dX9_blend_773 hl (k := 0) rfl (nI_add i_126 1) (by decide) rfl (fun ls hl => ?_)
                  refine lv_goto (tgt := 700) hx hb dX9_blend_776 (by decide) ?_
                  exact ih_125 (i_126 + 1, f_146) (mw h0 ad cs (upd iv 35 1) (uF (uF (uF (uF (uF (uF fv 36 f_146) 37 f37_43) 38 f38_51) 39 f39_52) 40 f40_53) 41 f41_54) gv) _ _ ls (by show n_42 - (i_126 + 1) < n_42 - i_126; omega) ⟨rfl, (show (i_126 + 1) ≤ n_42 from by omega)⟩ hP hD hS (lv_sub hl [0, 1, 2, 3, 4] rfl)
                have d_148 := n_eq (a := i_126) (b := 2) (by omega) (by omega) c_143
                refine lv_iload hx hb dX9_blend_756 (lv_at hl 1 rfl) ?_
                refine lv_bipush (v := 41) hx hb dX9_blend_758 (by decide) ?_
                refine lv_idiv hx hb dX9_blend_760 (by decide) ?_
                refine lv_topi (fun z_149 _ => ?_)
                refine lv_bipush (v := 41) hx hb dX9_blend_761 (by decide) ?_
                refine lv_irem hx hb dX9_blend_763 (by decide) ?_
                refine lv_topi (fun z_150 _ => ?_)
                refine lv_goto (tgt := 772) hx hb dX9_blend_764 (by decide) ?_
                refine va_iast (f := f36_127) (n := 10) hx hb hK hP hD hS 23 22 rfl rfl (vp_in_nI (n := u_135) (by omega) (by omega)) dX9_blend_772 (fun H locs hP hD hS => ?_)
                have hP : va_P D vwCl (mw h0 ad cs (upd iv 35 1) (uF (uF (uF (uF (uF (uF fv 36 (upd f36_127 (nI u_135).toNatClampNeg z_150)) 37 f37_43) 38 f38_51) 39 f39_52) 40 f40_53) 41 f41_54) gv) H := hP
                have hD : va_D A (mw h0 ad cs (upd iv 35 1) (uF (uF (uF (uF (uF (uF fv 36 (upd f36_127 (nI u_135).toNatClampNeg z_150)) 37 f37_43) 38 f38_51) 39 f39_52) 40 f40_53) 41 f41_54) gv) := hD
                obtain ⟨f_151, hf_152⟩ : ∃ g9, g9 = upd f36_127 (nI u_135).toNatClampNeg z_150 := ⟨_, rfl⟩
                rw [← hf_152] at hP hD
                rw [nI_clamp (n := u_135) (by omega)] at hf_152
                refine lv_iinc (v := nI (i_126 + 1)) (lv' := [(10, .int (nI (i_126 + 1))), (9, .int kp_60), (7, .long be_61), (6, .int (nI n_42)), (0, .ref h0)]) hx hb dX9_blend_773 hl (k := 0) rfl (nI_add i_126 1) (by decide) rfl (fun ls hl => ?_)
                refine lv_goto (tgt := 700) hx hb dX9_blend_776 (by decide) ?_
                exact ih_125 (i_126 + 1, f_151) (mw h0 ad cs (upd iv 35 1) (uF (uF (uF (uF (uF (uF fv 36 f_151) 37 f37_43) 38 f38_51) 39 f39_52) 40 f40_53) 41 f41_54) gv) _ _ ls (by show n_42 - (i_126 + 1) < n_42 - i_126; omega) ⟨rfl, (show (i_126 + 1) ≤ n_42 from by omega)⟩ hP hD hS (lv_sub hl [0, 1, 2, 3, 4] rfl)
              have d_153 := n_eq (a := i_126) (b := 1) (by omega) (by omega) c_141
              refine lv_iload hx hb dX9_blend_738 (lv_at hl 1 rfl) ?_
              refine lv_sipush (v := 1681) hx hb dX9_blend_740 (by decide) ?_
              refine lv_idiv hx hb dX9_blend_743 (by decide) ?_
              refine lv_topi (fun z_154 _ => ?_)
              refine lv_bipush (v := 41) hx hb dX9_blend_744 (by decide) ?_
              refine lv_irem hx hb dX9_blend_746 (by decide) ?_
              refine lv_topi (fun z_155 _ => ?_)
              refine lv_goto (tgt := 772) hx hb dX9_blend_747 (by decide) ?_
              refine va_iast (f := f36_127) (n := 10) hx hb hK hP hD hS 23 22 rfl rfl (vp_in_nI (n := u_135) (by omega) (by omega)) dX9_blend_772 (fun H locs hP hD hS => ?_)
              have hP : va_P D vwCl (mw h0 ad cs (upd iv 35 1) (uF (uF (uF (uF (uF (uF fv 36 (upd f36_127 (nI u_135).toNatClampNeg z_155)) 37 f37_43) 38 f38_51) 39 f39_52) 40 f40_53) 41 f41_54) gv) H := hP
              have hD : va_D A (mw h0 ad cs (upd iv 35 1) (uF (uF (uF (uF (uF (uF fv 36 (upd f36_127 (nI u_135).toNatClampNeg z_155)) 37 f37_43) 38 f38_51) 39 f39_52) 40 f40_53) 41 f41_54) gv) := hD
              obtain ⟨f_156, hf_157⟩ : ∃ g9, g9 = upd f36_127 (nI u_135).toNatClampNeg z_155 := ⟨_, rfl⟩
              rw [← hf_157] at hP hD
              rw [nI_clamp (n := u_135) (by omega)] at hf_157
              refine lv_iinc (v := nI (i_126 + 1)) (lv' := [(10, .int (nI (i_126 + 1))), (9, .int kp_60), (7, .long be_61), (6, .int (nI n_42)), (0, .ref h0)]) hx hb dX9_blend_773 hl (k := 0) rfl (nI_add i_126 1) (by decide) rfl (fun ls hl => ?_)
              refine lv_goto (tgt := 700) hx hb dX9_blend_776 (by decide) ?_
              exact ih_125 (i_126 + 1, f_156) (mw h0 ad cs (upd iv 35 1) (uF (uF (uF (uF (uF (uF fv 36 f_156) 37 f37_43) 38 f38_51) 39 f39_52) 40 f40_53) 41 f41_54) gv) _ _ ls (by show n_42 - (i_126 + 1) < n_42 - i_126; omega) ⟨rfl, (show (i_126 + 1) ≤ n_42 from by omega)⟩ hP hD hS (lv_sub hl [0, 1, 2, 3, 4] rfl)
            have d_158 := n_eq (a := i_126) (b := 0) (by omega) (by omega) c_139
            refine lv_iload hx hb dX9_blend_723 (lv_at hl 1 rfl) ?_
            refine lv_ldcw hx hb hown (hts (.constant RX9 292 (68921)) (List.mem_of_getElem? (i := 9) rfl)) dX9_blend_725 ?_
            refine lv_idiv hx hb dX9_blend_728 (by decide) ?_
            refine lv_topi (fun z_159 _ => ?_)
            refine lv_goto (tgt := 772) hx hb dX9_blend_729 (by decide) ?_
            refine va_iast (f := f36_127) (n := 10) hx hb hK hP hD hS 23 22 rfl rfl (vp_in_nI (n := u_135) (by omega) (by omega)) dX9_blend_772 (fun H locs hP hD hS => ?_)
            have hP : va_P D vwCl (mw h0 ad cs (upd iv 35 1) (uF (uF (uF (uF (uF (uF fv 36 (upd f36_127 (nI u_135).toNatClampNeg z_159)) 37 f37_43) 38 f38_51) 39 f39_52) 40 f40_53) 41 f41_54) gv) H := hP
            have hD : va_D A (mw h0 ad cs (upd iv 35 1) (uF (uF (uF (uF (uF (uF fv 36 (upd f36_127 (nI u_135).toNatClampNeg z_159)) 37 f37_43) 38 f38_51) 39 f39_52) 40 f40_53) 41 f41_54) gv) := hD
            obtain ⟨f_160, hf_161⟩ : ∃ g9, g9 = upd f36_127 (nI u_135).toNatClampNeg z_159 := ⟨_, rfl⟩
            rw [← hf_161] at hP hD
            rw [nI_clamp (n := u_135) (by omega)] at hf_161
            refine lv_iinc (v := nI (i_126 + 1)) (lv' := [(10, .int (nI (i_126 + 1))), (9, .int kp_60), (7, .long be_61), (6, .int (nI n_42)), (0, .ref h0)]) hx hb dX9_blend_773 hl (k := 0) rfl (nI_add i_126 1) (by decide) rfl (fun ls hl => ?_)
            refine lv_goto (tgt := 700) hx hb dX9_blend_776 (by decide) ?_
            exact ih_125 (i_126 + 1, f_160) (mw h0 ad cs (upd iv 35 1) (uF (uF (uF (uF (uF (uF fv 36 f_160) 37 f37_43) 38 f38_51) 39 f39_52) 40 f40_53) 41 f41_54) gv) _ _ ls (by show n_42 - (i_126 + 1) < n_42 - i_126; omega) ⟨rfl, (show (i_126 + 1) ≤ n_42 from by omega)⟩ hP hD hS (lv_sub hl [0, 1, 2, 3, 4] rfl)
          have d_162 := n_nle (a := 10) (b := i_120) (by omega) (by omega) c_123
          refine lv_aload_n hx hb dX9_blend_683 rfl (lv_at hl 4 rfl) ?_
          refine va_get (D := D) (ci := 9) (v := .ref (ad 36)) (C := RX9) (T := TX9) (N := 44) hx hb hts hin9 hown hK hP 0 rfl rfl 36 (by decide) (hts (.fieldLink RX9 121 "HoneyHouseModel" "parts" "[I") (List.mem_of_getElem? (i := 11) rfl)) (fun _ h9 => h9) rfl dX9_blend_684 ?_
          refine lv_iload hx hb dX9_blend_687 (lv_at hl 0 rfl) ?_
          refine lv_iconst (v := 0) hx hb dX9_blend_689 (by decide) ?_
          refine va_iast (f := f36_121) (n := 10) hx hb hK hP hD hS 23 22 rfl rfl (vp_in_nI (n := i_120) (by omega) (by omega)) dX9_blend_690 (fun H locs hP hD hS => ?_)
          have hP : va_P D vwCl (mw h0 ad cs (upd iv 35 1) (uF (uF (uF (uF (uF (uF fv 36 (upd f36_121 (nI i_120).toNatClampNeg 0)) 37 f37_43) 38 f38_51) 39 f39_52) 40 f40_53) 41 f41_54) gv) H := hP
          have hD : va_D A (mw h0 ad cs (upd iv 35 1) (uF (uF (uF (uF (uF (uF fv 36 (upd f36_121 (nI i_120).toNatClampNeg 0)) 37 f37_43) 38 f38_51) 39 f39_52) 40 f40_53) 41 f41_54) gv) := hD
          obtain ⟨f_163, hf_164⟩ : ∃ g9, g9 = upd f36_121 (nI i_120).toNatClampNeg 0 := ⟨_, rfl⟩
          rw [← hf_164] at hP hD
          rw [nI_clamp (n := i_120) (by omega)] at hf_164
          refine lv_iinc (v := nI (i_120 + 1)) (lv' := [(10, .int (nI (i_120 + 1))), (9, .int kp_60), (7, .long be_61), (6, .int (nI n_42)), (0, .ref h0)]) hx hb dX9_blend_691 hl (k := 0) rfl (nI_add i_120 1) (by decide) rfl (fun ls hl => ?_)
          refine lv_goto (tgt := 676) hx hb dX9_blend_694 (by decide) ?_
          exact ih_119 (i_120 + 1, f_163) (mw h0 ad cs (upd iv 35 1) (uF (uF (uF (uF (uF (uF fv 36 f_163) 37 f37_43) 38 f38_51) 39 f39_52) 40 f40_53) 41 f41_54) gv) _ _ ls (by show 10 - (i_120 + 1) < 10 - i_120; omega) ⟨rfl, (show (i_120 + 1) ≤ 10 from by omega)⟩ hP hD hS (lv_sub hl [0, 1, 2, 3, 4] rfl)
        refine lv_bipush (v := (-2)) hx hb dX9_blend_665 (by decide) ?_
        have hP : va_P D vwCl (mw h0 ad cs (upd iv 35 (iv 35)) (uF (uF (uF (uF (uF (uF fv 36 (fv 36)) 37 f37_43) 38 f38_51) 39 f39_52) 40 f40_53) 41 f41_54) gv) H := hP
        have hD : va_D A (mw h0 ad cs (upd iv 35 (iv 35)) (uF (uF (uF (uF (uF (uF fv 36 (fv 36)) 37 f37_43) 38 f38_51) 39 f39_52) 40 f40_53) 41 f41_54) gv) := hD
        exact W.iret (v := (-2)) hx hb hr (fun t ht hW => ⟨⟨(-2), (-2), rfl, rfl, iv 35, fv 36, f37_43, f38_51, f39_52, f40_53, f41_54, by rw [ht]; exact hP, va_K.moved hW.alike hK, hD⟩, hS.F ht⟩) hS.2.2 dX9_blend_667
      refine lv_iconst (v := 0) hx hb dX9_blend_322 (by decide) ?_
      refine lv_istore (lv' := [(11, .int 0), (10, .int (nI a_59)), (9, .int kp_60), (7, .long be_61), (6, .int (nI n_42)), (5, .int a5), (4, .int (nI j_29)), (3, .int (nI j_19)), (2, .int (nI j_9)), (0, .ref h0)]) hx hb dX9_blend_323 hl (by decide) rfl (fun ls hl => ?_)
      refine lp_V (nL := 20) (σ := Nat × Int32 × Int64) (lv := fun x9 => [(11, .int (nI x9.1)), (10, .int (nI a_59)), (9, .int x9.2.1), (7, .long x9.2.2), (6, .int (nI n_42)), (5, .int a5), (4, .int (nI j_29)), (3, .int (nI j_19)), (2, .int (nI j_9)), (0, .ref h0)]) (μ := fun x9 => j_9 + 1 - x9.1) (J := fun x9 ws9 => ws9 = (mw h0 ad cs iv (uF (uF (uF (uF (uF fv 37 f37_43) 38 f38_51) 39 f39_52) 40 f40_53) 41 f41_54) gv) ∧ (x9.1 ≤ j_9 + 1)) (fun x9 ws9 H locs ls hj hP hD hS hl ih_165 => ?_) (0, kp_60, be_61) (mw h0 ad cs iv (uF (uF (uF (uF (uF fv 37 f37_43) 38 f38_51) 39 f39_52) 40 f40_53) 41 f41_54) gv) _ _ ls ⟨rfl, (show 0 ≤ j_9 + 1 from by omega)⟩ hP hD hS (lv_sub hl [0, 1, 2, 3, 4, 5, 6, 7, 8, 9] rfl)
      obtain ⟨b_166, kp_167, be_168⟩ := x9
      replace hj : ws9 = (mw h0 ad cs iv (uF (uF (uF (uF (uF fv 37 f37_43) 38 f38_51) 39 f39_52) 40 f40_53) 41 f41_54) gv) ∧ (b_166 ≤ j_9 + 1) := hj
      obtain ⟨rfl, hb_169⟩ := hj
      have hl : lv_has ls 20 [(11, .int (nI b_166)), (10, .int (nI a_59)), (9, .int kp_167), (7, .long be_168), (6, .int (nI n_42)), (5, .int a5), (4, .int (nI j_29)), (3, .int (nI j_19)), (2, .int (nI j_9)), (0, .ref h0)] := hl
      refine lv_iload hx hb dX9_blend_325 (lv_at hl 1 rfl) ?_
      refine lv_iload hx hb dX9_blend_327 (lv_at hl 0 rfl) ?_
      refine lv_iadd hx hb dX9_blend_329 ?_
      refine tp_i (y := nI (a_59 + b_166)) (nI_add a_59 b_166) ?_
      refine lv_iload_n hx hb dX9_blend_330 rfl (lv_at hl 8 rfl) ?_
      refine lv_icmp_gt (tgt := 652) hx hb dX9_blend_331 (by decide) (fun c_170 => ?_) (fun c_170 => ?_)
      · have d_171 := n_lt (a := j_9) (b := a_59 + b_166) (by omega) (by omega) c_170
        refine lv_iinc (v := nI (a_59 + 1)) (lv' := [(10, .int (nI (a_59 + 1))), (11, .int (nI b_166)), (9, .int kp_167), (7, .long be_168), (6, .int (nI n_42)), (5, .int a5), (4, .int (nI j_29)), (3, .int (nI j_19)), (2, .int (nI j_9)), (0, .ref h0)]) hx hb dX9_blend_652 hl (k := 1) rfl (nI_add a_59 1) (by decide) rfl (fun ls hl => ?_)
        refine lv_goto (tgt := 305) hx hb dX9_blend_655 (by decide) ?_
        exact ih_58 (a_59 + 1, kp_167, be_168) (mw h0 ad cs iv (uF (uF (uF (uF (uF fv 37 f37_43) 38 f38_51) 39 f39_52) 40 f40_53) 41 f41_54) gv) _ _ ls (by show j_9 + 1 - (a_59 + 1) < j_9 + 1 - a_59; omega) ⟨rfl, (show (a_59 + 1) ≤ j_9 + 1 from by omega)⟩ hP hD hS (lv_sub hl [0, 2, 3, 4, 5, 6, 7, 8, 9] rfl)
      have d_172 := n_nlt (a := j_9) (b := a_59 + b_166) (by omega) (by omega) c_170
      refine lv_iload hx hb dX9_blend_334 (lv_at hl 0 rfl) ?_
      refine lv_aload_n hx hb dX9_blend_336 rfl (lv_at hl 9 rfl) ?_
      refine va_get (D := D) (ci := 9) (v := .ref (ad 41)) (C := RX9) (T := TX9) (N := 44) hx hb hts hin9 hown hK hP 0 rfl rfl 41 (by decide) (hts (.fieldLink RX9 136 "HoneyHouseModel" "there" "[I") (List.mem_of_getElem? (i := 7) rfl)) (fun _ h9 => h9) rfl dX9_blend_337 ?_
      refine lv_iconst (v := 1) hx hb dX9_blend_340 (by decide) ?_
      refine va_iald (f := f41_54) (n := 4) hx hb hK hP 28 27 rfl rfl (vp_in_iff.mpr (by decide)) dX9_blend_341 ?_
      refine lv_topi (fun z_173 hz_174 => ?_)
      refine lv_icmp_gt (tgt := 652) hx hb dX9_blend_342 (by decide) (fun c_175 => ?_) (fun c_175 => ?_)
      · refine lv_iinc (v := nI (a_59 + 1)) (lv' := [(10, .int (nI (a_59 + 1))), (11, .int (nI b_166)), (9, .int kp_167), (7, .long be_168), (6, .int (nI n_42)), (5, .int a5), (4, .int (nI j_29)), (3, .int (nI j_19)), (2, .int (nI j_9)), (0, .ref h0)]) hx hb dX9_blend_652 hl (k := 1) rfl (nI_add a_59 1) (by decide) rfl (fun ls hl => ?_)
        refine lv_goto (tgt := 305) hx hb dX9_blend_655 (by decide) ?_
        exact ih_58 (a_59 + 1, kp_167, be_168) (mw h0 ad cs iv (uF (uF (uF (uF (uF fv 37 f37_43) 38 f38_51) 39 f39_52) 40 f40_53) 41 f41_54) gv) _ _ ls (by show j_9 + 1 - (a_59 + 1) < j_9 + 1 - a_59; omega) ⟨rfl, (show (a_59 + 1) ≤ j_9 + 1 from by omega)⟩ hP hD hS (lv_sub hl [0, 2, 3, 4, 5, 6, 7, 8, 9] rfl)
      refine lv_iconst (v := 0) hx hb dX9_blend_345 (by decide) ?_
      refine lv_istore (lv' := [(12, .int 0), (11, .int (nI b_166)), (10, .int (nI a_59)), (9, .int kp_167), (7, .long be_168), (6, .int (nI n_42)), (5, .int a5), (4, .int (nI j_29)), (3, .int (nI j_19)), (2, .int (nI j_9)), (0, .ref h0)]) hx hb dX9_blend_346 hl (by decide) rfl (fun ls hl => ?_)
      refine lp_V (nL := 20) (σ := Nat × Int32 × Int64) (lv := fun x9 => [(12, .int (nI x9.1)), (11, .int (nI b_166)), (10, .int (nI a_59)), (9, .int x9.2.1), (7, .long x9.2.2), (6, .int (nI n_42)), (5, .int a5), (4, .int (nI j_29)), (3, .int (nI j_19)), (2, .int (nI j_9)), (0, .ref h0)]) (μ := fun x9 => j_9 + 1 - x9.1) (J := fun x9 ws9 => ws9 = (mw h0 ad cs iv (uF (uF (uF (uF (uF fv 37 f37_43) 38 f38_51) 39 f39_52) 40 f40_53) 41 f41_54) gv) ∧ (x9.1 ≤ j_9 + 1)) (fun x9 ws9 H locs ls hj hP hD hS hl ih_176 => ?_) (0, kp_167, be_168) (mw h0 ad cs iv (uF (uF (uF (uF (uF fv 37 f37_43) 38 f38_51) 39 f39_52) 40 f40_53) 41 f41_54) gv) _ _ ls ⟨rfl, (show 0 ≤ j_9 + 1 from by omega)⟩ hP hD hS (lv_sub hl [0, 1, 2, 3, 4, 5, 6, 7, 8, 9, 10] rfl)
      obtain ⟨c9_177, kp_178, be_179⟩ := x9
      replace hj : ws9 = (mw h0 ad cs iv (uF (uF (uF (uF (uF fv 37 f37_43) 38 f38_51) 39 f39_52) 40 f40_53) 41 f41_54) gv) ∧ (c9_177 ≤ j_9 + 1) := hj
      obtain ⟨rfl, hc_180⟩ := hj
      have hl : lv_has ls 20 [(12, .int (nI c9_177)), (11, .int (nI b_166)), (10, .int (nI a_59)), (9, .int kp_178), (7, .long be_179), (6, .int (nI n_42)), (5, .int a5), (4, .int (nI j_29)), (3, .int (nI j_19)), (2, .int (nI j_9)), (0, .ref h0)] := hl
      refine lv_iload hx hb dX9_blend_348 (lv_at hl 2 rfl) ?_
      refine lv_iload hx hb dX9_blend_350 (lv_at hl 1 rfl) ?_
      refine lv_iadd hx hb dX9_blend_352 ?_
      refine tp_i (y := nI (a_59 + b_166)) (nI_add a_59 b_166) ?_
      refine lv_iload hx hb dX9_blend_353 (lv_at hl 0 rfl) ?_
      refine lv_iadd hx hb dX9_blend_355 ?_
      refine tp_i (y := nI ((a_59 + b_166) + c9_177)) (nI_add (a_59 + b_166) c9_177) ?_
      refine lv_iload_n hx hb dX9_blend_356 rfl (lv_at hl 9 rfl) ?_
      refine lv_icmp_gt (tgt := 646) hx hb dX9_blend_357 (by decide) (fun c_181 => ?_) (fun c_181 => ?_)
      · have d_182 := n_lt (a := j_9) (b := (a_59 + b_166) + c9_177) (by omega) (by omega) c_181
        refine lv_iinc (v := nI (b_166 + 1)) (lv' := [(11, .int (nI (b_166 + 1))), (12, .int (nI c9_177)), (10, .int (nI a_59)), (9, .int kp_178), (7, .long be_179), (6, .int (nI n_42)), (5, .int a5), (4, .int (nI j_29)), (3, .int (nI j_19)), (2, .int (nI j_9)), (0, .ref h0)]) hx hb dX9_blend_646 hl (k := 1) rfl (nI_add b_166 1) (by decide) rfl (fun ls hl => ?_)
        refine lv_goto (tgt := 325) hx hb dX9_blend_649 (by decide) ?_
        exact ih_165 (b_166 + 1, kp_178, be_179) (mw h0 ad cs iv (uF (uF (uF (uF (uF fv 37 f37_43) 38 f38_51) 39 f39_52) 40 f40_53) 41 f41_54) gv) _ _ ls (by show j_9 + 1 - (b_166 + 1) < j_9 + 1 - b_166; omega) ⟨rfl, (show (b_166 + 1) ≤ j_9 + 1 from by omega)⟩ hP hD hS (lv_sub hl [0, 2, 3, 4, 5, 6, 7, 8, 9, 10] rfl)
      have d_183 := n_nlt (a := j_9) (b := (a_59 + b_166) + c9_177) (by omega) (by omega) c_181
      refine lv_iload hx hb dX9_blend_360 (lv_at hl 0 rfl) ?_
      refine lv_aload_n hx hb dX9_blend_362 rfl (lv_at hl 10 rfl) ?_
      refine va_get (D := D) (ci := 9) (v := .ref (ad 41)) (C := RX9) (T := TX9) (N := 44) hx hb hts hin9 hown hK hP 0 rfl rfl 41 (by decide) (hts (.fieldLink RX9 136 "HoneyHouseModel" "there" "[I") (List.mem_of_getElem? (i := 7) rfl)) (fun _ h9 => h9) rfl dX9_blend_363 ?_
      refine lv_iconst (v := 2) hx hb dX9_blend_366 (by decide) ?_
      refine va_iald (f := f41_54) (n := 4) hx hb hK hP 28 27 rfl rfl (vp_in_iff.mpr (by decide)) dX9_blend_367 ?_
      refine lv_topi (fun z_184 hz_185 => ?_)
      refine lv_icmp_gt (tgt := 646) hx hb dX9_blend_368 (by decide) (fun c_186 => ?_) (fun c_186 => ?_)
      · refine lv_iinc (v := nI (b_166 + 1)) (lv' := [(11, .int (nI (b_166 + 1))), (12, .int (nI c9_177)), (10, .int (nI a_59)), (9, .int kp_178), (7, .long be_179), (6, .int (nI n_42)), (5, .int a5), (4, .int (nI j_29)), (3, .int (nI j_19)), (2, .int (nI j_9)), (0, .ref h0)]) hx hb dX9_blend_646 hl (k := 1) rfl (nI_add b_166 1) (by decide) rfl (fun ls hl => ?_)
        refine lv_goto (tgt := 325) hx hb dX9_blend_649 (by decide) ?_
        exact ih_165 (b_166 + 1, kp_178, be_179) (mw h0 ad cs iv (uF (uF (uF (uF (uF fv 37 f37_43) 38 f38_51) 39 f39_52) 40 f40_53) 41 f41_54) gv) _ _ ls (by show j_9 + 1 - (b_166 + 1) < j_9 + 1 - b_166; omega) ⟨rfl, (show (b_166 + 1) ≤ j_9 + 1 from by omega)⟩ hP hD hS (lv_sub hl [0, 2, 3, 4, 5, 6, 7, 8, 9, 10] rfl)
      refine lv_iload_n hx hb dX9_blend_371 rfl (lv_at hl 9 rfl) ?_
      refine lv_iload hx hb dX9_blend_372 (lv_at hl 2 rfl) ?_
      refine lv_isub hx hb dX9_blend_374 ?_
      refine tp_i (y := nI (j_9 - a_59)) (pk_sub (a := j_9) (b := a_59) (by omega)) ?_
      refine lv_iload hx hb dX9_blend_375 (lv_at hl 1 rfl) ?_
      refine lv_isub hx hb dX9_blend_377 ?_
      refine tp_i (y := nI ((j_9 - a_59) - b_166)) (pk_sub (a := j_9 - a_59) (b := b_166) (by omega)) ?_
      refine lv_iload hx hb dX9_blend_378 (lv_at hl 0 rfl) ?_
      refine lv_isub hx hb dX9_blend_380 ?_
      refine tp_i (y := nI (((j_9 - a_59) - b_166) - c9_177)) (pk_sub (a := (j_9 - a_59) - b_166) (b := c9_177) (by omega)) ?_
      refine lv_istore (lv' := [(13, .int (nI (((j_9 - a_59) - b_166) - c9_177))), (12, .int (nI c9_177)), (11, .int (nI b_166)), (10, .int (nI a_59)), (9, .int kp_178), (7, .long be_179), (6, .int (nI n_42)), (5, .int a5), (4, .int (nI j_29)), (3, .int (nI j_19)), (2, .int (nI j_9)), (0, .ref h0)]) hx hb dX9_blend_381 hl (by decide) rfl (fun ls hl => ?_)
      refine lv_iload hx hb dX9_blend_383 (lv_at hl 0 rfl) ?_
      refine lv_aload_n hx hb dX9_blend_385 rfl (lv_at hl 11 rfl) ?_
      refine va_get (D := D) (ci := 9) (v := .ref (ad 41)) (C := RX9) (T := TX9) (N := 44) hx hb hts hin9 hown hK hP 0 rfl rfl 41 (by decide) (hts (.fieldLink RX9 136 "HoneyHouseModel" "there" "[I") (List.mem_of_getElem? (i := 7) rfl)) (fun _ h9 => h9) rfl dX9_blend_386 ?_
      refine lv_iconst (v := 3) hx hb dX9_blend_389 (by decide) ?_
      refine va_iald (f := f41_54) (n := 4) hx hb hK hP 28 27 rfl rfl (vp_in_iff.mpr (by decide)) dX9_blend_390 ?_
      refine lv_topi (fun z_187 hz_188 => ?_)
      refine lv_icmp_le (tgt := 397) hx hb dX9_blend_391 (by decide) (fun c_189 => ?_) (fun c_189 => ?_)
      · refine lv_iload hx hb dX9_blend_397 (lv_at hl 3 rfl) ?_
        refine lv_i2l hx hb dX9_blend_399 rfl ?_
        refine lv_aload_n hx hb dX9_blend_400 rfl (lv_at hl 11 rfl) ?_
        refine va_get (D := D) (ci := 9) (v := .ref (ad 38)) (C := RX9) (T := TX9) (N := 44) hx hb hts hin9 hown hK hP 0 rfl rfl 38 (by decide) (hts (.fieldLink RX9 127 "HoneyHouseModel" "wet" "[I") (List.mem_of_getElem? (i := 2) rfl)) (fun _ h9 => h9) rfl dX9_blend_401 ?_
        refine lv_iconst (v := 0) hx hb dX9_blend_404 (by decide) ?_
        refine va_iald (f := f38_51) (n := 4) hx hb hK hP 25 24 rfl rfl (vp_in_iff.mpr (by decide)) dX9_blend_405 ?_
        refine lv_topi (fun z_190 hz_191 => ?_)
        refine lv_i2l hx hb dX9_blend_406 rfl ?_
        refine lv_lmul hx hb dX9_blend_407 ?_
        refine lv_topl (fun z_192 _ => ?_)
        refine lv_iload hx hb dX9_blend_408 (lv_at hl 2 rfl) ?_
        refine lv_i2l hx hb dX9_blend_410 rfl ?_
        refine lv_aload_n hx hb dX9_blend_411 rfl (lv_at hl 11 rfl) ?_
        refine va_get (D := D) (ci := 9) (v := .ref (ad 38)) (C := RX9) (T := TX9) (N := 44) hx hb hts hin9 hown hK hP 0 rfl rfl 38 (by decide) (hts (.fieldLink RX9 127 "HoneyHouseModel" "wet" "[I") (List.mem_of_getElem? (i := 2) rfl)) (fun _ h9 => h9) rfl dX9_blend_412 ?_
        refine lv_iconst (v := 1) hx hb dX9_blend_415 (by decide) ?_
        refine va_iald (f := f38_51) (n := 4) hx hb hK hP 25 24 rfl rfl (vp_in_iff.mpr (by decide)) dX9_blend_416 ?_
        refine lv_topi (fun z_193 hz_194 => ?_)
        refine lv_i2l hx hb dX9_blend_417 rfl ?_
        refine lv_lmul hx hb dX9_blend_418 ?_
        refine lv_topl (fun z_195 _ => ?_)
        refine lv_ladd hx hb dX9_blend_419 ?_
        refine lv_topl (fun z_196 _ => ?_)
        refine lv_iload hx hb dX9_blend_420 (lv_at hl 1 rfl) ?_
        refine lv_i2l hx hb dX9_blend_422 rfl ?_
        refine lv_aload_n hx hb dX9_blend_423 rfl (lv_at hl 11 rfl) ?_
        refine va_get (D := D) (ci := 9) (v := .ref (ad 38)) (C := RX9) (T := TX9) (N := 44) hx hb hts hin9 hown hK hP 0 rfl rfl 38 (by decide) (hts (.fieldLink RX9 127 "HoneyHouseModel" "wet" "[I") (List.mem_of_getElem? (i := 2) rfl)) (fun _ h9 => h9) rfl dX9_blend_424 ?_
        refine lv_iconst (v := 2) hx hb dX9_blend_427 (by decide) ?_
        refine va_iald (f := f38_51) (n := 4) hx hb hK hP 25 24 rfl rfl (vp_in_iff.mpr (by decide)) dX9_blend_428 ?_
        refine lv_topi (fun z_197 hz_198 => ?_)
        refine lv_i2l hx hb dX9_blend_429 rfl ?_
        refine lv_lmul hx hb dX9_blend_430 ?_
        refine lv_topl (fun z_199 _ => ?_)
        refine lv_ladd hx hb dX9_blend_431 ?_
        refine lv_topl (fun z_200 _ => ?_)
        refine lv_iload hx hb dX9_blend_432 (lv_at hl 0 rfl) ?_
        refine lv_i2l hx hb dX9_blend_434 rfl ?_
        refine lv_aload_n hx hb dX9_blend_435 rfl (lv_at hl 11 rfl) ?_
        refine va_get (D := D) (ci := 9) (v := .ref (ad 38)) (C := RX9) (T := TX9) (N := 44) hx hb hts hin9 hown hK hP 0 rfl rfl 38 (by decide) (hts (.fieldLink RX9 127 "HoneyHouseModel" "wet" "[I") (List.mem_of_getElem? (i := 2) rfl)) (fun _ h9 => h9) rfl dX9_blend_436 ?_
        refine lv_iconst (v := 3) hx hb dX9_blend_439 (by decide) ?_
        refine va_iald (f := f38_51) (n := 4) hx hb hK hP 25 24 rfl rfl (vp_in_iff.mpr (by decide)) dX9_blend_440 ?_
        refine lv_topi (fun z_201 hz_202 => ?_)
        refine lv_i2l hx hb dX9_blend_441 rfl ?_
        refine lv_lmul hx hb dX9_blend_442 ?_
        refine lv_topl (fun z_203 _ => ?_)
        refine lv_ladd hx hb dX9_blend_443 ?_
        refine lv_topl (fun z_204 _ => ?_)
        refine lv_lstore (lv' := [(14, .long z_204), (13, .int (nI (((j_9 - a_59) - b_166) - c9_177))), (12, .int (nI c9_177)), (11, .int (nI b_166)), (10, .int (nI a_59)), (9, .int kp_178), (7, .long be_179), (6, .int (nI n_42)), (5, .int a5), (4, .int (nI j_29)), (3, .int (nI j_19)), (2, .int (nI j_9)), (0, .ref h0)]) hx hb dX9_blend_444 hl (by decide) rfl (fun ls hl => ?_)
        refine lv_iload hx hb dX9_blend_446 (lv_at hl 4 rfl) ?_
        refine lv_i2l hx hb dX9_blend_448 rfl ?_
        refine lv_aload_n hx hb dX9_blend_449 rfl (lv_at hl 12 rfl) ?_
        refine va_get (D := D) (ci := 9) (v := .ref (ad 39)) (C := RX9) (T := TX9) (N := 44) hx hb hts hin9 hown hK hP 0 rfl rfl 39 (by decide) (hts (.fieldLink RX9 130 "HoneyHouseModel" "dark" "[I") (List.mem_of_getElem? (i := 4) rfl)) (fun _ h9 => h9) rfl dX9_blend_450 ?_
        refine lv_iconst (v := 0) hx hb dX9_blend_453 (by decide) ?_
        refine va_iald (f := f39_52) (n := 4) hx hb hK hP 26 25 rfl rfl (vp_in_iff.mpr (by decide)) dX9_blend_454 ?_
        refine lv_topi (fun z_205 hz_206 => ?_)
        refine lv_i2l hx hb dX9_blend_455 rfl ?_
        refine lv_lmul hx hb dX9_blend_456 ?_
        refine lv_topl (fun z_207 _ => ?_)
        refine lv_iload hx hb dX9_blend_457 (lv_at hl 3 rfl) ?_
        refine lv_i2l hx hb dX9_blend_459 rfl ?_
        refine lv_aload_n hx hb dX9_blend_460 rfl (lv_at hl 12 rfl) ?_
        refine va_get (D := D) (ci := 9) (v := .ref (ad 39)) (C := RX9) (T := TX9) (N := 44) hx hb hts hin9 hown hK hP 0 rfl rfl 39 (by decide) (hts (.fieldLink RX9 130 "HoneyHouseModel" "dark" "[I") (List.mem_of_getElem? (i := 4) rfl)) (fun _ h9 => h9) rfl dX9_blend_461 ?_
        refine lv_iconst (v := 1) hx hb dX9_blend_464 (by decide) ?_
        refine va_iald (f := f39_52) (n := 4) hx hb hK hP 26 25 rfl rfl (vp_in_iff.mpr (by decide)) dX9_blend_465 ?_
        refine lv_topi (fun z_208 hz_209 => ?_)
        refine lv_i2l hx hb dX9_blend_466 rfl ?_
        refine lv_lmul hx hb dX9_blend_467 ?_
        refine lv_topl (fun z_210 _ => ?_)
        refine lv_ladd hx hb dX9_blend_468 ?_
        refine lv_topl (fun z_211 _ => ?_)
        refine lv_iload hx hb dX9_blend_469 (lv_at hl 2 rfl) ?_
        refine lv_i2l hx hb dX9_blend_471 rfl ?_
        refine lv_aload_n hx hb dX9_blend_472 rfl (lv_at hl 12 rfl) ?_
        refine va_get (D := D) (ci := 9) (v := .ref (ad 39)) (C := RX9) (T := TX9) (N := 44) hx hb hts hin9 hown hK hP 0 rfl rfl 39 (by decide) (hts (.fieldLink RX9 130 "HoneyHouseModel" "dark" "[I") (List.mem_of_getElem? (i := 4) rfl)) (fun _ h9 => h9) rfl dX9_blend_473 ?_
        refine lv_iconst (v := 2) hx hb dX9_blend_476 (by decide) ?_
        refine va_iald (f := f39_52) (n := 4) hx hb hK hP 26 25 rfl rfl (vp_in_iff.mpr (by decide)) dX9_blend_477 ?_
        refine lv_topi (fun z_212 hz_213 => ?_)
        refine lv_i2l hx hb dX9_blend_478 rfl ?_
        refine lv_lmul hx hb dX9_blend_479 ?_
        refine lv_topl (fun z_214 _ => ?_)
        refine lv_ladd hx hb dX9_blend_480 ?_
        refine lv_topl (fun z_215 _ => ?_)
        refine lv_iload hx hb dX9_blend_481 (lv_at hl 1 rfl) ?_
        refine lv_i2l hx hb dX9_blend_483 rfl ?_
        refine lv_aload_n hx hb dX9_blend_484 rfl (lv_at hl 12 rfl) ?_
        refine va_get (D := D) (ci := 9) (v := .ref (ad 39)) (C := RX9) (T := TX9) (N := 44) hx hb hts hin9 hown hK hP 0 rfl rfl 39 (by decide) (hts (.fieldLink RX9 130 "HoneyHouseModel" "dark" "[I") (List.mem_of_getElem? (i := 4) rfl)) (fun _ h9 => h9) rfl dX9_blend_485 ?_
        refine lv_iconst (v := 3) hx hb dX9_blend_488 (by decide) ?_
        refine va_iald (f := f39_52) (n := 4) hx hb hK hP 26 25 rfl rfl (vp_in_iff.mpr (by decide)) dX9_blend_489 ?_
        refine lv_topi (fun z_216 hz_217 => ?_)
        refine lv_i2l hx hb dX9_blend_490 rfl ?_
        refine lv_lmul hx hb dX9_blend_491 ?_
        refine lv_topl (fun z_218 _ => ?_)
        refine lv_ladd hx hb dX9_blend_492 ?_
        refine lv_topl (fun z_219 _ => ?_)
        refine lv_lstore (lv' := [(16, .long z_219), (14, .long z_204), (13, .int (nI (((j_9 - a_59) - b_166) - c9_177))), (12, .int (nI c9_177)), (11, .int (nI b_166)), (10, .int (nI a_59)), (9, .int kp_178), (7, .long be_179), (6, .int (nI n_42)), (5, .int a5), (4, .int (nI j_29)), (3, .int (nI j_19)), (2, .int (nI j_9)), (0, .ref h0)]) hx hb dX9_blend_493 hl (by decide) rfl (fun ls hl => ?_)
        refine lv_lload hx hb dX9_blend_495 (lv_at hl 1 rfl) ?_
        refine lv_ldc2 hx hb hown (hts (.constantLong RX9 185 (10)) (List.mem_of_getElem? (i := 3) rfl)) dX9_blend_497 ?_
        refine lv_iload_n hx hb dX9_blend_500 rfl (lv_at hl 12 rfl) ?_
        refine lv_i2l hx hb dX9_blend_501 rfl ?_
        refine lv_lmul hx hb dX9_blend_502 ?_
        refine lv_topl (fun z_220 _ => ?_)
        refine lv_iload_n hx hb dX9_blend_503 rfl (lv_at hl 11 rfl) ?_
        refine lv_i2l hx hb dX9_blend_504 rfl ?_
        refine lv_lmul hx hb dX9_blend_505 ?_
        refine lv_topl (fun z_221 _ => ?_)
        refine W.lcmp hx hb dX9_blend_506 ?_
        refine lv_topi (fun z_222 _ => ?_)
        refine lv_if_gt (tgt := 640) hx hb dX9_blend_507 (by decide) (fun c_223 => ?_) (fun c_223 => ?_)
        · refine lv_iinc (v := nI (c9_177 + 1)) (lv' := [(12, .int (nI (c9_177 + 1))), (16, .long z_219), (14, .long z_204), (13, .int (nI (((j_9 - a_59) - b_166) - c9_177))), (11, .int (nI b_166)), (10, .int (nI a_59)), (9, .int kp_178), (7, .long be_179), (6, .int (nI n_42)), (5, .int a5), (4, .int (nI j_29)), (3, .int (nI j_19)), (2, .int (nI j_9)), (0, .ref h0)]) hx hb dX9_blend_640 hl (k := 3) rfl (nI_add c9_177 1) (by decide) rfl (fun ls hl => ?_)
          refine lv_goto (tgt := 348) hx hb dX9_blend_643 (by decide) ?_
          exact ih_176 (c9_177 + 1, kp_178, be_179) (mw h0 ad cs iv (uF (uF (uF (uF (uF fv 37 f37_43) 38 f38_51) 39 f39_52) 40 f40_53) 41 f41_54) gv) _ _ ls (by show j_9 + 1 - (c9_177 + 1) < j_9 + 1 - c9_177; omega) ⟨rfl, (show (c9_177 + 1) ≤ j_9 + 1 from by omega)⟩ hP hD hS (lv_sub hl [0, 4, 5, 6, 7, 8, 9, 10, 11, 12, 13] rfl)
        refine lv_lload hx hb dX9_blend_510 (lv_at hl 0 rfl) ?_
        refine lv_ldc2 hx hb hown (hts (.constantLong RX9 185 (10)) (List.mem_of_getElem? (i := 3) rfl)) dX9_blend_512 ?_
        refine lv_iload_n hx hb dX9_blend_515 rfl (lv_at hl 12 rfl) ?_
        refine lv_i2l hx hb dX9_blend_516 rfl ?_
        refine lv_lmul hx hb dX9_blend_517 ?_
        refine lv_topl (fun z_224 _ => ?_)
        refine lv_iload hx hb dX9_blend_518 (lv_at hl 10 rfl) ?_
        refine lv_i2l hx hb dX9_blend_520 rfl ?_
        refine lv_lmul hx hb dX9_blend_521 ?_
        refine lv_topl (fun z_225 _ => ?_)
        refine W.lcmp hx hb dX9_blend_522 ?_
        refine lv_topi (fun z_226 _ => ?_)
        refine lv_if_lt (tgt := 640) hx hb dX9_blend_523 (by decide) (fun c_227 => ?_) (fun c_227 => ?_)
        · refine lv_iinc (v := nI (c9_177 + 1)) (lv' := [(12, .int (nI (c9_177 + 1))), (16, .long z_219), (14, .long z_204), (13, .int (nI (((j_9 - a_59) - b_166) - c9_177))), (11, .int (nI b_166)), (10, .int (nI a_59)), (9, .int kp_178), (7, .long be_179), (6, .int (nI n_42)), (5, .int a5), (4, .int (nI j_29)), (3, .int (nI j_19)), (2, .int (nI j_9)), (0, .ref h0)]) hx hb dX9_blend_640 hl (k := 3) rfl (nI_add c9_177 1) (by decide) rfl (fun ls hl => ?_)
          refine lv_goto (tgt := 348) hx hb dX9_blend_643 (by decide) ?_
          exact ih_176 (c9_177 + 1, kp_178, be_179) (mw h0 ad cs iv (uF (uF (uF (uF (uF fv 37 f37_43) 38 f38_51) 39 f39_52) 40 f40_53) 41 f41_54) gv) _ _ ls (by show j_9 + 1 - (c9_177 + 1) < j_9 + 1 - c9_177; omega) ⟨rfl, (show (c9_177 + 1) ≤ j_9 + 1 from by omega)⟩ hP hD hS (lv_sub hl [0, 4, 5, 6, 7, 8, 9, 10, 11, 12, 13] rfl)
        refine lv_lload hx hb dX9_blend_526 (lv_at hl 0 rfl) ?_
        refine lv_ldc2 hx hb hown (hts (.constantLong RX9 185 (10)) (List.mem_of_getElem? (i := 3) rfl)) dX9_blend_528 ?_
        refine lv_iload_n hx hb dX9_blend_531 rfl (lv_at hl 12 rfl) ?_
        refine lv_i2l hx hb dX9_blend_532 rfl ?_
        refine lv_lmul hx hb dX9_blend_533 ?_
        refine lv_topl (fun z_228 _ => ?_)
        refine lv_iload hx hb dX9_blend_534 (lv_at hl 9 rfl) ?_
        refine lv_i2l hx hb dX9_blend_536 rfl ?_
        refine lv_lmul hx hb dX9_blend_537 ?_
        refine lv_topl (fun z_229 _ => ?_)
        refine W.lcmp hx hb dX9_blend_538 ?_
        refine lv_topi (fun z_230 _ => ?_)
        refine lv_if_le (tgt := 545) hx hb dX9_blend_539 (by decide) (fun c_231 => ?_) (fun c_231 => ?_)
        · refine lv_iload hx hb dX9_blend_545 (lv_at hl 5 rfl) ?_
          refine lv_i2l hx hb dX9_blend_547 rfl ?_
          refine lv_aload_n hx hb dX9_blend_548 rfl (lv_at hl 13 rfl) ?_
          refine va_get (D := D) (ci := 9) (v := .ref (ad 40)) (C := RX9) (T := TX9) (N := 44) hx hb hts hin9 hown hK hP 0 rfl rfl 40 (by decide) (hts (.fieldLink RX9 133 "HoneyHouseModel" "cost" "[I") (List.mem_of_getElem? (i := 5) rfl)) (fun _ h9 => h9) rfl dX9_blend_549 ?_
          refine lv_iconst (v := 0) hx hb dX9_blend_552 (by decide) ?_
          refine va_iald (f := f40_53) (n := 4) hx hb hK hP 27 26 rfl rfl (vp_in_iff.mpr (by decide)) dX9_blend_553 ?_
          refine lv_topi (fun z_232 hz_233 => ?_)
          refine lv_i2l hx hb dX9_blend_554 rfl ?_
          refine lv_lmul hx hb dX9_blend_555 ?_
          refine lv_topl (fun z_234 _ => ?_)
          refine lv_iload hx hb dX9_blend_556 (lv_at hl 4 rfl) ?_
          refine lv_i2l hx hb dX9_blend_558 rfl ?_
          refine lv_aload_n hx hb dX9_blend_559 rfl (lv_at hl 13 rfl) ?_
          refine va_get (D := D) (ci := 9) (v := .ref (ad 40)) (C := RX9) (T := TX9) (N := 44) hx hb hts hin9 hown hK hP 0 rfl rfl 40 (by decide) (hts (.fieldLink RX9 133 "HoneyHouseModel" "cost" "[I") (List.mem_of_getElem? (i := 5) rfl)) (fun _ h9 => h9) rfl dX9_blend_560 ?_
          refine lv_iconst (v := 1) hx hb dX9_blend_563 (by decide) ?_
          refine va_iald (f := f40_53) (n := 4) hx hb hK hP 27 26 rfl rfl (vp_in_iff.mpr (by decide)) dX9_blend_564 ?_
          refine lv_topi (fun z_235 hz_236 => ?_)
          refine lv_i2l hx hb dX9_blend_565 rfl ?_
          refine lv_lmul hx hb dX9_blend_566 ?_
          refine lv_topl (fun z_237 _ => ?_)
          refine lv_ladd hx hb dX9_blend_567 ?_
          refine lv_topl (fun z_238 _ => ?_)
          refine lv_iload hx hb dX9_blend_568 (lv_at hl 3 rfl) ?_
          refine lv_i2l hx hb dX9_blend_570 rfl ?_
          refine lv_aload_n hx hb dX9_blend_571 rfl (lv_at hl 13 rfl) ?_
          refine va_get (D := D) (ci := 9) (v := .ref (ad 40)) (C := RX9) (T := TX9) (N := 44) hx hb hts hin9 hown hK hP 0 rfl rfl 40 (by decide) (hts (.fieldLink RX9 133 "HoneyHouseModel" "cost" "[I") (List.mem_of_getElem? (i := 5) rfl)) (fun _ h9 => h9) rfl dX9_blend_572 ?_
          refine lv_iconst (v := 2) hx hb dX9_blend_575 (by decide) ?_
          refine va_iald (f := f40_53) (n := 4) hx hb hK hP 27 26 rfl rfl (vp_in_iff.mpr (by decide)) dX9_blend_576 ?_
          refine lv_topi (fun z_239 hz_240 => ?_)
          refine lv_i2l hx hb dX9_blend_577 rfl ?_
          refine lv_lmul hx hb dX9_blend_578 ?_
          refine lv_topl (fun z_241 _ => ?_)
          refine lv_ladd hx hb dX9_blend_579 ?_
          refine lv_topl (fun z_242 _ => ?_)
          refine lv_iload hx hb dX9_blend_580 (lv_at hl 2 rfl) ?_
          refine lv_i2l hx hb dX9_blend_582 rfl ?_
          refine lv_aload_n hx hb dX9_blend_583 rfl (lv_at hl 13 rfl) ?_
          refine va_get (D := D) (ci := 9) (v := .ref (ad 40)) (C := RX9) (T := TX9) (N := 44) hx hb hts hin9 hown hK hP 0 rfl rfl 40 (by decide) (hts (.fieldLink RX9 133 "HoneyHouseModel" "cost" "[I") (List.mem_of_getElem? (i := 5) rfl)) (fun _ h9 => h9) rfl dX9_blend_584 ?_
          refine lv_iconst (v := 3) hx hb dX9_blend_587 (by decide) ?_
          refine va_iald (f := f40_53) (n := 4) hx hb hK hP 27 26 rfl rfl (vp_in_iff.mpr (by decide)) dX9_blend_588 ?_
          refine lv_topi (fun z_243 hz_244 => ?_)
          refine lv_i2l hx hb dX9_blend_589 rfl ?_
          refine lv_lmul hx hb dX9_blend_590 ?_
          refine lv_topl (fun z_245 _ => ?_)
          refine lv_ladd hx hb dX9_blend_591 ?_
          refine lv_topl (fun z_246 _ => ?_)
          refine lv_lstore (lv' := [(18, .long z_246), (16, .long z_219), (14, .long z_204), (13, .int (nI (((j_9 - a_59) - b_166) - c9_177))), (12, .int (nI c9_177)), (11, .int (nI b_166)), (10, .int (nI a_59)), (9, .int kp_178), (7, .long be_179), (6, .int (nI n_42)), (5, .int a5), (4, .int (nI j_29)), (3, .int (nI j_19)), (2, .int (nI j_9)), (0, .ref h0)]) hx hb dX9_blend_592 hl (by decide) rfl (fun ls hl => ?_)
          refine lv_lload hx hb dX9_blend_594 (lv_at hl 8 rfl) ?_
          refine lv_lconst (v := 0) hx hb dX9_blend_596 (by decide) ?_
          refine W.lcmp hx hb dX9_blend_597 ?_
          refine lv_topi (fun z_247 _ => ?_)
          refine lv_if_lt (tgt := 612) hx hb dX9_blend_598 (by decide) (fun c_248 => ?_) (fun c_248 => ?_)
          · refine lv_lload hx hb dX9_blend_612 (lv_at hl 0 rfl) ?_
            refine lv_lstore (lv' := [(7, .long z_246), (18, .long z_246), (16, .long z_219), (14, .long z_204), (13, .int (nI (((j_9 - a_59) - b_166) - c9_177))), (12, .int (nI c9_177)), (11, .int (nI b_166)), (10, .int (nI a_59)), (9, .int kp_178), (6, .int (nI n_42)), (5, .int a5), (4, .int (nI j_29)), (3, .int (nI j_19)), (2, .int (nI j_9)), (0, .ref h0)]) hx hb dX9_blend_614 hl (by decide) rfl (fun ls hl => ?_)
            refine lv_ldcw hx hb hown (hts (.constant RX9 292 (68921)) (List.mem_of_getElem? (i := 9) rfl)) dX9_blend_616 ?_
            refine lv_iload hx hb dX9_blend_619 (lv_at hl 7 rfl) ?_
            refine lv_imul hx hb dX9_blend_621 ?_
            refine tp_i (y := nI (68921 * a_59)) (pk_mul 68921 a_59) ?_
            refine lv_sipush (v := 1681) hx hb dX9_blend_622 (by decide) ?_
            refine lv_iload hx hb dX9_blend_625 (lv_at hl 6 rfl) ?_
            refine lv_imul hx hb dX9_blend_627 ?_
            refine tp_i (y := nI (1681 * b_166)) (pk_mul 1681 b_166) ?_
            refine lv_iadd hx hb dX9_blend_628 ?_
            refine tp_i (y := nI ((68921 * a_59) + (1681 * b_166))) (nI_add (68921 * a_59) (1681 * b_166)) ?_
            refine lv_bipush (v := 41) hx hb dX9_blend_629 (by decide) ?_
            refine lv_iload hx hb dX9_blend_631 (lv_at hl 5 rfl) ?_
            refine lv_imul hx hb dX9_blend_633 ?_
            refine tp_i (y := nI (41 * c9_177)) (pk_mul 41 c9_177) ?_
            refine lv_iadd hx hb dX9_blend_634 ?_
            refine tp_i (y := nI (((68921 * a_59) + (1681 * b_166)) + (41 * c9_177))) (nI_add ((68921 * a_59) + (1681 * b_166)) (41 * c9_177)) ?_
            refine lv_iload hx hb dX9_blend_635 (lv_at hl 4 rfl) ?_
            refine lv_iadd hx hb dX9_blend_637 ?_
            refine tp_i (y := nI ((((68921 * a_59) + (1681 * b_166)) + (41 * c9_177)) + (((j_9 - a_59) - b_166) - c9_177))) (nI_add (((68921 * a_59) + (1681 * b_166)) + (41 * c9_177)) (((j_9 - a_59) - b_166) - c9_177)) ?_
            refine lv_istore (lv' := [(9, .int (nI ((((68921 * a_59) + (1681 * b_166)) + (41 * c9_177)) + (((j_9 - a_59) - b_166) - c9_177)))), (7, .long z_246), (18, .long z_246), (16, .long z_219), (14, .long z_204), (13, .int (nI (((j_9 - a_59) - b_166) - c9_177))), (12, .int (nI c9_177)), (11, .int (nI b_166)), (10, .int (nI a_59)), (6, .int (nI n_42)), (5, .int a5), (4, .int (nI j_29)), (3, .int (nI j_19)), (2, .int (nI j_9)), (0, .ref h0)]) hx hb dX9_blend_638 hl (by decide) rfl (fun ls hl => ?_)
            refine lv_iinc (v := nI (c9_177 + 1)) (lv' := [(12, .int (nI (c9_177 + 1))), (9, .int (nI ((((68921 * a_59) + (1681 * b_166)) + (41 * c9_177)) + (((j_9 - a_59) - b_166) - c9_177)))), (7, .long z_246), (18, .long z_246), (16, .long z_219), (14, .long z_204), (13, .int (nI (((j_9 - a_59) - b_166) - c9_177))), (11, .int (nI b_166)), (10, .int (nI a_59)), (6, .int (nI n_42)), (5, .int a5), (4, .int (nI j_29)), (3, .int (nI j_19)), (2, .int (nI j_9)), (0, .ref h0)]) hx hb dX9_blend_640 hl (k := 6) rfl (nI_add c9_177 1) (by decide) rfl (fun ls hl => ?_)
            refine lv_goto (tgt := 348) hx hb dX9_blend_643 (by decide) ?_
            exact ih_176 (c9_177 + 1, nI ((((68921 * a_59) + (1681 * b_166)) + (41 * c9_177)) + (((j_9 - a_59) - b_166) - c9_177)), z_246) (mw h0 ad cs iv (uF (uF (uF (uF (uF fv 37 f37_43) 38 f38_51) 39 f39_52) 40 f40_53) 41 f41_54) gv) _ _ ls (by show j_9 + 1 - (c9_177 + 1) < j_9 + 1 - c9_177; omega) ⟨rfl, (show (c9_177 + 1) ≤ j_9 + 1 from by omega)⟩ hP hD hS (lv_sub hl [0, 7, 8, 1, 2, 9, 10, 11, 12, 13, 14] rfl)
          refine lv_lload hx hb dX9_blend_601 (lv_at hl 0 rfl) ?_
          refine lv_lload hx hb dX9_blend_603 (lv_at hl 8 rfl) ?_
          refine W.lcmp hx hb dX9_blend_605 ?_
          refine lv_topi (fun z_249 _ => ?_)
          refine lv_if_lt (tgt := 612) hx hb dX9_blend_606 (by decide) (fun c_250 => ?_) (fun c_250 => ?_)
          · refine lv_lload hx hb dX9_blend_612 (lv_at hl 0 rfl) ?_
            refine lv_lstore (lv' := [(7, .long z_246), (18, .long z_246), (16, .long z_219), (14, .long z_204), (13, .int (nI (((j_9 - a_59) - b_166) - c9_177))), (12, .int (nI c9_177)), (11, .int (nI b_166)), (10, .int (nI a_59)), (9, .int kp_178), (6, .int (nI n_42)), (5, .int a5), (4, .int (nI j_29)), (3, .int (nI j_19)), (2, .int (nI j_9)), (0, .ref h0)]) hx hb dX9_blend_614 hl (by decide) rfl (fun ls hl => ?_)
            refine lv_ldcw hx hb hown (hts (.constant RX9 292 (68921)) (List.mem_of_getElem? (i := 9) rfl)) dX9_blend_616 ?_
            refine lv_iload hx hb dX9_blend_619 (lv_at hl 7 rfl) ?_
            refine lv_imul hx hb dX9_blend_621 ?_
            refine tp_i (y := nI (68921 * a_59)) (pk_mul 68921 a_59) ?_
            refine lv_sipush (v := 1681) hx hb dX9_blend_622 (by decide) ?_
            refine lv_iload hx hb dX9_blend_625 (lv_at hl 6 rfl) ?_
            refine lv_imul hx hb dX9_blend_627 ?_
            refine tp_i (y := nI (1681 * b_166)) (pk_mul 1681 b_166) ?_
            refine lv_iadd hx hb dX9_blend_628 ?_
            refine tp_i (y := nI ((68921 * a_59) + (1681 * b_166))) (nI_add (68921 * a_59) (1681 * b_166)) ?_
            refine lv_bipush (v := 41) hx hb dX9_blend_629 (by decide) ?_
            refine lv_iload hx hb dX9_blend_631 (lv_at hl 5 rfl) ?_
            refine lv_imul hx hb dX9_blend_633 ?_
            refine tp_i (y := nI (41 * c9_177)) (pk_mul 41 c9_177) ?_
            refine lv_iadd hx hb dX9_blend_634 ?_
            refine tp_i (y := nI (((68921 * a_59) + (1681 * b_166)) + (41 * c9_177))) (nI_add ((68921 * a_59) + (1681 * b_166)) (41 * c9_177)) ?_
            refine lv_iload hx hb dX9_blend_635 (lv_at hl 4 rfl) ?_
            refine lv_iadd hx hb dX9_blend_637 ?_
            refine tp_i (y := nI ((((68921 * a_59) + (1681 * b_166)) + (41 * c9_177)) + (((j_9 - a_59) - b_166) - c9_177))) (nI_add (((68921 * a_59) + (1681 * b_166)) + (41 * c9_177)) (((j_9 - a_59) - b_166) - c9_177)) ?_
            refine lv_istore (lv' := [(9, .int (nI ((((68921 * a_59) + (1681 * b_166)) + (41 * c9_177)) + (((j_9 - a_59) - b_166) - c9_177)))), (7, .long z_246), (18, .long z_246), (16, .long z_219), (14, .long z_204), (13, .int (nI (((j_9 - a_59) - b_166) - c9_177))), (12, .int (nI c9_177)), (11, .int (nI b_166)), (10, .int (nI a_59)), (6, .int (nI n_42)), (5, .int a5), (4, .int (nI j_29)), (3, .int (nI j_19)), (2, .int (nI j_9)), (0, .ref h0)]) hx hb dX9_blend_638 hl (by decide) rfl (fun ls hl => ?_)
            refine lv_iinc (v := nI (c9_177 + 1)) (lv' := [(12, .int (nI (c9_177 + 1))), (9, .int (nI ((((68921 * a_59) + (1681 * b_166)) + (41 * c9_177)) + (((j_9 - a_59) - b_166) - c9_177)))), (7, .long z_246), (18, .long z_246), (16, .long z_219), (14, .long z_204), (13, .int (nI (((j_9 - a_59) - b_166) - c9_177))), (11, .int (nI b_166)), (10, .int (nI a_59)), (6, .int (nI n_42)), (5, .int a5), (4, .int (nI j_29)), (3, .int (nI j_19)), (2, .int (nI j_9)), (0, .ref h0)]) hx hb dX9_blend_640 hl (k := 6) rfl (nI_add c9_177 1) (by decide) rfl (fun ls hl => ?_)
            refine lv_goto (tgt := 348) hx hb dX9_blend_643 (by decide) ?_
            exact ih_176 (c9_177 + 1, nI ((((68921 * a_59) + (1681 * b_166)) + (41 * c9_177)) + (((j_9 - a_59) - b_166) - c9_177)), z_246) (mw h0 ad cs iv (uF (uF (uF (uF (uF fv 37 f37_43) 38 f38_51) 39 f39_52) 40 f40_53) 41 f41_54) gv) _ _ ls (by show j_9 + 1 - (c9_177 + 1) < j_9 + 1 - c9_177; omega) ⟨rfl, (show (c9_177 + 1) ≤ j_9 + 1 from by omega)⟩ hP hD hS (lv_sub hl [0, 7, 8, 1, 2, 9, 10, 11, 12, 13, 14] rfl)
          refine lv_goto (tgt := 640) hx hb dX9_blend_609 (by decide) ?_
          refine lv_iinc (v := nI (c9_177 + 1)) (lv' := [(12, .int (nI (c9_177 + 1))), (18, .long z_246), (16, .long z_219), (14, .long z_204), (13, .int (nI (((j_9 - a_59) - b_166) - c9_177))), (11, .int (nI b_166)), (10, .int (nI a_59)), (9, .int kp_178), (7, .long be_179), (6, .int (nI n_42)), (5, .int a5), (4, .int (nI j_29)), (3, .int (nI j_19)), (2, .int (nI j_9)), (0, .ref h0)]) hx hb dX9_blend_640 hl (k := 4) rfl (nI_add c9_177 1) (by decide) rfl (fun ls hl => ?_)
          refine lv_goto (tgt := 348) hx hb dX9_blend_643 (by decide) ?_
          exact ih_176 (c9_177 + 1, kp_178, be_179) (mw h0 ad cs iv (uF (uF (uF (uF (uF fv 37 f37_43) 38 f38_51) 39 f39_52) 40 f40_53) 41 f41_54) gv) _ _ ls (by show j_9 + 1 - (c9_177 + 1) < j_9 + 1 - c9_177; omega) ⟨rfl, (show (c9_177 + 1) ≤ j_9 + 1 from by omega)⟩ hP hD hS (lv_sub hl [0, 5, 6, 7, 8, 9, 10, 11, 12, 13, 14] rfl)
        refine lv_goto (tgt := 640) hx hb dX9_blend_542 (by decide) ?_
        refine lv_iinc (v := nI (c9_177 + 1)) (lv' := [(12, .int (nI (c9_177 + 1))), (16, .long z_219), (14, .long z_204), (13, .int (nI (((j_9 - a_59) - b_166) - c9_177))), (11, .int (nI b_166)), (10, .int (nI a_59)), (9, .int kp_178), (7, .long be_179), (6, .int (nI n_42)), (5, .int a5), (4, .int (nI j_29)), (3, .int (nI j_19)), (2, .int (nI j_9)), (0, .ref h0)]) hx hb dX9_blend_640 hl (k := 3) rfl (nI_add c9_177 1) (by decide) rfl (fun ls hl => ?_)
        refine lv_goto (tgt := 348) hx hb dX9_blend_643 (by decide) ?_
        exact ih_176 (c9_177 + 1, kp_178, be_179) (mw h0 ad cs iv (uF (uF (uF (uF (uF fv 37 f37_43) 38 f38_51) 39 f39_52) 40 f40_53) 41 f41_54) gv) _ _ ls (by show j_9 + 1 - (c9_177 + 1) < j_9 + 1 - c9_177; omega) ⟨rfl, (show (c9_177 + 1) ≤ j_9 + 1 from by omega)⟩ hP hD hS (lv_sub hl [0, 4, 5, 6, 7, 8, 9, 10, 11, 12, 13] rfl)
      refine lv_goto (tgt := 640) hx hb dX9_blend_394 (by decide) ?_
      refine lv_iinc (v := nI (c9_177 + 1)) (lv' := [(12, .int (nI (c9_177 + 1))), (13, .int (nI (((j_9 - a_59) - b_166) - c9_177))), (11, .int (nI b_166)), (10, .int (nI a_59)), (9, .int kp_178), (7, .long be_179), (6, .int (nI n_42)), (5, .int a5), (4, .int (nI j_29)), (3, .int (nI j_19)), (2, .int (nI j_9)), (0, .ref h0)]) hx hb dX9_blend_640 hl (k := 1) rfl (nI_add c9_177 1) (by decide) rfl (fun ls hl => ?_)
      refine lv_goto (tgt := 348) hx hb dX9_blend_643 (by decide) ?_
      exact ih_176 (c9_177 + 1, kp_178, be_179) (mw h0 ad cs iv (uF (uF (uF (uF (uF fv 37 f37_43) 38 f38_51) 39 f39_52) 40 f40_53) 41 f41_54) gv) _ _ ls (by show j_9 + 1 - (c9_177 + 1) < j_9 + 1 - c9_177; omega) ⟨rfl, (show (c9_177 + 1) ≤ j_9 + 1 from by omega)⟩ hP hD hS (lv_sub hl [0, 2, 3, 4, 5, 6, 7, 8, 9, 10, 11] rfl)
    have d_251 := n_nle (a := 4) (b := k_50) (by omega) (by omega) c_56
    refine lv_aload_n hx hb dX9_blend_129 rfl (lv_at hl 7 rfl) ?_
    refine va_get (D := D) (ci := 9) (v := .ref (ad 38)) (C := RX9) (T := TX9) (N := 44) hx hb hts hin9 hown hK hP 0 rfl rfl 38 (by decide) (hts (.fieldLink RX9 127 "HoneyHouseModel" "wet" "[I") (List.mem_of_getElem? (i := 2) rfl)) (fun _ h9 => h9) rfl dX9_blend_130 ?_
    refine lv_iload hx hb dX9_blend_133 (lv_at hl 0 rfl) ?_
    refine lv_iload hx hb dX9_blend_135 (lv_at hl 0 rfl) ?_
    refine lv_iload hx hb dX9_blend_137 (lv_at hl 1 rfl) ?_
    refine lv_icmp_ge (tgt := 175) hx hb dX9_blend_139 (by decide) (fun c_252 => ?_) (fun c_252 => ?_)
    · have d_253 := n_le (a := n_42) (b := k_50) (by omega) (by omega) c_252
      refine lv_iconst (v := 0) hx hb dX9_blend_175 (by decide) ?_
      refine va_iast (f := f38_51) (n := 4) hx hb hK hP hD hS 25 24 rfl rfl (vp_in_nI (n := k_50) (by omega) (by omega)) dX9_blend_176 (fun H locs hP hD hS => ?_)
      have hP : va_P D vwCl (mw h0 ad cs iv (uF (uF (uF (uF (uF fv 37 f37_43) 38 (upd f38_51 (nI k_50).toNatClampNeg 0)) 39 f39_52) 40 f40_53) 41 f41_54) gv) H := hP
      have hD : va_D A (mw h0 ad cs iv (uF (uF (uF (uF (uF fv 37 f37_43) 38 (upd f38_51 (nI k_50).toNatClampNeg 0)) 39 f39_52) 40 f40_53) 41 f41_54) gv) := hD
      obtain ⟨f_254, hf_255⟩ : ∃ g9, g9 = upd f38_51 (nI k_50).toNatClampNeg 0 := ⟨_, rfl⟩
      rw [← hf_255] at hP hD
      rw [nI_clamp (n := k_50) (by omega)] at hf_255
      refine lv_aload_n hx hb dX9_blend_177 rfl (lv_at hl 7 rfl) ?_
      refine va_get (D := D) (ci := 9) (v := .ref (ad 39)) (C := RX9) (T := TX9) (N := 44) hx hb hts hin9 hown hK hP 0 rfl rfl 39 (by decide) (hts (.fieldLink RX9 130 "HoneyHouseModel" "dark" "[I") (List.mem_of_getElem? (i := 4) rfl)) (fun _ h9 => h9) rfl dX9_blend_178 ?_
      refine lv_iload hx hb dX9_blend_181 (lv_at hl 0 rfl) ?_
      refine lv_iload hx hb dX9_blend_183 (lv_at hl 0 rfl) ?_
      refine lv_iload hx hb dX9_blend_185 (lv_at hl 1 rfl) ?_
      refine lv_icmp_ge (tgt := 223) hx hb dX9_blend_187 (by decide) (fun c_256 => ?_) (fun c_256 => absurd (nI_le (a := n_42) (b := k_50) (by omega) (by omega)) c_256)
      refine lv_iconst (v := 0) hx hb dX9_blend_223 (by decide) ?_
      refine va_iast (f := f39_52) (n := 4) hx hb hK hP hD hS 26 25 rfl rfl (vp_in_nI (n := k_50) (by omega) (by omega)) dX9_blend_224 (fun H locs hP hD hS => ?_)
      have hP : va_P D vwCl (mw h0 ad cs iv (uF (uF (uF (uF (uF fv 37 f37_43) 38 f_254) 39 (upd f39_52 (nI k_50).toNatClampNeg 0)) 40 f40_53) 41 f41_54) gv) H := hP
      have hD : va_D A (mw h0 ad cs iv (uF (uF (uF (uF (uF fv 37 f37_43) 38 f_254) 39 (upd f39_52 (nI k_50).toNatClampNeg 0)) 40 f40_53) 41 f41_54) gv) := hD
      obtain ⟨f_257, hf_258⟩ : ∃ g9, g9 = upd f39_52 (nI k_50).toNatClampNeg 0 := ⟨_, rfl⟩
      rw [← hf_258] at hP hD
      rw [nI_clamp (n := k_50) (by omega)] at hf_258
      refine lv_aload_n hx hb dX9_blend_225 rfl (lv_at hl 7 rfl) ?_
      refine va_get (D := D) (ci := 9) (v := .ref (ad 40)) (C := RX9) (T := TX9) (N := 44) hx hb hts hin9 hown hK hP 0 rfl rfl 40 (by decide) (hts (.fieldLink RX9 133 "HoneyHouseModel" "cost" "[I") (List.mem_of_getElem? (i := 5) rfl)) (fun _ h9 => h9) rfl dX9_blend_226 ?_
      refine lv_iload hx hb dX9_blend_229 (lv_at hl 0 rfl) ?_
      refine lv_iload hx hb dX9_blend_231 (lv_at hl 0 rfl) ?_
      refine lv_iload hx hb dX9_blend_233 (lv_at hl 1 rfl) ?_
      refine lv_icmp_ge (tgt := 253) hx hb dX9_blend_235 (by decide) (fun c_259 => ?_) (fun c_259 => absurd (nI_le (a := n_42) (b := k_50) (by omega) (by omega)) c_259)
      refine lv_iconst (v := 0) hx hb dX9_blend_253 (by decide) ?_
      refine va_iast (f := f40_53) (n := 4) hx hb hK hP hD hS 27 26 rfl rfl (vp_in_nI (n := k_50) (by omega) (by omega)) dX9_blend_254 (fun H locs hP hD hS => ?_)
      have hP : va_P D vwCl (mw h0 ad cs iv (uF (uF (uF (uF (uF fv 37 f37_43) 38 f_254) 39 f_257) 40 (upd f40_53 (nI k_50).toNatClampNeg 0)) 41 f41_54) gv) H := hP
      have hD : va_D A (mw h0 ad cs iv (uF (uF (uF (uF (uF fv 37 f37_43) 38 f_254) 39 f_257) 40 (upd f40_53 (nI k_50).toNatClampNeg 0)) 41 f41_54) gv) := hD
      obtain ⟨f_260, hf_261⟩ : ∃ g9, g9 = upd f40_53 (nI k_50).toNatClampNeg 0 := ⟨_, rfl⟩
      rw [← hf_261] at hP hD
      rw [nI_clamp (n := k_50) (by omega)] at hf_261
      refine lv_aload_n hx hb dX9_blend_255 rfl (lv_at hl 7 rfl) ?_
      refine va_get (D := D) (ci := 9) (v := .ref (ad 41)) (C := RX9) (T := TX9) (N := 44) hx hb hts hin9 hown hK hP 0 rfl rfl 41 (by decide) (hts (.fieldLink RX9 136 "HoneyHouseModel" "there" "[I") (List.mem_of_getElem? (i := 7) rfl)) (fun _ h9 => h9) rfl dX9_blend_256 ?_
      refine lv_iload hx hb dX9_blend_259 (lv_at hl 0 rfl) ?_
      refine lv_iload hx hb dX9_blend_261 (lv_at hl 0 rfl) ?_
      refine lv_iload hx hb dX9_blend_263 (lv_at hl 1 rfl) ?_
      refine lv_icmp_ge (tgt := 286) hx hb dX9_blend_265 (by decide) (fun c_262 => ?_) (fun c_262 => absurd (nI_le (a := n_42) (b := k_50) (by omega) (by omega)) c_262)
      refine lv_iconst (v := 0) hx hb dX9_blend_286 (by decide) ?_
      refine va_iast (f := f41_54) (n := 4) hx hb hK hP hD hS 28 27 rfl rfl (vp_in_nI (n := k_50) (by omega) (by omega)) dX9_blend_287 (fun H locs hP hD hS => ?_)
      have hP : va_P D vwCl (mw h0 ad cs iv (uF (uF (uF (uF (uF fv 37 f37_43) 38 f_254) 39 f_257) 40 f_260) 41 (upd f41_54 (nI k_50).toNatClampNeg 0)) gv) H := hP
      have hD : va_D A (mw h0 ad cs iv (uF (uF (uF (uF (uF fv 37 f37_43) 38 f_254) 39 f_257) 40 f_260) 41 (upd f41_54 (nI k_50).toNatClampNeg 0)) gv) := hD
      obtain ⟨f_263, hf_264⟩ : ∃ g9, g9 = upd f41_54 (nI k_50).toNatClampNeg 0 := ⟨_, rfl⟩
      rw [← hf_264] at hP hD
      rw [nI_clamp (n := k_50) (by omega)] at hf_264
      refine lv_iinc (v := nI (k_50 + 1)) (lv' := [(7, .int (nI (k_50 + 1))), (6, .int (nI n_42)), (5, .int a5), (4, .int (nI j_29)), (3, .int (nI j_19)), (2, .int (nI j_9)), (1, .int a1), (0, .ref h0)]) hx hb dX9_blend_288 hl (k := 0) rfl (nI_add k_50 1) (by decide) rfl (fun ls hl => ?_)
      refine lv_goto (tgt := 123) hx hb dX9_blend_291 (by decide) ?_
      exact ih_49 (k_50 + 1, f_254, f_257, f_260, f_263) (mw h0 ad cs iv (uF (uF (uF (uF (uF fv 37 f37_43) 38 f_254) 39 f_257) 40 f_260) 41 f_263) gv) _ _ ls (by show 4 - (k_50 + 1) < 4 - k_50; omega) ⟨rfl, (show (k_50 + 1) ≤ 4 from by omega)⟩ hP hD hS (lv_sub hl [0, 1, 2, 3, 4, 5, 6, 7] rfl)
    have d_265 := n_nle (a := n_42) (b := k_50) (by omega) (by omega) c_252
    refine lv_ldc2 hx hb hown (hts (.constantLong RX9 185 (10)) (List.mem_of_getElem? (i := 3) rfl)) dX9_blend_142 ?_
    refine lv_aload_n hx hb dX9_blend_145 rfl (lv_at hl 7 rfl) ?_
    refine lv_aload_n hx hb dX9_blend_146 rfl (lv_at hl 7 rfl) ?_
    refine va_get (D := D) (ci := 9) (v := .ref (ad 37)) (C := RX9) (T := TX9) (N := 44) hx hb hts hin9 hown hK hP 0 rfl rfl 37 (by decide) (hts (.fieldLink RX9 124 "HoneyHouseModel" "which" "[I") (List.mem_of_getElem? (i := 1) rfl)) (fun _ h9 => h9) rfl dX9_blend_147 ?_
    refine lv_iload hx hb dX9_blend_150 (lv_at hl 0 rfl) ?_
    refine va_iald (f := f37_43) (n := 4) hx hb hK hP 24 23 rfl rfl (vp_in_nI (n := k_50) (by omega) (by omega)) dX9_blend_152 ?_
    refine lv_topi (fun z_266 hz_267 => ?_)
    rw [nI_clamp (n := k_50) (by omega)] at hz_267
    obtain ⟨u_268, hu_269, eu_270, hnz_271⟩ := hW_46 k_50 (by omega)
    rw [eu_270] at hz_267
    subst hz_267
    refine lv_iconst (v := 0) hx hb dX9_blend_153 (by decide) ?_
    refine vp_callSl (W.runV (As := [.int (nI u_268), .int 0]) (rest := [.long 10, .int (nI k_50), .ref (ad 38)]) ⟨hx, hb, hml, hown, hts⟩ (m_sum l D h0 ad cs iv (uF (uF (uF (uF (uF fv 37 f37_43) 38 f38_51) 39 f39_52) 40 f40_53) 41 f41_54) gv n3 u_268 0 h3 (by omega) (by omega) (by omega)) (cwV 2 hts gX9_blend_X9_sum rfl rfl rfl (by decide +kernel) ⟨Nat.le_of_ble_eq_true rfl, Nat.le_of_ble_eq_true rfl⟩) ⟨fun a U g mk q => ⟨q.1, q.2.1, va_K.moved (u := U) (U := U.calling g mk a) (Vm.Alike.refl U.vm) q.2.2⟩, va_recv hK hP (ci := 9) (q0 := 0) rfl rfl, fun U hU hW => ⟨rfl, by rw [hU]; exact hP, va_K.moved hW.alike hK⟩⟩ rfl rfl hl.1 rfl (lv_room (Nat.le_of_ble_eq_true rfl)) dX9_blend_154 ⟨Nat.le_of_ble_eq_true rfl, Nat.le_of_ble_eq_true rfl⟩) (fun r_272 k_273 => ?_)
    refine lv_lmul hx hb dX9_blend_157 ?_
    refine lv_topl (fun z_274 _ => ?_)
    refine lv_aload_n hx hb dX9_blend_158 rfl (lv_at hl 7 rfl) ?_
    refine lv_aload_n hx hb dX9_blend_159 rfl (lv_at hl 7 rfl) ?_
    refine va_get (D := D) (ci := 9) (v := .ref (ad 37)) (C := RX9) (T := TX9) (N := 44) hx hb hts hin9 hown hK hP 0 rfl rfl 37 (by decide) (hts (.fieldLink RX9 124 "HoneyHouseModel" "which" "[I") (List.mem_of_getElem? (i := 1) rfl)) (fun _ h9 => h9) rfl dX9_blend_160 ?_
    refine lv_iload hx hb dX9_blend_163 (lv_at hl 0 rfl) ?_
    refine va_iald (f := f37_43) (n := 4) hx hb hK hP 24 23 rfl rfl (vp_in_nI (n := k_50) (by omega) (by omega)) dX9_blend_165 ?_
    refine lv_topi (fun z_275 hz_276 => ?_)
    rw [nI_clamp (n := k_50) (by omega)] at hz_276
    obtain ⟨u_277, hu_278, eu_279, hnz_280⟩ := hW_46 k_50 (by omega)
    rw [eu_279] at hz_276
    subst hz_276
    refine vp_callSi (W.runV (As := [.int (nI u_277)]) (rest := [.long z_274, .int (nI k_50), .ref (ad 38)]) ⟨hx, hb, hml, hown, hts⟩ (m_all l D h0 ad cs iv (uF (uF (uF (uF (uF fv 37 f37_43) 38 f38_51) 39 f39_52) 40 f40_53) 41 f41_54) gv n3 u_277 h3 (by omega) (by omega)) (cwV 1 hts gX9_blend_X9_all rfl rfl rfl (by decide +kernel) ⟨Nat.le_of_ble_eq_true rfl, Nat.le_of_ble_eq_true rfl⟩) ⟨fun a U g mk q => ⟨q.1, q.2.1, va_K.moved (u := U) (U := U.calling g mk a) (Vm.Alike.refl U.vm) q.2.2⟩, va_recv hK hP (ci := 9) (q0 := 0) rfl rfl, fun U hU hW => ⟨rfl, by rw [hU]; exact hP, va_K.moved hW.alike hK⟩⟩ rfl rfl hl.1 rfl (lv_room (Nat.le_of_ble_eq_true rfl)) dX9_blend_166 ⟨Nat.le_of_ble_eq_true rfl, Nat.le_of_ble_eq_true rfl⟩) (fun r_281 k_282 => ?_)
    refine lv_i2l hx hb dX9_blend_169 rfl ?_
    refine lv_ldiv hx hb dX9_blend_170 (i_ne64 (fun h9 => hnz_280 (k_282.symm.trans h9))) ?_
    refine lv_l2i hx hb dX9_blend_171 rfl ?_
    refine lv_topi (fun z_283 _ => ?_)
    refine lv_goto (tgt := 176) hx hb dX9_blend_172 (by decide) ?_
    refine va_iast (f := f38_51) (n := 4) hx hb hK hP hD hS 25 24 rfl rfl (vp_in_nI (n := k_50) (by omega) (by omega)) dX9_blend_176 (fun H locs hP hD hS => ?_)
    have hP : va_P D vwCl (mw h0 ad cs iv (uF (uF (uF (uF (uF fv 37 f37_43) 38 (upd f38_51 (nI k_50).toNatClampNeg z_283)) 39 f39_52) 40 f40_53) 41 f41_54) gv) H := hP
    have hD : va_D A (mw h0 ad cs iv (uF (uF (uF (uF (uF fv 37 f37_43) 38 (upd f38_51 (nI k_50).toNatClampNeg z_283)) 39 f39_52) 40 f40_53) 41 f41_54) gv) := hD
    obtain ⟨f_284, hf_285⟩ : ∃ g9, g9 = upd f38_51 (nI k_50).toNatClampNeg z_283 := ⟨_, rfl⟩
    rw [← hf_285] at hP hD
    rw [nI_clamp (n := k_50) (by omega)] at hf_285
    refine lv_aload_n hx hb dX9_blend_177 rfl (lv_at hl 7 rfl) ?_
    refine va_get (D := D) (ci := 9) (v := .ref (ad 39)) (C := RX9) (T := TX9) (N := 44) hx hb hts hin9 hown hK hP 0 rfl rfl 39 (by decide) (hts (.fieldLink RX9 130 "HoneyHouseModel" "dark" "[I") (List.mem_of_getElem? (i := 4) rfl)) (fun _ h9 => h9) rfl dX9_blend_178 ?_
    refine lv_iload hx hb dX9_blend_181 (lv_at hl 0 rfl) ?_
    refine lv_iload hx hb dX9_blend_183 (lv_at hl 0 rfl) ?_
    refine lv_iload hx hb dX9_blend_185 (lv_at hl 1 rfl) ?_
    refine lv_icmp_ge (tgt := 223) hx hb dX9_blend_187 (by decide) (fun c_286 => absurd c_286 (nI_ge (a := k_50) (b := n_42) (by omega) (by omega))) (fun c_286 => ?_)
    refine lv_ldc2 hx hb hown (hts (.constantLong RX9 185 (10)) (List.mem_of_getElem? (i := 3) rfl)) dX9_blend_190 ?_
    refine lv_aload_n hx hb dX9_blend_193 rfl (lv_at hl 7 rfl) ?_
    refine lv_aload_n hx hb dX9_blend_194 rfl (lv_at hl 7 rfl) ?_
    refine va_get (D := D) (ci := 9) (v := .ref (ad 37)) (C := RX9) (T := TX9) (N := 44) hx hb hts hin9 hown hK hP 0 rfl rfl 37 (by decide) (hts (.fieldLink RX9 124 "HoneyHouseModel" "which" "[I") (List.mem_of_getElem? (i := 1) rfl)) (fun _ h9 => h9) rfl dX9_blend_195 ?_
    refine lv_iload hx hb dX9_blend_198 (lv_at hl 0 rfl) ?_
    refine va_iald (f := f37_43) (n := 4) hx hb hK hP 24 23 rfl rfl (vp_in_nI (n := k_50) (by omega) (by omega)) dX9_blend_200 ?_
    refine lv_topi (fun z_287 hz_288 => ?_)
    rw [nI_clamp (n := k_50) (by omega)] at hz_288
    obtain ⟨u_289, hu_290, eu_291, hnz_292⟩ := hW_46 k_50 (by omega)
    rw [eu_291] at hz_288
    subst hz_288
    refine lv_iconst (v := 1) hx hb dX9_blend_201 (by decide) ?_
    refine vp_callSl (W.runV (As := [.int (nI u_289), .int 1]) (rest := [.long 10, .int (nI k_50), .ref (ad 39)]) ⟨hx, hb, hml, hown, hts⟩ (m_sum l D h0 ad cs iv (uF (uF (uF (uF (uF fv 37 f37_43) 38 f_284) 39 f39_52) 40 f40_53) 41 f41_54) gv n3 u_289 1 h3 (by omega) (by omega) (by omega)) (cwV 2 hts gX9_blend_X9_sum rfl rfl rfl (by decide +kernel) ⟨Nat.le_of_ble_eq_true rfl, Nat.le_of_ble_eq_true rfl⟩) ⟨fun a U g mk q => ⟨q.1, q.2.1, va_K.moved (u := U) (U := U.calling g mk a) (Vm.Alike.refl U.vm) q.2.2⟩, va_recv hK hP (ci := 9) (q0 := 0) rfl rfl, fun U hU hW => ⟨rfl, by rw [hU]; exact hP, va_K.moved hW.alike hK⟩⟩ rfl rfl hl.1 rfl (lv_room (Nat.le_of_ble_eq_true rfl)) dX9_blend_202 ⟨Nat.le_of_ble_eq_true rfl, Nat.le_of_ble_eq_true rfl⟩) (fun r_293 k_294 => ?_)
    refine lv_lmul hx hb dX9_blend_205 ?_
    refine lv_topl (fun z_295 _ => ?_)
    refine lv_aload_n hx hb dX9_blend_206 rfl (lv_at hl 7 rfl) ?_
    refine lv_aload_n hx hb dX9_blend_207 rfl (lv_at hl 7 rfl) ?_
    refine va_get (D := D) (ci := 9) (v := .ref (ad 37)) (C := RX9) (T := TX9) (N := 44) hx hb hts hin9 hown hK hP 0 rfl rfl 37 (by decide) (hts (.fieldLink RX9 124 "HoneyHouseModel" "which" "[I") (List.mem_of_getElem? (i := 1) rfl)) (fun _ h9 => h9) rfl dX9_blend_208 ?_
    refine lv_iload hx hb dX9_blend_211 (lv_at hl 0 rfl) ?_
    refine va_iald (f := f37_43) (n := 4) hx hb hK hP 24 23 rfl rfl (vp_in_nI (n := k_50) (by omega) (by omega)) dX9_blend_213 ?_
    refine lv_topi (fun z_296 hz_297 => ?_)
    rw [nI_clamp (n := k_50) (by omega)] at hz_297
    obtain ⟨u_298, hu_299, eu_300, hnz_301⟩ := hW_46 k_50 (by omega)
    rw [eu_300] at hz_297
    subst hz_297
    refine vp_callSi (W.runV (As := [.int (nI u_298)]) (rest := [.long z_295, .int (nI k_50), .ref (ad 39)]) ⟨hx, hb, hml, hown, hts⟩ (m_all l D h0 ad cs iv (uF (uF (uF (uF (uF fv 37 f37_43) 38 f_284) 39 f39_52) 40 f40_53) 41 f41_54) gv n3 u_298 h3 (by omega) (by omega)) (cwV 1 hts gX9_blend_X9_all rfl rfl rfl (by decide +kernel) ⟨Nat.le_of_ble_eq_true rfl, Nat.le_of_ble_eq_true rfl⟩) ⟨fun a U g mk q => ⟨q.1, q.2.1, va_K.moved (u := U) (U := U.calling g mk a) (Vm.Alike.refl U.vm) q.2.2⟩, va_recv hK hP (ci := 9) (q0 := 0) rfl rfl, fun U hU hW => ⟨rfl, by rw [hU]; exact hP, va_K.moved hW.alike hK⟩⟩ rfl rfl hl.1 rfl (lv_room (Nat.le_of_ble_eq_true rfl)) dX9_blend_214 ⟨Nat.le_of_ble_eq_true rfl, Nat.le_of_ble_eq_true rfl⟩) (fun r_302 k_303 => ?_)
    refine lv_i2l hx hb dX9_blend_217 rfl ?_
    refine lv_ldiv hx hb dX9_blend_218 (i_ne64 (fun h9 => hnz_301 (k_303.symm.trans h9))) ?_
    refine lv_l2i hx hb dX9_blend_219 rfl ?_
    refine lv_topi (fun z_304 _ => ?_)
    refine lv_goto (tgt := 224) hx hb dX9_blend_220 (by decide) ?_
    refine va_iast (f := f39_52) (n := 4) hx hb hK hP hD hS 26 25 rfl rfl (vp_in_nI (n := k_50) (by omega) (by omega)) dX9_blend_224 (fun H locs hP hD hS => ?_)
    have hP : va_P D vwCl (mw h0 ad cs iv (uF (uF (uF (uF (uF fv 37 f37_43) 38 f_284) 39 (upd f39_52 (nI k_50).toNatClampNeg z_304)) 40 f40_53) 41 f41_54) gv) H := hP
    have hD : va_D A (mw h0 ad cs iv (uF (uF (uF (uF (uF fv 37 f37_43) 38 f_284) 39 (upd f39_52 (nI k_50).toNatClampNeg z_304)) 40 f40_53) 41 f41_54) gv) := hD
    obtain ⟨f_305, hf_306⟩ : ∃ g9, g9 = upd f39_52 (nI k_50).toNatClampNeg z_304 := ⟨_, rfl⟩
    rw [← hf_306] at hP hD
    rw [nI_clamp (n := k_50) (by omega)] at hf_306
    refine lv_aload_n hx hb dX9_blend_225 rfl (lv_at hl 7 rfl) ?_
    refine va_get (D := D) (ci := 9) (v := .ref (ad 40)) (C := RX9) (T := TX9) (N := 44) hx hb hts hin9 hown hK hP 0 rfl rfl 40 (by decide) (hts (.fieldLink RX9 133 "HoneyHouseModel" "cost" "[I") (List.mem_of_getElem? (i := 5) rfl)) (fun _ h9 => h9) rfl dX9_blend_226 ?_
    refine lv_iload hx hb dX9_blend_229 (lv_at hl 0 rfl) ?_
    refine lv_iload hx hb dX9_blend_231 (lv_at hl 0 rfl) ?_
    refine lv_iload hx hb dX9_blend_233 (lv_at hl 1 rfl) ?_
    refine lv_icmp_ge (tgt := 253) hx hb dX9_blend_235 (by decide) (fun c_307 => absurd c_307 (nI_ge (a := k_50) (b := n_42) (by omega) (by omega))) (fun c_307 => ?_)
    refine lv_aload_n hx hb dX9_blend_238 rfl (lv_at hl 7 rfl) ?_
    refine va_get (D := D) (ci := 9) (v := .ref (ad 12)) (C := RX9) (T := TX9) (N := 44) hx hb hts hin9 hown hK hP 0 rfl rfl 12 (by decide) (hts (.fieldLink RX9 47 "HoneyHouseModel" "price" "[I") (List.mem_of_getElem? (i := 6) rfl)) (fun _ h9 => h9) rfl dX9_blend_239 ?_
    refine lv_aload_n hx hb dX9_blend_242 rfl (lv_at hl 7 rfl) ?_
    refine va_get (D := D) (ci := 9) (v := .ref (ad 37)) (C := RX9) (T := TX9) (N := 44) hx hb hts hin9 hown hK hP 0 rfl rfl 37 (by decide) (hts (.fieldLink RX9 124 "HoneyHouseModel" "which" "[I") (List.mem_of_getElem? (i := 1) rfl)) (fun _ h9 => h9) rfl dX9_blend_243 ?_
    refine lv_iload hx hb dX9_blend_246 (lv_at hl 0 rfl) ?_
    refine va_iald (f := f37_43) (n := 4) hx hb hK hP 24 23 rfl rfl (vp_in_nI (n := k_50) (by omega) (by omega)) dX9_blend_248 ?_
    refine lv_topi (fun z_308 hz_309 => ?_)
    rw [nI_clamp (n := k_50) (by omega)] at hz_309
    obtain ⟨u_310, hu_311, eu_312, hnz_313⟩ := hW_46 k_50 (by omega)
    rw [eu_312] at hz_309
    subst hz_309
    refine va_iald (f := fv 12) (n := 70) hx hb hK hP 10 9 rfl rfl (vp_in_nI (n := u_310) (by omega) (by omega)) dX9_blend_249 ?_
    refine lv_topi (fun z_314 hz_315 => ?_)
    refine lv_goto (tgt := 254) hx hb dX9_blend_250 (by decide) ?_
    refine va_iast (f := f40_53) (n := 4) hx hb hK hP hD hS 27 26 rfl rfl (vp_in_nI (n := k_50) (by omega) (by omega)) dX9_blend_254 (fun H locs hP hD hS => ?_)
    have hP : va_P D vwCl (mw h0 ad cs iv (uF (uF (uF (uF (uF fv 37 f37_43) 38 f_284) 39 f_305) 40 (upd f40_53 (nI k_50).toNatClampNeg z_314)) 41 f41_54) gv) H := hP
    have hD : va_D A (mw h0 ad cs iv (uF (uF (uF (uF (uF fv 37 f37_43) 38 f_284) 39 f_305) 40 (upd f40_53 (nI k_50).toNatClampNeg z_314)) 41 f41_54) gv) := hD
    obtain ⟨f_316, hf_317⟩ : ∃ g9, g9 = upd f40_53 (nI k_50).toNatClampNeg z_314 := ⟨_, rfl⟩
    rw [← hf_317] at hP hD
    rw [nI_clamp (n := k_50) (by omega)] at hf_317
    refine lv_aload_n hx hb dX9_blend_255 rfl (lv_at hl 7 rfl) ?_
    refine va_get (D := D) (ci := 9) (v := .ref (ad 41)) (C := RX9) (T := TX9) (N := 44) hx hb hts hin9 hown hK hP 0 rfl rfl 41 (by decide) (hts (.fieldLink RX9 136 "HoneyHouseModel" "there" "[I") (List.mem_of_getElem? (i := 7) rfl)) (fun _ h9 => h9) rfl dX9_blend_256 ?_
    refine lv_iload hx hb dX9_blend_259 (lv_at hl 0 rfl) ?_
    refine lv_iload hx hb dX9_blend_261 (lv_at hl 0 rfl) ?_
    refine lv_iload hx hb dX9_blend_263 (lv_at hl 1 rfl) ?_
    refine lv_icmp_ge (tgt := 286) hx hb dX9_blend_265 (by decide) (fun c_318 => absurd c_318 (nI_ge (a := k_50) (b := n_42) (by omega) (by omega))) (fun c_318 => ?_)
    refine lv_aload_n hx hb dX9_blend_268 rfl (lv_at hl 7 rfl) ?_
    refine lv_aload_n hx hb dX9_blend_269 rfl (lv_at hl 7 rfl) ?_
    refine va_get (D := D) (ci := 9) (v := .ref (ad 37)) (C := RX9) (T := TX9) (N := 44) hx hb hts hin9 hown hK hP 0 rfl rfl 37 (by decide) (hts (.fieldLink RX9 124 "HoneyHouseModel" "which" "[I") (List.mem_of_getElem? (i := 1) rfl)) (fun _ h9 => h9) rfl dX9_blend_270 ?_
    refine lv_iload hx hb dX9_blend_273 (lv_at hl 0 rfl) ?_
    refine va_iald (f := f37_43) (n := 4) hx hb hK hP 24 23 rfl rfl (vp_in_nI (n := k_50) (by omega) (by omega)) dX9_blend_275 ?_
    refine lv_topi (fun z_319 hz_320 => ?_)
    rw [nI_clamp (n := k_50) (by omega)] at hz_320
    obtain ⟨u_321, hu_322, eu_323, hnz_324⟩ := hW_46 k_50 (by omega)
    rw [eu_323] at hz_320
    subst hz_320
    refine vp_callSi (W.runV (As := [.int (nI u_321)]) (rest := [.int (nI k_50), .ref (ad 41)]) ⟨hx, hb, hml, hown, hts⟩ (m_all l D h0 ad cs iv (uF (uF (uF (uF (uF fv 37 f37_43) 38 f_284) 39 f_305) 40 f_316) 41 f41_54) gv n3 u_321 h3 (by omega) (by omega)) (cwV 1 hts gX9_blend_X9_all rfl rfl rfl (by decide +kernel) ⟨Nat.le_of_ble_eq_true rfl, Nat.le_of_ble_eq_true rfl⟩) ⟨fun a U g mk q => ⟨q.1, q.2.1, va_K.moved (u := U) (U := U.calling g mk a) (Vm.Alike.refl U.vm) q.2.2⟩, va_recv hK hP (ci := 9) (q0 := 0) rfl rfl, fun U hU hW => ⟨rfl, by rw [hU]; exact hP, va_K.moved hW.alike hK⟩⟩ rfl rfl hl.1 rfl (lv_room (Nat.le_of_ble_eq_true rfl)) dX9_blend_276 ⟨Nat.le_of_ble_eq_true rfl, Nat.le_of_ble_eq_true rfl⟩) (fun r_325 k_326 => ?_)
    refine lv_sipush (v := 1000) hx hb dX9_blend_279 (by decide) ?_
    refine lv_idiv hx hb dX9_blend_282 (by decide) ?_
    refine lv_topi (fun z_327 _ => ?_)
    refine lv_goto (tgt := 287) hx hb dX9_blend_283 (by decide) ?_
    refine va_iast (f := f41_54) (n := 4) hx hb hK hP hD hS 28 27 rfl rfl (vp_in_nI (n := k_50) (by omega) (by omega)) dX9_blend_287 (fun H locs hP hD hS => ?_)
    have hP : va_P D vwCl (mw h0 ad cs iv (uF (uF (uF (uF (uF fv 37 f37_43) 38 f_284) 39 f_305) 40 f_316) 41 (upd f41_54 (nI k_50).toNatClampNeg z_327)) gv) H := hP
    have hD : va_D A (mw h0 ad cs iv (uF (uF (uF (uF (uF fv 37 f37_43) 38 f_284) 39 f_305) 40 f_316) 41 (upd f41_54 (nI k_50).toNatClampNeg z_327)) gv) := hD
    obtain ⟨f_328, hf_329⟩ : ∃ g9, g9 = upd f41_54 (nI k_50).toNatClampNeg z_327 := ⟨_, rfl⟩
    rw [← hf_329] at hP hD
    rw [nI_clamp (n := k_50) (by omega)] at hf_329
    refine lv_iinc (v := nI (k_50 + 1)) (lv' := [(7, .int (nI (k_50 + 1))), (6, .int (nI n_42)), (5, .int a5), (4, .int (nI j_29)), (3, .int (nI j_19)), (2, .int (nI j_9)), (1, .int a1), (0, .ref h0)]) hx hb dX9_blend_288 hl (k := 0) rfl (nI_add k_50 1) (by decide) rfl (fun ls hl => ?_)
    refine lv_goto (tgt := 123) hx hb dX9_blend_291 (by decide) ?_
    exact ih_49 (k_50 + 1, f_284, f_305, f_316, f_328) (mw h0 ad cs iv (uF (uF (uF (uF (uF fv 37 f37_43) 38 f_284) 39 f_305) 40 f_316) 41 f_328) gv) _ _ ls (by show 4 - (k_50 + 1) < 4 - k_50; omega) ⟨rfl, (show (k_50 + 1) ≤ 4 from by omega)⟩ hP hD hS (lv_sub hl [0, 1, 2, 3, 4, 5, 6, 7] rfl)
  have d_330 := n_nle (a := 10) (b := t_41) (by omega) (by omega) c_47
  refine lv_iload_n hx hb dX9_blend_73 rfl (lv_at hl 6 rfl) ?_
  refine lv_iload hx hb dX9_blend_74 (lv_at hl 0 rfl) ?_
  refine lv_ishr hx hb dX9_blend_76 ?_
  refine lv_iconst (v := 1) hx hb dX9_blend_77 (by decide) ?_
  refine lv_iand hx hb dX9_blend_78 ?_
  refine lv_topi (fun z_331 _ => ?_)
  refine lv_if_ne (tgt := 85) hx hb dX9_blend_79 (by decide) (fun c_332 => ?_) (fun c_332 => ?_)
  · refine lv_iload hx hb dX9_blend_85 (lv_at hl 1 rfl) ?_
    refine lv_iconst (v := 4) hx hb dX9_blend_87 (by decide) ?_
    refine lv_icmp_eq (tgt := 100) hx hb dX9_blend_88 (by decide) (fun c_333 => ?_) (fun c_333 => ?_)
    · have d_334 := n_eq (a := n_42) (b := 4) (by omega) (by omega) c_333
      refine lv_iconst (v := (-1)) hx hb dX9_blend_100 (by decide) ?_
      have hP : va_P D vwCl (mw h0 ad cs (upd iv 35 (iv 35)) (uF (uF (uF (uF (uF (uF fv 36 (fv 36)) 37 f37_43) 38 (fv 38)) 39 (fv 39)) 40 (fv 40)) 41 (fv 41)) gv) H := hP
      have hD : va_D A (mw h0 ad cs (upd iv 35 (iv 35)) (uF (uF (uF (uF (uF (uF fv 36 (fv 36)) 37 f37_43) 38 (fv 38)) 39 (fv 39)) 40 (fv 40)) 41 (fv 41)) gv) := hD
      exact W.iret (v := (-1)) hx hb hr (fun t ht hW => ⟨⟨(-1), (-1), rfl, rfl, iv 35, fv 36, f37_43, fv 38, fv 39, fv 40, fv 41, by rw [ht]; exact hP, va_K.moved hW.alike hK, hD⟩, hS.F ht⟩) hS.2.2 dX9_blend_101
    have d_335 := n_ne (a := n_42) (b := 4) (by omega) (by omega) c_333
    refine lv_aload_n hx hb dX9_blend_91 rfl (lv_at hl 7 rfl) ?_
    refine lv_iload hx hb dX9_blend_92 (lv_at hl 0 rfl) ?_
    refine vp_callSi (W.runV (As := [.int (nI t_41)]) (rest := []) ⟨hx, hb, hml, hown, hts⟩ (m_all l D h0 ad cs iv (uF fv 37 f37_43) gv n3 t_41 h3 (by omega) (by omega)) (cwV 1 hts gX9_blend_X9_all rfl rfl rfl (by decide +kernel) ⟨Nat.le_of_ble_eq_true rfl, Nat.le_of_ble_eq_true rfl⟩) ⟨fun a U g mk q => ⟨q.1, q.2.1, va_K.moved (u := U) (U := U.calling g mk a) (Vm.Alike.refl U.vm) q.2.2⟩, va_recv hK hP (ci := 9) (q0 := 0) rfl rfl, fun U hU hW => ⟨rfl, by rw [hU]; exact hP, va_K.moved hW.alike hK⟩⟩ rfl rfl hl.1 rfl (lv_room (Nat.le_of_ble_eq_true rfl)) dX9_blend_94 ⟨Nat.le_of_ble_eq_true rfl, Nat.le_of_ble_eq_true rfl⟩) (fun r_336 k_337 => ?_)
    refine lv_if_ne (tgt := 102) hx hb dX9_blend_97 (by decide) (fun c_338 => ?_) (fun c_338 => ?_)
    · refine lv_aload_n hx hb dX9_blend_102 rfl (lv_at hl 7 rfl) ?_
      refine va_get (D := D) (ci := 9) (v := .ref (ad 37)) (C := RX9) (T := TX9) (N := 44) hx hb hts hin9 hown hK hP 0 rfl rfl 37 (by decide) (hts (.fieldLink RX9 124 "HoneyHouseModel" "which" "[I") (List.mem_of_getElem? (i := 1) rfl)) (fun _ h9 => h9) rfl dX9_blend_103 ?_
      refine lv_iload hx hb dX9_blend_106 (lv_at hl 1 rfl) ?_
      refine lv_iload hx hb dX9_blend_108 (lv_at hl 0 rfl) ?_
      refine va_iast (f := f37_43) (n := 4) hx hb hK hP hD hS 24 23 rfl rfl (vp_in_nI (n := n_42) (by omega) (by omega)) dX9_blend_110 (fun H locs hP hD hS => ?_)
      have hP : va_P D vwCl (mw h0 ad cs iv (uF fv 37 (upd f37_43 (nI n_42).toNatClampNeg (nI t_41))) gv) H := hP
      have hD : va_D A (mw h0 ad cs iv (uF fv 37 (upd f37_43 (nI n_42).toNatClampNeg (nI t_41))) gv) := hD
      obtain ⟨f_339, hf_340⟩ : ∃ g9, g9 = upd f37_43 (nI n_42).toNatClampNeg (nI t_41) := ⟨_, rfl⟩
      rw [← hf_340] at hP hD
      rw [nI_clamp (n := n_42) (by omega)] at hf_340
      refine lv_iinc (v := nI (n_42 + 1)) (lv' := [(6, .int (nI (n_42 + 1))), (7, .int (nI t_41)), (5, .int a5), (4, .int (nI j_29)), (3, .int (nI j_19)), (2, .int (nI j_9)), (1, .int a1), (0, .ref h0)]) hx hb dX9_blend_111 hl (k := 1) rfl (nI_add n_42 1) (by decide) rfl (fun ls hl => ?_)
      refine lv_iinc (v := nI (t_41 + 1)) (lv' := [(7, .int (nI (t_41 + 1))), (6, .int (nI (n_42 + 1))), (5, .int a5), (4, .int (nI j_29)), (3, .int (nI j_19)), (2, .int (nI j_9)), (1, .int a1), (0, .ref h0)]) hx hb dX9_blend_114 hl (k := 1) rfl (nI_add t_41 1) (by decide) rfl (fun ls hl => ?_)
      refine lv_goto (tgt := 66) hx hb dX9_blend_117 (by decide) ?_
      exact ih_40 (t_41 + 1, n_42 + 1, f_339) (mw h0 ad cs iv (uF fv 37 f_339) gv) _ _ ls (by show 10 - (t_41 + 1) < 10 - t_41; omega) ⟨rfl, (show (t_41 + 1) ≤ 10 from by omega), (show (n_42 + 1) ≤ 4 from by omega), (show ∀ i9 : Nat, i9 < (n_42 + 1) → ∃ u9 : Nat, u9 < 10 ∧ f_339 i9 = nI u9 ∧ ¬ mall (fv 9) u9 n3 = 0 from fun i9 h9 => (Nat.lt_or_ge i9 n_42).elim (fun q => by rw [hf_340, up_ne (by omega)]; exact hW_46 i9 q) (fun q => by rw [hf_340, show i9 = n_42 by omega, up_eq]; exact ⟨t_41, by omega, rfl, fun h8 => c_338 (k_337.trans h8)⟩))⟩ hP hD hS (lv_sub hl [0, 1, 2, 3, 4, 5, 6, 7] rfl)
    refine lv_iconst (v := (-1)) hx hb dX9_blend_100 (by decide) ?_
    have hP : va_P D vwCl (mw h0 ad cs (upd iv 35 (iv 35)) (uF (uF (uF (uF (uF (uF fv 36 (fv 36)) 37 f37_43) 38 (fv 38)) 39 (fv 39)) 40 (fv 40)) 41 (fv 41)) gv) H := hP
    have hD : va_D A (mw h0 ad cs (upd iv 35 (iv 35)) (uF (uF (uF (uF (uF (uF fv 36 (fv 36)) 37 f37_43) 38 (fv 38)) 39 (fv 39)) 40 (fv 40)) 41 (fv 41)) gv) := hD
    exact W.iret (v := (-1)) hx hb hr (fun t ht hW => ⟨⟨(-1), (-1), rfl, rfl, iv 35, fv 36, f37_43, fv 38, fv 39, fv 40, fv 41, by rw [ht]; exact hP, va_K.moved hW.alike hK, hD⟩, hS.F ht⟩) hS.2.2 dX9_blend_101
  refine lv_goto (tgt := 114) hx hb dX9_blend_82 (by decide) ?_
  refine lv_iinc (v := nI (t_41 + 1)) (lv' := [(7, .int (nI (t_41 + 1))), (6, .int (nI n_42)), (5, .int a5), (4, .int (nI j_29)), (3, .int (nI j_19)), (2, .int (nI j_9)), (1, .int a1), (0, .ref h0)]) hx hb dX9_blend_114 hl (k := 0) rfl (nI_add t_41 1) (by decide) rfl (fun ls hl => ?_)
  refine lv_goto (tgt := 66) hx hb dX9_blend_117 (by decide) ?_
  exact ih_40 (t_41 + 1, n_42, f37_43) (mw h0 ad cs iv (uF fv 37 f37_43) gv) _ _ ls (by show 10 - (t_41 + 1) < 10 - t_41; omega) ⟨rfl, (show (t_41 + 1) ≤ 10 from by omega), (show n_42 ≤ 4 from by omega), (show ∀ i9 : Nat, i9 < n_42 → ∃ u9 : Nat, u9 < 10 ∧ f37_43 i9 = nI u9 ∧ ¬ mall (fv 9) u9 n3 = 0 from hW_46)⟩ hP hD hS (lv_sub hl [0, 1, 2, 3, 4, 5, 6, 7] rfl)
