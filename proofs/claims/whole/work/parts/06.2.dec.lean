theorem d_Mo_lay_0 : decode b_Mo_lay 0 = .ok (.iload 5, 2) := by decide +kernel
theorem d_Mo_lay_2 : decode b_Mo_lay 2 = .ok (.ifCond .lt 27, 3) := by decide +kernel
theorem d_Mo_lay_5 : decode b_Mo_lay 5 = .ok (.iload 5, 2) := by decide +kernel
theorem d_Mo_lay_7 : decode b_Mo_lay 7 = .ok (.iconst 2, 1) := by decide +kernel
theorem d_Mo_lay_8 : decode b_Mo_lay 8 = .ok (.if_icmp .gt 21, 3) := by decide +kernel
theorem d_Mo_lay_11 : decode b_Mo_lay 11 = .ok (.iload 4, 2) := by decide +kernel
theorem d_Mo_lay_13 : decode b_Mo_lay 13 = .ok (.ifCond .lt 16, 3) := by decide +kernel
theorem d_Mo_lay_16 : decode b_Mo_lay 16 = .ok (.iload 4, 2) := by decide +kernel
theorem d_Mo_lay_18 : decode b_Mo_lay 18 = .ok (.sipush 1024, 3) := by decide +kernel
theorem d_Mo_lay_21 : decode b_Mo_lay 21 = .ok (.if_icmp .gt 8, 3) := by decide +kernel
theorem d_Mo_lay_24 : decode b_Mo_lay 24 = .ok (.iload_n 2, 1) := by decide +kernel
theorem d_Mo_lay_25 : decode b_Mo_lay 25 = .ok (.iconst 1, 1) := by decide +kernel
theorem d_Mo_lay_26 : decode b_Mo_lay 26 = .ok (.if_icmp .ge 5, 3) := by decide +kernel
theorem d_Mo_lay_29 : decode b_Mo_lay 29 = .ok (.iconst (-1), 1) := by decide +kernel
theorem d_Mo_lay_30 : decode b_Mo_lay 30 = .ok (.ireturn, 1) := by decide +kernel
theorem d_Mo_lay_31 : decode b_Mo_lay 31 = .ok (.iconst 0, 1) := by decide +kernel
theorem d_Mo_lay_32 : decode b_Mo_lay 32 = .ok (.istore 6, 2) := by decide +kernel
theorem d_Mo_lay_34 : decode b_Mo_lay 34 = .ok (.iload 6, 2) := by decide +kernel
theorem d_Mo_lay_36 : decode b_Mo_lay 36 = .ok (.sipush 1024, 3) := by decide +kernel
theorem d_Mo_lay_39 : decode b_Mo_lay 39 = .ok (.if_icmp .ge 17, 3) := by decide +kernel
theorem d_Mo_lay_42 : decode b_Mo_lay 42 = .ok (.aload_n 0, 1) := by decide +kernel
theorem d_Mo_lay_43 : decode b_Mo_lay 43 = .ok (.getfield 16, 3) := by decide +kernel
theorem d_Mo_lay_46 : decode b_Mo_lay 46 = .ok (.iload 6, 2) := by decide +kernel
theorem d_Mo_lay_48 : decode b_Mo_lay 48 = .ok (.iconst 0, 1) := by decide +kernel
theorem d_Mo_lay_49 : decode b_Mo_lay 49 = .ok (.iastore, 1) := by decide +kernel
theorem d_Mo_lay_50 : decode b_Mo_lay 50 = .ok (.iinc 6 1, 3) := by decide +kernel
theorem d_Mo_lay_53 : decode b_Mo_lay 53 = .ok (.goto (-19), 3) := by decide +kernel
theorem d_Mo_lay_56 : decode b_Mo_lay 56 = .ok (.aload_n 0, 1) := by decide +kernel
theorem d_Mo_lay_57 : decode b_Mo_lay 57 = .ok (.getfield 16, 3) := by decide +kernel
theorem d_Mo_lay_60 : decode b_Mo_lay 60 = .ok (.iconst 4, 1) := by decide +kernel
theorem d_Mo_lay_61 : decode b_Mo_lay 61 = .ok (.iconst 4, 1) := by decide +kernel
theorem d_Mo_lay_62 : decode b_Mo_lay 62 = .ok (.iload_n 1, 1) := by decide +kernel
theorem d_Mo_lay_63 : decode b_Mo_lay 63 = .ok (.i2l, 1) := by decide +kernel
theorem d_Mo_lay_64 : decode b_Mo_lay 64 = .ok (.invokestatic 126, 3) := by decide +kernel
theorem d_Mo_lay_67 : decode b_Mo_lay 67 = .ok (.aload_n 0, 1) := by decide +kernel
theorem d_Mo_lay_68 : decode b_Mo_lay 68 = .ok (.getfield 16, 3) := by decide +kernel
theorem d_Mo_lay_71 : decode b_Mo_lay 71 = .ok (.bipush 20, 2) := by decide +kernel
theorem d_Mo_lay_73 : decode b_Mo_lay 73 = .ok (.iconst 4, 1) := by decide +kernel
theorem d_Mo_lay_74 : decode b_Mo_lay 74 = .ok (.iload 5, 2) := by decide +kernel
theorem d_Mo_lay_76 : decode b_Mo_lay 76 = .ok (.ifCond .ne 7, 3) := by decide +kernel
theorem d_Mo_lay_79 : decode b_Mo_lay 79 = .ok (.lconst 1, 1) := by decide +kernel
theorem d_Mo_lay_80 : decode b_Mo_lay 80 = .ok (.goto 4, 3) := by decide +kernel
theorem d_Mo_lay_83 : decode b_Mo_lay 83 = .ok (.lconst 0, 1) := by decide +kernel
theorem d_Mo_lay_84 : decode b_Mo_lay 84 = .ok (.invokestatic 126, 3) := by decide +kernel
theorem d_Mo_lay_87 : decode b_Mo_lay 87 = .ok (.aload_n 0, 1) := by decide +kernel
theorem d_Mo_lay_88 : decode b_Mo_lay 88 = .ok (.getfield 16, 3) := by decide +kernel
theorem d_Mo_lay_91 : decode b_Mo_lay 91 = .ok (.bipush 24, 2) := by decide +kernel
theorem d_Mo_lay_93 : decode b_Mo_lay 93 = .ok (.iconst 4, 1) := by decide +kernel
theorem d_Mo_lay_94 : decode b_Mo_lay 94 = .ok (.iload 5, 2) := by decide +kernel
theorem d_Mo_lay_96 : decode b_Mo_lay 96 = .ok (.i2l, 1) := by decide +kernel
theorem d_Mo_lay_97 : decode b_Mo_lay 97 = .ok (.invokestatic 126, 3) := by decide +kernel
theorem d_Mo_lay_100 : decode b_Mo_lay 100 = .ok (.aload_n 0, 1) := by decide +kernel
theorem d_Mo_lay_101 : decode b_Mo_lay 101 = .ok (.getfield 16, 3) := by decide +kernel
theorem d_Mo_lay_104 : decode b_Mo_lay 104 = .ok (.bipush 28, 2) := by decide +kernel
theorem d_Mo_lay_106 : decode b_Mo_lay 106 = .ok (.iconst 4, 1) := by decide +kernel
theorem d_Mo_lay_107 : decode b_Mo_lay 107 = .ok (.iload 5, 2) := by decide +kernel
theorem d_Mo_lay_109 : decode b_Mo_lay 109 = .ok (.i2l, 1) := by decide +kernel
theorem d_Mo_lay_110 : decode b_Mo_lay 110 = .ok (.invokestatic 126, 3) := by decide +kernel
theorem d_Mo_lay_113 : decode b_Mo_lay 113 = .ok (.aload_n 0, 1) := by decide +kernel
theorem d_Mo_lay_114 : decode b_Mo_lay 114 = .ok (.getfield 16, 3) := by decide +kernel
theorem d_Mo_lay_117 : decode b_Mo_lay 117 = .ok (.bipush 32, 2) := by decide +kernel
theorem d_Mo_lay_119 : decode b_Mo_lay 119 = .ok (.iconst 4, 1) := by decide +kernel
theorem d_Mo_lay_120 : decode b_Mo_lay 120 = .ok (.iload_n 2, 1) := by decide +kernel
theorem d_Mo_lay_121 : decode b_Mo_lay 121 = .ok (.i2l, 1) := by decide +kernel
theorem d_Mo_lay_122 : decode b_Mo_lay 122 = .ok (.invokestatic 126, 3) := by decide +kernel
theorem d_Mo_lay_125 : decode b_Mo_lay 125 = .ok (.aload_n 0, 1) := by decide +kernel
theorem d_Mo_lay_126 : decode b_Mo_lay 126 = .ok (.getfield 16, 3) := by decide +kernel
theorem d_Mo_lay_129 : decode b_Mo_lay 129 = .ok (.bipush 36, 2) := by decide +kernel
theorem d_Mo_lay_131 : decode b_Mo_lay 131 = .ok (.iconst 4, 1) := by decide +kernel
theorem d_Mo_lay_132 : decode b_Mo_lay 132 = .ok (.iload_n 2, 1) := by decide +kernel
theorem d_Mo_lay_133 : decode b_Mo_lay 133 = .ok (.i2l, 1) := by decide +kernel
theorem d_Mo_lay_134 : decode b_Mo_lay 134 = .ok (.invokestatic 126, 3) := by decide +kernel
theorem d_Mo_lay_137 : decode b_Mo_lay 137 = .ok (.aload_n 0, 1) := by decide +kernel
theorem d_Mo_lay_138 : decode b_Mo_lay 138 = .ok (.getfield 16, 3) := by decide +kernel
theorem d_Mo_lay_141 : decode b_Mo_lay 141 = .ok (.bipush 40, 2) := by decide +kernel
theorem d_Mo_lay_143 : decode b_Mo_lay 143 = .ok (.iconst 4, 1) := by decide +kernel
theorem d_Mo_lay_144 : decode b_Mo_lay 144 = .ok (.iload_n 3, 1) := by decide +kernel
theorem d_Mo_lay_145 : decode b_Mo_lay 145 = .ok (.i2l, 1) := by decide +kernel
theorem d_Mo_lay_146 : decode b_Mo_lay 146 = .ok (.invokestatic 126, 3) := by decide +kernel
theorem d_Mo_lay_149 : decode b_Mo_lay 149 = .ok (.aload_n 0, 1) := by decide +kernel
theorem d_Mo_lay_150 : decode b_Mo_lay 150 = .ok (.getfield 16, 3) := by decide +kernel
theorem d_Mo_lay_153 : decode b_Mo_lay 153 = .ok (.bipush 54, 2) := by decide +kernel
theorem d_Mo_lay_155 : decode b_Mo_lay 155 = .ok (.iconst 2, 1) := by decide +kernel
theorem d_Mo_lay_156 : decode b_Mo_lay 156 = .ok (.ldc2_w 130, 3) := by decide +kernel
theorem d_Mo_lay_159 : decode b_Mo_lay 159 = .ok (.invokestatic 126, 3) := by decide +kernel
theorem d_Mo_lay_162 : decode b_Mo_lay 162 = .ok (.aload_n 0, 1) := by decide +kernel
theorem d_Mo_lay_163 : decode b_Mo_lay 163 = .ok (.getfield 16, 3) := by decide +kernel
theorem d_Mo_lay_166 : decode b_Mo_lay 166 = .ok (.bipush 56, 2) := by decide +kernel
theorem d_Mo_lay_168 : decode b_Mo_lay 168 = .ok (.iconst 2, 1) := by decide +kernel
theorem d_Mo_lay_169 : decode b_Mo_lay 169 = .ok (.ldc2_w 76, 3) := by decide +kernel
theorem d_Mo_lay_172 : decode b_Mo_lay 172 = .ok (.invokestatic 126, 3) := by decide +kernel
theorem d_Mo_lay_175 : decode b_Mo_lay 175 = .ok (.aload_n 0, 1) := by decide +kernel
theorem d_Mo_lay_176 : decode b_Mo_lay 176 = .ok (.getfield 16, 3) := by decide +kernel
theorem d_Mo_lay_179 : decode b_Mo_lay 179 = .ok (.bipush 58, 2) := by decide +kernel
theorem d_Mo_lay_181 : decode b_Mo_lay 181 = .ok (.iconst 2, 1) := by decide +kernel
theorem d_Mo_lay_182 : decode b_Mo_lay 182 = .ok (.lconst 1, 1) := by decide +kernel
theorem d_Mo_lay_183 : decode b_Mo_lay 183 = .ok (.invokestatic 126, 3) := by decide +kernel
theorem d_Mo_lay_186 : decode b_Mo_lay 186 = .ok (.aload_n 0, 1) := by decide +kernel
theorem d_Mo_lay_187 : decode b_Mo_lay 187 = .ok (.getfield 16, 3) := by decide +kernel
theorem d_Mo_lay_190 : decode b_Mo_lay 190 = .ok (.bipush 76, 2) := by decide +kernel
theorem d_Mo_lay_192 : decode b_Mo_lay 192 = .ok (.iconst 4, 1) := by decide +kernel
theorem d_Mo_lay_193 : decode b_Mo_lay 193 = .ok (.lconst 1, 1) := by decide +kernel
theorem d_Mo_lay_194 : decode b_Mo_lay 194 = .ok (.invokestatic 126, 3) := by decide +kernel
theorem d_Mo_lay_197 : decode b_Mo_lay 197 = .ok (.aload_n 0, 1) := by decide +kernel
theorem d_Mo_lay_198 : decode b_Mo_lay 198 = .ok (.getfield 16, 3) := by decide +kernel
theorem d_Mo_lay_201 : decode b_Mo_lay 201 = .ok (.bipush 84, 2) := by decide +kernel
theorem d_Mo_lay_203 : decode b_Mo_lay 203 = .ok (.iconst 4, 1) := by decide +kernel
theorem d_Mo_lay_204 : decode b_Mo_lay 204 = .ok (.ldc2_w 104, 3) := by decide +kernel
theorem d_Mo_lay_207 : decode b_Mo_lay 207 = .ok (.invokestatic 126, 3) := by decide +kernel
theorem d_Mo_lay_210 : decode b_Mo_lay 210 = .ok (.aload_n 0, 1) := by decide +kernel
theorem d_Mo_lay_211 : decode b_Mo_lay 211 = .ok (.getfield 16, 3) := by decide +kernel
theorem d_Mo_lay_214 : decode b_Mo_lay 214 = .ok (.bipush 88, 2) := by decide +kernel
theorem d_Mo_lay_216 : decode b_Mo_lay 216 = .ok (.iconst 2, 1) := by decide +kernel
theorem d_Mo_lay_217 : decode b_Mo_lay 217 = .ok (.iload 4, 2) := by decide +kernel
theorem d_Mo_lay_219 : decode b_Mo_lay 219 = .ok (.i2l, 1) := by decide +kernel
theorem d_Mo_lay_220 : decode b_Mo_lay 220 = .ok (.invokestatic 126, 3) := by decide +kernel
theorem d_Mo_lay_223 : decode b_Mo_lay 223 = .ok (.aload_n 0, 1) := by decide +kernel
theorem d_Mo_lay_224 : decode b_Mo_lay 224 = .ok (.getfield 16, 3) := by decide +kernel
theorem d_Mo_lay_227 : decode b_Mo_lay 227 = .ok (.bipush 92, 2) := by decide +kernel
theorem d_Mo_lay_229 : decode b_Mo_lay 229 = .ok (.iconst 4, 1) := by decide +kernel
theorem d_Mo_lay_230 : decode b_Mo_lay 230 = .ok (.ldc2_w 132, 3) := by decide +kernel
theorem d_Mo_lay_233 : decode b_Mo_lay 233 = .ok (.invokestatic 126, 3) := by decide +kernel
theorem d_Mo_lay_236 : decode b_Mo_lay 236 = .ok (.aload_n 0, 1) := by decide +kernel
theorem d_Mo_lay_237 : decode b_Mo_lay 237 = .ok (.getfield 16, 3) := by decide +kernel
theorem d_Mo_lay_240 : decode b_Mo_lay 240 = .ok (.bipush 96, 2) := by decide +kernel
theorem d_Mo_lay_242 : decode b_Mo_lay 242 = .ok (.iconst 4, 1) := by decide +kernel
theorem d_Mo_lay_243 : decode b_Mo_lay 243 = .ok (.ldc2_w 134, 3) := by decide +kernel
theorem d_Mo_lay_246 : decode b_Mo_lay 246 = .ok (.invokestatic 126, 3) := by decide +kernel
theorem d_Mo_lay_249 : decode b_Mo_lay 249 = .ok (.aload_n 0, 1) := by decide +kernel
theorem d_Mo_lay_250 : decode b_Mo_lay 250 = .ok (.getfield 16, 3) := by decide +kernel
theorem d_Mo_lay_253 : decode b_Mo_lay 253 = .ok (.bipush 100, 2) := by decide +kernel
theorem d_Mo_lay_255 : decode b_Mo_lay 255 = .ok (.iconst 4, 1) := by decide +kernel
theorem d_Mo_lay_256 : decode b_Mo_lay 256 = .ok (.ldc2_w 43, 3) := by decide +kernel
theorem d_Mo_lay_259 : decode b_Mo_lay 259 = .ok (.invokestatic 126, 3) := by decide +kernel
theorem d_Mo_lay_262 : decode b_Mo_lay 262 = .ok (.aload_n 0, 1) := by decide +kernel
theorem d_Mo_lay_263 : decode b_Mo_lay 263 = .ok (.getfield 16, 3) := by decide +kernel
theorem d_Mo_lay_266 : decode b_Mo_lay 266 = .ok (.sipush 224, 3) := by decide +kernel
theorem d_Mo_lay_269 : decode b_Mo_lay 269 = .ok (.iconst 4, 1) := by decide +kernel
theorem d_Mo_lay_270 : decode b_Mo_lay 270 = .ok (.ldc2_w 80, 3) := by decide +kernel
theorem d_Mo_lay_273 : decode b_Mo_lay 273 = .ok (.invokestatic 126, 3) := by decide +kernel
theorem d_Mo_lay_276 : decode b_Mo_lay 276 = .ok (.aload_n 0, 1) := by decide +kernel
theorem d_Mo_lay_277 : decode b_Mo_lay 277 = .ok (.getfield 16, 3) := by decide +kernel
theorem d_Mo_lay_280 : decode b_Mo_lay 280 = .ok (.sipush 252, 3) := by decide +kernel
theorem d_Mo_lay_283 : decode b_Mo_lay 283 = .ok (.iconst 1, 1) := by decide +kernel
theorem d_Mo_lay_284 : decode b_Mo_lay 284 = .ok (.lconst 1, 1) := by decide +kernel
theorem d_Mo_lay_285 : decode b_Mo_lay 285 = .ok (.invokestatic 126, 3) := by decide +kernel
theorem d_Mo_lay_288 : decode b_Mo_lay 288 = .ok (.aload_n 0, 1) := by decide +kernel
theorem d_Mo_lay_289 : decode b_Mo_lay 289 = .ok (.getfield 16, 3) := by decide +kernel
theorem d_Mo_lay_292 : decode b_Mo_lay 292 = .ok (.iconst 0, 1) := by decide +kernel
theorem d_Mo_lay_293 : decode b_Mo_lay 293 = .ok (.iconst 4, 1) := by decide +kernel
theorem d_Mo_lay_294 : decode b_Mo_lay 294 = .ok (.aload_n 0, 1) := by decide +kernel
theorem d_Mo_lay_295 : decode b_Mo_lay 295 = .ok (.getfield 16, 3) := by decide +kernel
theorem d_Mo_lay_298 : decode b_Mo_lay 298 = .ok (.invokestatic 63, 3) := by decide +kernel
theorem d_Mo_lay_301 : decode b_Mo_lay 301 = .ok (.aload_n 0, 1) := by decide +kernel
theorem d_Mo_lay_302 : decode b_Mo_lay 302 = .ok (.getfield 16, 3) := by decide +kernel
theorem d_Mo_lay_305 : decode b_Mo_lay 305 = .ok (.bipush 40, 2) := by decide +kernel
theorem d_Mo_lay_307 : decode b_Mo_lay 307 = .ok (.iconst 4, 1) := by decide +kernel
theorem d_Mo_lay_308 : decode b_Mo_lay 308 = .ok (.invokestatic 27, 3) := by decide +kernel
theorem d_Mo_lay_311 : decode b_Mo_lay 311 = .ok (.lmul, 1) := by decide +kernel
theorem d_Mo_lay_312 : decode b_Mo_lay 312 = .ok (.invokestatic 126, 3) := by decide +kernel
theorem d_Mo_lay_315 : decode b_Mo_lay 315 = .ok (.aload_n 0, 1) := by decide +kernel
theorem d_Mo_lay_316 : decode b_Mo_lay 316 = .ok (.getfield 16, 3) := by decide +kernel
theorem d_Mo_lay_319 : decode b_Mo_lay 319 = .ok (.invokestatic 123, 3) := by decide +kernel
theorem d_Mo_lay_322 : decode b_Mo_lay 322 = .ok (.bipush (-2), 2) := by decide +kernel
theorem d_Mo_lay_324 : decode b_Mo_lay 324 = .ok (.if_icmp .eq 5, 3) := by decide +kernel
theorem d_Mo_lay_327 : decode b_Mo_lay 327 = .ok (.iconst (-1), 1) := by decide +kernel
theorem d_Mo_lay_328 : decode b_Mo_lay 328 = .ok (.ireturn, 1) := by decide +kernel
theorem d_Mo_lay_329 : decode b_Mo_lay 329 = .ok (.iconst 0, 1) := by decide +kernel
theorem d_Mo_lay_330 : decode b_Mo_lay 330 = .ok (.istore 6, 2) := by decide +kernel
theorem d_Mo_lay_332 : decode b_Mo_lay 332 = .ok (.iload 6, 2) := by decide +kernel
theorem d_Mo_lay_334 : decode b_Mo_lay 334 = .ok (.sipush 1024, 3) := by decide +kernel
theorem d_Mo_lay_337 : decode b_Mo_lay 337 = .ok (.if_icmp .ge 37, 3) := by decide +kernel
theorem d_Mo_lay_340 : decode b_Mo_lay 340 = .ok (.aload_n 0, 1) := by decide +kernel
theorem d_Mo_lay_341 : decode b_Mo_lay 341 = .ok (.getfield 7, 3) := by decide +kernel
theorem d_Mo_lay_344 : decode b_Mo_lay 344 = .ok (.iload 6, 2) := by decide +kernel
theorem d_Mo_lay_346 : decode b_Mo_lay 346 = .ok (.aload_n 0, 1) := by decide +kernel
theorem d_Mo_lay_347 : decode b_Mo_lay 347 = .ok (.getfield 16, 3) := by decide +kernel
theorem d_Mo_lay_350 : decode b_Mo_lay 350 = .ok (.iload 6, 2) := by decide +kernel
theorem d_Mo_lay_352 : decode b_Mo_lay 352 = .ok (.iaload, 1) := by decide +kernel
theorem d_Mo_lay_353 : decode b_Mo_lay 353 = .ok (.iastore, 1) := by decide +kernel
theorem d_Mo_lay_354 : decode b_Mo_lay 354 = .ok (.aload_n 0, 1) := by decide +kernel
theorem d_Mo_lay_355 : decode b_Mo_lay 355 = .ok (.getfield 13, 3) := by decide +kernel
theorem d_Mo_lay_358 : decode b_Mo_lay 358 = .ok (.iload 6, 2) := by decide +kernel
theorem d_Mo_lay_360 : decode b_Mo_lay 360 = .ok (.aload_n 0, 1) := by decide +kernel
theorem d_Mo_lay_361 : decode b_Mo_lay 361 = .ok (.getfield 16, 3) := by decide +kernel
theorem d_Mo_lay_364 : decode b_Mo_lay 364 = .ok (.iload 6, 2) := by decide +kernel
theorem d_Mo_lay_366 : decode b_Mo_lay 366 = .ok (.iaload, 1) := by decide +kernel
theorem d_Mo_lay_367 : decode b_Mo_lay 367 = .ok (.iastore, 1) := by decide +kernel
theorem d_Mo_lay_368 : decode b_Mo_lay 368 = .ok (.iinc 6 1, 3) := by decide +kernel
theorem d_Mo_lay_371 : decode b_Mo_lay 371 = .ok (.goto (-39), 3) := by decide +kernel
theorem d_Mo_lay_374 : decode b_Mo_lay 374 = .ok (.aload_n 0, 1) := by decide +kernel
theorem d_Mo_lay_375 : decode b_Mo_lay 375 = .ok (.getfield 7, 3) := by decide +kernel
theorem d_Mo_lay_378 : decode b_Mo_lay 378 = .ok (.invokestatic 63, 3) := by decide +kernel
theorem d_Mo_lay_381 : decode b_Mo_lay 381 = .ok (.l2i, 1) := by decide +kernel
theorem d_Mo_lay_382 : decode b_Mo_lay 382 = .ok (.ireturn, 1) := by decide +kernel
theorem d_Mo_poke_0 : decode b_Mo_poke 0 = .ok (.iload_n 1, 1) := by decide +kernel
theorem d_Mo_poke_1 : decode b_Mo_poke 1 = .ok (.invokestatic 136, 3) := by decide +kernel
theorem d_Mo_poke_4 : decode b_Mo_poke 4 = .ok (.ifCond .eq 25, 3) := by decide +kernel
theorem d_Mo_poke_7 : decode b_Mo_poke 7 = .ok (.iload_n 2, 1) := by decide +kernel
theorem d_Mo_poke_8 : decode b_Mo_poke 8 = .ok (.ifCond .lt 21, 3) := by decide +kernel
theorem d_Mo_poke_11 : decode b_Mo_poke 11 = .ok (.iload_n 2, 1) := by decide +kernel
theorem d_Mo_poke_12 : decode b_Mo_poke 12 = .ok (.sipush 1024, 3) := by decide +kernel
theorem d_Mo_poke_15 : decode b_Mo_poke 15 = .ok (.if_icmp .ge 14, 3) := by decide +kernel
theorem d_Mo_poke_18 : decode b_Mo_poke 18 = .ok (.iload_n 3, 1) := by decide +kernel
theorem d_Mo_poke_19 : decode b_Mo_poke 19 = .ok (.ifCond .lt 10, 3) := by decide +kernel
theorem d_Mo_poke_22 : decode b_Mo_poke 22 = .ok (.iload_n 3, 1) := by decide +kernel
theorem d_Mo_poke_23 : decode b_Mo_poke 23 = .ok (.sipush 255, 3) := by decide +kernel
theorem d_Mo_poke_26 : decode b_Mo_poke 26 = .ok (.if_icmp .le 5, 3) := by decide +kernel
theorem d_Mo_poke_29 : decode b_Mo_poke 29 = .ok (.iconst (-1), 1) := by decide +kernel
theorem d_Mo_poke_30 : decode b_Mo_poke 30 = .ok (.ireturn, 1) := by decide +kernel
theorem d_Mo_poke_31 : decode b_Mo_poke 31 = .ok (.aload_n 0, 1) := by decide +kernel
theorem d_Mo_poke_32 : decode b_Mo_poke 32 = .ok (.iload_n 1, 1) := by decide +kernel
theorem d_Mo_poke_33 : decode b_Mo_poke 33 = .ok (.invokevirtual 140, 3) := by decide +kernel
theorem d_Mo_poke_36 : decode b_Mo_poke 36 = .ok (.iload_n 2, 1) := by decide +kernel
theorem d_Mo_poke_37 : decode b_Mo_poke 37 = .ok (.iaload, 1) := by decide +kernel
theorem d_Mo_poke_38 : decode b_Mo_poke 38 = .ok (.istore 4, 2) := by decide +kernel
theorem d_Mo_poke_40 : decode b_Mo_poke 40 = .ok (.aload_n 0, 1) := by decide +kernel
theorem d_Mo_poke_41 : decode b_Mo_poke 41 = .ok (.iload_n 1, 1) := by decide +kernel
theorem d_Mo_poke_42 : decode b_Mo_poke 42 = .ok (.invokevirtual 140, 3) := by decide +kernel
theorem d_Mo_poke_45 : decode b_Mo_poke 45 = .ok (.iload_n 2, 1) := by decide +kernel
theorem d_Mo_poke_46 : decode b_Mo_poke 46 = .ok (.iload_n 3, 1) := by decide +kernel
theorem d_Mo_poke_47 : decode b_Mo_poke 47 = .ok (.iastore, 1) := by decide +kernel
theorem d_Mo_poke_48 : decode b_Mo_poke 48 = .ok (.iload 4, 2) := by decide +kernel
theorem d_Mo_poke_50 : decode b_Mo_poke 50 = .ok (.ireturn, 1) := by decide +kernel
theorem d_Mo_isField_0 : decode b_Mo_isField 0 = .ok (.iload_n 0, 1) := by decide +kernel
theorem d_Mo_isField_1 : decode b_Mo_isField 1 = .ok (.invokestatic 136, 3) := by decide +kernel
theorem d_Mo_isField_4 : decode b_Mo_isField 4 = .ok (.ifCond .eq 35, 3) := by decide +kernel
theorem d_Mo_isField_7 : decode b_Mo_isField 7 = .ok (.iload_n 2, 1) := by decide +kernel
theorem d_Mo_isField_8 : decode b_Mo_isField 8 = .ok (.iconst 1, 1) := by decide +kernel
theorem d_Mo_isField_9 : decode b_Mo_isField 9 = .ok (.if_icmp .eq 13, 3) := by decide +kernel
theorem d_Mo_isField_12 : decode b_Mo_isField 12 = .ok (.iload_n 2, 1) := by decide +kernel
theorem d_Mo_isField_13 : decode b_Mo_isField 13 = .ok (.iconst 2, 1) := by decide +kernel
theorem d_Mo_isField_14 : decode b_Mo_isField 14 = .ok (.if_icmp .eq 8, 3) := by decide +kernel
theorem d_Mo_isField_17 : decode b_Mo_isField 17 = .ok (.iload_n 2, 1) := by decide +kernel
theorem d_Mo_isField_18 : decode b_Mo_isField 18 = .ok (.iconst 4, 1) := by decide +kernel
theorem d_Mo_isField_19 : decode b_Mo_isField 19 = .ok (.if_icmp .ne 20, 3) := by decide +kernel
theorem d_Mo_isField_22 : decode b_Mo_isField 22 = .ok (.iload_n 1, 1) := by decide +kernel
theorem d_Mo_isField_23 : decode b_Mo_isField 23 = .ok (.ifCond .lt 16, 3) := by decide +kernel
theorem d_Mo_isField_26 : decode b_Mo_isField 26 = .ok (.iload_n 1, 1) := by decide +kernel
theorem d_Mo_isField_27 : decode b_Mo_isField 27 = .ok (.sipush 1024, 3) := by decide +kernel
theorem d_Mo_isField_30 : decode b_Mo_isField 30 = .ok (.iload_n 2, 1) := by decide +kernel
theorem d_Mo_isField_31 : decode b_Mo_isField 31 = .ok (.isub, 1) := by decide +kernel
theorem d_Mo_isField_32 : decode b_Mo_isField 32 = .ok (.if_icmp .gt 7, 3) := by decide +kernel
theorem d_Mo_isField_35 : decode b_Mo_isField 35 = .ok (.iconst 1, 1) := by decide +kernel
theorem d_Mo_isField_36 : decode b_Mo_isField 36 = .ok (.goto 4, 3) := by decide +kernel
theorem d_Mo_isField_39 : decode b_Mo_isField 39 = .ok (.iconst 0, 1) := by decide +kernel
theorem d_Mo_isField_40 : decode b_Mo_isField 40 = .ok (.ireturn, 1) := by decide +kernel
theorem d_Mo_put_0 : decode b_Mo_put 0 = .ok (.iload_n 1, 1) := by decide +kernel
theorem d_Mo_put_1 : decode b_Mo_put 1 = .ok (.iload_n 2, 1) := by decide +kernel
theorem d_Mo_put_2 : decode b_Mo_put 2 = .ok (.iload_n 3, 1) := by decide +kernel
theorem d_Mo_put_3 : decode b_Mo_put 3 = .ok (.invokestatic 144, 3) := by decide +kernel
theorem d_Mo_put_6 : decode b_Mo_put 6 = .ok (.ifCond .ne 5, 3) := by decide +kernel
theorem d_Mo_put_9 : decode b_Mo_put 9 = .ok (.iconst (-1), 1) := by decide +kernel
theorem d_Mo_put_10 : decode b_Mo_put 10 = .ok (.ireturn, 1) := by decide +kernel
theorem d_Mo_put_11 : decode b_Mo_put 11 = .ok (.aload_n 0, 1) := by decide +kernel
theorem d_Mo_put_12 : decode b_Mo_put 12 = .ok (.iload_n 1, 1) := by decide +kernel
theorem d_Mo_put_13 : decode b_Mo_put 13 = .ok (.invokevirtual 140, 3) := by decide +kernel
theorem d_Mo_put_16 : decode b_Mo_put 16 = .ok (.iload_n 2, 1) := by decide +kernel
theorem d_Mo_put_17 : decode b_Mo_put 17 = .ok (.iload_n 3, 1) := by decide +kernel
theorem d_Mo_put_18 : decode b_Mo_put 18 = .ok (.iload 4, 2) := by decide +kernel
theorem d_Mo_put_20 : decode b_Mo_put 20 = .ok (.i2l, 1) := by decide +kernel
theorem d_Mo_put_21 : decode b_Mo_put 21 = .ok (.invokestatic 126, 3) := by decide +kernel
theorem d_Mo_put_24 : decode b_Mo_put 24 = .ok (.iconst 0, 1) := by decide +kernel
theorem d_Mo_put_25 : decode b_Mo_put 25 = .ok (.ireturn, 1) := by decide +kernel
theorem d_Mo_get_0 : decode b_Mo_get 0 = .ok (.iload_n 1, 1) := by decide +kernel
theorem d_Mo_get_1 : decode b_Mo_get 1 = .ok (.iload_n 2, 1) := by decide +kernel
theorem d_Mo_get_2 : decode b_Mo_get 2 = .ok (.iload_n 3, 1) := by decide +kernel
theorem d_Mo_get_3 : decode b_Mo_get 3 = .ok (.invokestatic 144, 3) := by decide +kernel
theorem d_Mo_get_6 : decode b_Mo_get 6 = .ok (.ifCond .eq 16, 3) := by decide +kernel
theorem d_Mo_get_9 : decode b_Mo_get 9 = .ok (.aload_n 0, 1) := by decide +kernel
theorem d_Mo_get_10 : decode b_Mo_get 10 = .ok (.iload_n 1, 1) := by decide +kernel
theorem d_Mo_get_11 : decode b_Mo_get 11 = .ok (.invokevirtual 140, 3) := by decide +kernel
theorem d_Mo_get_14 : decode b_Mo_get 14 = .ok (.iload_n 2, 1) := by decide +kernel
theorem d_Mo_get_15 : decode b_Mo_get 15 = .ok (.iload_n 3, 1) := by decide +kernel
theorem d_Mo_get_16 : decode b_Mo_get 16 = .ok (.invokestatic 27, 3) := by decide +kernel
theorem d_Mo_get_19 : decode b_Mo_get 19 = .ok (.goto 6, 3) := by decide +kernel
theorem d_Mo_get_22 : decode b_Mo_get 22 = .ok (.ldc2_w 148, 3) := by decide +kernel
theorem d_Mo_get_25 : decode b_Mo_get 25 = .ok (.lreturn, 1) := by decide +kernel
theorem d_Mo_fault_0 : decode b_Mo_fault 0 = .ok (.iload_n 1, 1) := by decide +kernel
theorem d_Mo_fault_1 : decode b_Mo_fault 1 = .ok (.invokestatic 136, 3) := by decide +kernel
theorem d_Mo_fault_4 : decode b_Mo_fault 4 = .ok (.ifCond .eq 14, 3) := by decide +kernel
theorem d_Mo_fault_7 : decode b_Mo_fault 7 = .ok (.aload_n 0, 1) := by decide +kernel
theorem d_Mo_fault_8 : decode b_Mo_fault 8 = .ok (.iload_n 1, 1) := by decide +kernel
theorem d_Mo_fault_9 : decode b_Mo_fault 9 = .ok (.invokevirtual 140, 3) := by decide +kernel
theorem d_Mo_fault_12 : decode b_Mo_fault 12 = .ok (.invokestatic 123, 3) := by decide +kernel
theorem d_Mo_fault_15 : decode b_Mo_fault 15 = .ok (.goto 4, 3) := by decide +kernel
theorem d_Mo_fault_18 : decode b_Mo_fault 18 = .ok (.iconst (-1), 1) := by decide +kernel
theorem d_Mo_fault_19 : decode b_Mo_fault 19 = .ok (.ireturn, 1) := by decide +kernel
theorem d_Mo_copy_0 : decode b_Mo_copy 0 = .ok (.aload_n 0, 1) := by decide +kernel
theorem d_Mo_copy_1 : decode b_Mo_copy 1 = .ok (.invokevirtual 150, 3) := by decide +kernel
theorem d_Mo_copy_4 : decode b_Mo_copy 4 = .ok (.ifCond .eq 32, 3) := by decide +kernel
theorem d_Mo_copy_7 : decode b_Mo_copy 7 = .ok (.iload_n 1, 1) := by decide +kernel
theorem d_Mo_copy_8 : decode b_Mo_copy 8 = .ok (.ifCond .lt 28, 3) := by decide +kernel
theorem d_Mo_copy_11 : decode b_Mo_copy 11 = .ok (.iload_n 1, 1) := by decide +kernel
theorem d_Mo_copy_12 : decode b_Mo_copy 12 = .ok (.i2l, 1) := by decide +kernel
theorem d_Mo_copy_13 : decode b_Mo_copy 13 = .ok (.aload_n 0, 1) := by decide +kernel
theorem d_Mo_copy_14 : decode b_Mo_copy 14 = .ok (.getfield 7, 3) := by decide +kernel
theorem d_Mo_copy_17 : decode b_Mo_copy 17 = .ok (.invokestatic 63, 3) := by decide +kernel
theorem d_Mo_copy_20 : decode b_Mo_copy 20 = .ok (.lcmp, 1) := by decide +kernel
theorem d_Mo_copy_21 : decode b_Mo_copy 21 = .ok (.ifCond .ge 15, 3) := by decide +kernel
theorem d_Mo_copy_24 : decode b_Mo_copy 24 = .ok (.aload_n 0, 1) := by decide +kernel
theorem d_Mo_copy_25 : decode b_Mo_copy 25 = .ok (.getfield 7, 3) := by decide +kernel
theorem d_Mo_copy_28 : decode b_Mo_copy 28 = .ok (.iload_n 1, 1) := by decide +kernel
theorem d_Mo_copy_29 : decode b_Mo_copy 29 = .ok (.i2l, 1) := by decide +kernel
theorem d_Mo_copy_30 : decode b_Mo_copy 30 = .ok (.invokestatic 57, 3) := by decide +kernel
theorem d_Mo_copy_33 : decode b_Mo_copy 33 = .ok (.ifCond .ne 5, 3) := by decide +kernel
theorem d_Mo_copy_36 : decode b_Mo_copy 36 = .ok (.iconst (-1), 1) := by decide +kernel
theorem d_Mo_copy_37 : decode b_Mo_copy 37 = .ok (.ireturn, 1) := by decide +kernel
theorem d_Mo_copy_38 : decode b_Mo_copy 38 = .ok (.iconst 0, 1) := by decide +kernel
theorem d_Mo_copy_39 : decode b_Mo_copy 39 = .ok (.istore_n 2, 1) := by decide +kernel
theorem d_Mo_copy_40 : decode b_Mo_copy 40 = .ok (.iload_n 2, 1) := by decide +kernel
theorem d_Mo_copy_41 : decode b_Mo_copy 41 = .ok (.sipush 1024, 3) := by decide +kernel
theorem d_Mo_copy_44 : decode b_Mo_copy 44 = .ok (.if_icmp .ge 21, 3) := by decide +kernel
theorem d_Mo_copy_47 : decode b_Mo_copy 47 = .ok (.aload_n 0, 1) := by decide +kernel
theorem d_Mo_copy_48 : decode b_Mo_copy 48 = .ok (.getfield 13, 3) := by decide +kernel
theorem d_Mo_copy_51 : decode b_Mo_copy 51 = .ok (.iload_n 2, 1) := by decide +kernel
theorem d_Mo_copy_52 : decode b_Mo_copy 52 = .ok (.aload_n 0, 1) := by decide +kernel
theorem d_Mo_copy_53 : decode b_Mo_copy 53 = .ok (.getfield 7, 3) := by decide +kernel
theorem d_Mo_copy_56 : decode b_Mo_copy 56 = .ok (.iload_n 2, 1) := by decide +kernel
theorem d_Mo_copy_57 : decode b_Mo_copy 57 = .ok (.iaload, 1) := by decide +kernel
theorem d_Mo_copy_58 : decode b_Mo_copy 58 = .ok (.iastore, 1) := by decide +kernel
theorem d_Mo_copy_59 : decode b_Mo_copy 59 = .ok (.iinc 2 1, 3) := by decide +kernel
theorem d_Mo_copy_62 : decode b_Mo_copy 62 = .ok (.goto (-22), 3) := by decide +kernel
theorem d_Mo_copy_65 : decode b_Mo_copy 65 = .ok (.aload_n 0, 1) := by decide +kernel
theorem d_Mo_copy_66 : decode b_Mo_copy 66 = .ok (.getfield 13, 3) := by decide +kernel
theorem d_Mo_copy_69 : decode b_Mo_copy 69 = .ok (.bipush 90, 2) := by decide +kernel
theorem d_Mo_copy_71 : decode b_Mo_copy 71 = .ok (.iconst 2, 1) := by decide +kernel
theorem d_Mo_copy_72 : decode b_Mo_copy 72 = .ok (.iload_n 1, 1) := by decide +kernel
theorem d_Mo_copy_73 : decode b_Mo_copy 73 = .ok (.i2l, 1) := by decide +kernel
theorem d_Mo_copy_74 : decode b_Mo_copy 74 = .ok (.invokestatic 126, 3) := by decide +kernel
theorem d_Mo_copy_77 : decode b_Mo_copy 77 = .ok (.iconst 0, 1) := by decide +kernel
theorem d_Mo_copy_78 : decode b_Mo_copy 78 = .ok (.ireturn, 1) := by decide +kernel
theorem d_Mo_mayDiffer_0 : decode b_Mo_mayDiffer 0 = .ok (.iload_n 0, 1) := by decide +kernel
theorem d_Mo_mayDiffer_1 : decode b_Mo_mayDiffer 1 = .ok (.i2l, 1) := by decide +kernel
theorem d_Mo_mayDiffer_2 : decode b_Mo_mayDiffer 2 = .ok (.ldc2_w 154, 3) := by decide +kernel
theorem d_Mo_mayDiffer_5 : decode b_Mo_mayDiffer 5 = .ok (.ldc2_w 156, 3) := by decide +kernel
theorem d_Mo_mayDiffer_8 : decode b_Mo_mayDiffer 8 = .ok (.invokestatic 82, 3) := by decide +kernel
theorem d_Mo_mayDiffer_11 : decode b_Mo_mayDiffer 11 = .ok (.ifCond .ne 59, 3) := by decide +kernel
theorem d_Mo_mayDiffer_14 : decode b_Mo_mayDiffer 14 = .ok (.iload_n 0, 1) := by decide +kernel
theorem d_Mo_mayDiffer_15 : decode b_Mo_mayDiffer 15 = .ok (.i2l, 1) := by decide +kernel
theorem d_Mo_mayDiffer_16 : decode b_Mo_mayDiffer 16 = .ok (.ldc2_w 158, 3) := by decide +kernel
theorem d_Mo_mayDiffer_19 : decode b_Mo_mayDiffer 19 = .ok (.ldc2_w 160, 3) := by decide +kernel
theorem d_Mo_mayDiffer_22 : decode b_Mo_mayDiffer 22 = .ok (.invokestatic 82, 3) := by decide +kernel
theorem d_Mo_mayDiffer_25 : decode b_Mo_mayDiffer 25 = .ok (.ifCond .ne 45, 3) := by decide +kernel
theorem d_Mo_mayDiffer_28 : decode b_Mo_mayDiffer 28 = .ok (.iload_n 0, 1) := by decide +kernel
theorem d_Mo_mayDiffer_29 : decode b_Mo_mayDiffer 29 = .ok (.i2l, 1) := by decide +kernel
theorem d_Mo_mayDiffer_30 : decode b_Mo_mayDiffer 30 = .ok (.ldc2_w 162, 3) := by decide +kernel
theorem d_Mo_mayDiffer_33 : decode b_Mo_mayDiffer 33 = .ok (.ldc2_w 164, 3) := by decide +kernel
theorem d_Mo_mayDiffer_36 : decode b_Mo_mayDiffer 36 = .ok (.invokestatic 82, 3) := by decide +kernel
theorem d_Mo_mayDiffer_39 : decode b_Mo_mayDiffer 39 = .ok (.ifCond .ne 31, 3) := by decide +kernel
theorem d_Mo_mayDiffer_42 : decode b_Mo_mayDiffer 42 = .ok (.iload_n 0, 1) := by decide +kernel
theorem d_Mo_mayDiffer_43 : decode b_Mo_mayDiffer 43 = .ok (.i2l, 1) := by decide +kernel
theorem d_Mo_mayDiffer_44 : decode b_Mo_mayDiffer 44 = .ok (.ldc2_w 166, 3) := by decide +kernel
theorem d_Mo_mayDiffer_47 : decode b_Mo_mayDiffer 47 = .ok (.ldc2_w 168, 3) := by decide +kernel
theorem d_Mo_mayDiffer_50 : decode b_Mo_mayDiffer 50 = .ok (.invokestatic 82, 3) := by decide +kernel
theorem d_Mo_mayDiffer_53 : decode b_Mo_mayDiffer 53 = .ok (.ifCond .ne 17, 3) := by decide +kernel
theorem d_Mo_mayDiffer_56 : decode b_Mo_mayDiffer 56 = .ok (.iload_n 0, 1) := by decide +kernel
theorem d_Mo_mayDiffer_57 : decode b_Mo_mayDiffer 57 = .ok (.i2l, 1) := by decide +kernel
theorem d_Mo_mayDiffer_58 : decode b_Mo_mayDiffer 58 = .ok (.ldc2_w 170, 3) := by decide +kernel
theorem d_Mo_mayDiffer_61 : decode b_Mo_mayDiffer 61 = .ok (.ldc2_w 172, 3) := by decide +kernel
theorem d_Mo_mayDiffer_64 : decode b_Mo_mayDiffer 64 = .ok (.invokestatic 82, 3) := by decide +kernel
theorem d_Mo_mayDiffer_67 : decode b_Mo_mayDiffer 67 = .ok (.ifCond .eq 7, 3) := by decide +kernel
theorem d_Mo_mayDiffer_70 : decode b_Mo_mayDiffer 70 = .ok (.iconst 1, 1) := by decide +kernel
theorem d_Mo_mayDiffer_71 : decode b_Mo_mayDiffer 71 = .ok (.goto 4, 3) := by decide +kernel
theorem d_Mo_mayDiffer_74 : decode b_Mo_mayDiffer 74 = .ok (.iconst 0, 1) := by decide +kernel
theorem d_Mo_mayDiffer_75 : decode b_Mo_mayDiffer 75 = .ok (.ireturn, 1) := by decide +kernel
theorem d_Mo_differs_0 : decode b_Mo_differs 0 = .ok (.iconst 0, 1) := by decide +kernel
theorem d_Mo_differs_1 : decode b_Mo_differs 1 = .ok (.istore_n 1, 1) := by decide +kernel
theorem d_Mo_differs_2 : decode b_Mo_differs 2 = .ok (.iload_n 1, 1) := by decide +kernel
theorem d_Mo_differs_3 : decode b_Mo_differs 3 = .ok (.sipush 1024, 3) := by decide +kernel
theorem d_Mo_differs_6 : decode b_Mo_differs 6 = .ok (.if_icmp .ge 33, 3) := by decide +kernel
theorem d_Mo_differs_9 : decode b_Mo_differs 9 = .ok (.aload_n 0, 1) := by decide +kernel
theorem d_Mo_differs_10 : decode b_Mo_differs 10 = .ok (.getfield 7, 3) := by decide +kernel
theorem d_Mo_differs_13 : decode b_Mo_differs 13 = .ok (.iload_n 1, 1) := by decide +kernel
theorem d_Mo_differs_14 : decode b_Mo_differs 14 = .ok (.iaload, 1) := by decide +kernel
theorem d_Mo_differs_15 : decode b_Mo_differs 15 = .ok (.aload_n 0, 1) := by decide +kernel
theorem d_Mo_differs_16 : decode b_Mo_differs 16 = .ok (.getfield 13, 3) := by decide +kernel
theorem d_Mo_differs_19 : decode b_Mo_differs 19 = .ok (.iload_n 1, 1) := by decide +kernel
theorem d_Mo_differs_20 : decode b_Mo_differs 20 = .ok (.iaload, 1) := by decide +kernel
theorem d_Mo_differs_21 : decode b_Mo_differs 21 = .ok (.if_icmp .eq 12, 3) := by decide +kernel
theorem d_Mo_differs_24 : decode b_Mo_differs 24 = .ok (.iload_n 1, 1) := by decide +kernel
theorem d_Mo_differs_25 : decode b_Mo_differs 25 = .ok (.invokestatic 174, 3) := by decide +kernel
theorem d_Mo_differs_28 : decode b_Mo_differs 28 = .ok (.ifCond .ne 5, 3) := by decide +kernel
theorem d_Mo_differs_31 : decode b_Mo_differs 31 = .ok (.iload_n 1, 1) := by decide +kernel
theorem d_Mo_differs_32 : decode b_Mo_differs 32 = .ok (.ireturn, 1) := by decide +kernel
theorem d_Mo_differs_33 : decode b_Mo_differs 33 = .ok (.iinc 1 1, 3) := by decide +kernel
theorem d_Mo_differs_36 : decode b_Mo_differs 36 = .ok (.goto (-34), 3) := by decide +kernel
theorem d_Mo_differs_39 : decode b_Mo_differs 39 = .ok (.bipush (-2), 2) := by decide +kernel
theorem d_Mo_differs_41 : decode b_Mo_differs 41 = .ok (.ireturn, 1) := by decide +kernel
theorem d_Mo_groups_0 : decode b_Mo_groups 0 = .ok (.aload_n 0, 1) := by decide +kernel
theorem d_Mo_groups_1 : decode b_Mo_groups 1 = .ok (.invokevirtual 150, 3) := by decide +kernel
theorem d_Mo_groups_4 : decode b_Mo_groups 4 = .ok (.ifCond .eq 14, 3) := by decide +kernel
theorem d_Mo_groups_7 : decode b_Mo_groups 7 = .ok (.aload_n 0, 1) := by decide +kernel
theorem d_Mo_groups_8 : decode b_Mo_groups 8 = .ok (.getfield 7, 3) := by decide +kernel
theorem d_Mo_groups_11 : decode b_Mo_groups 11 = .ok (.invokestatic 63, 3) := by decide +kernel
theorem d_Mo_groups_14 : decode b_Mo_groups 14 = .ok (.l2i, 1) := by decide +kernel
theorem d_Mo_groups_15 : decode b_Mo_groups 15 = .ok (.goto 4, 3) := by decide +kernel
theorem d_Mo_groups_18 : decode b_Mo_groups 18 = .ok (.iconst (-1), 1) := by decide +kernel
theorem d_Mo_groups_19 : decode b_Mo_groups 19 = .ok (.ireturn, 1) := by decide +kernel
