theorem dX5_indexOf_20 : decode cX5_indexOf 20 = .ok (.iinc 2 1, 3) := by decide +kernel
theorem dX5_indexOf_23 : decode cX5_indexOf 23 = .ok (.goto (-21), 3) := by decide +kernel
theorem dX5_indexOf_26 : decode cX5_indexOf 26 = .ok (.iload_n 2, 1) := by decide +kernel
theorem dX5_indexOf_27 : decode cX5_indexOf 27 = .ok (.ireturn, 1) := by decide +kernel
theorem dX5_foresight_0 : decode cX5_foresight 0 = .ok (.iload_n 1, 1) := by decide +kernel
theorem dX5_foresight_1 : decode cX5_foresight 1 = .ok (.i2l, 1) := by decide +kernel
theorem dX5_foresight_2 : decode cX5_foresight 2 = .ok (.lconst 0, 1) := by decide +kernel
theorem dX5_foresight_3 : decode cX5_foresight 3 = .ok (.ldc2_w 225, 3) := by decide +kernel
theorem dX5_foresight_6 : decode cX5_foresight 6 = .ok (.invokestatic 96, 3) := by decide +kernel
theorem dX5_foresight_9 : decode cX5_foresight 9 = .ok (.ifCond .ne 6, 3) := by decide +kernel
theorem dX5_foresight_12 : decode cX5_foresight 12 = .ok (.bipush (-102), 2) := by decide +kernel
theorem dX5_foresight_14 : decode cX5_foresight 14 = .ok (.ireturn, 1) := by decide +kernel
theorem dX5_foresight_15 : decode cX5_foresight 15 = .ok (.aload_n 0, 1) := by decide +kernel
theorem dX5_foresight_16 : decode cX5_foresight 16 = .ok (.getfield 126, 3) := by decide +kernel
theorem dX5_foresight_19 : decode cX5_foresight 19 = .ok (.sipush 200, 3) := by decide +kernel
theorem dX5_foresight_22 : decode cX5_foresight 22 = .ok (.if_icmp .ge 10, 3) := by decide +kernel
theorem dX5_foresight_25 : decode cX5_foresight 25 = .ok (.aload_n 0, 1) := by decide +kernel
theorem dX5_foresight_26 : decode cX5_foresight 26 = .ok (.getfield 126, 3) := by decide +kernel
theorem dX5_foresight_29 : decode cX5_foresight 29 = .ok (.goto 6, 3) := by decide +kernel
theorem dX5_foresight_32 : decode cX5_foresight 32 = .ok (.sipush 200, 3) := by decide +kernel
theorem dX5_foresight_35 : decode cX5_foresight 35 = .ok (.istore_n 2, 1) := by decide +kernel
theorem dX5_foresight_36 : decode cX5_foresight 36 = .ok (.iload_n 1, 1) := by decide +kernel
theorem dX5_foresight_37 : decode cX5_foresight 37 = .ok (.iload_n 2, 1) := by decide +kernel
theorem dX5_foresight_38 : decode cX5_foresight 38 = .ok (.if_icmp .ge 7, 3) := by decide +kernel
theorem dX5_foresight_41 : decode cX5_foresight 41 = .ok (.iload_n 1, 1) := by decide +kernel
theorem dX5_foresight_42 : decode cX5_foresight 42 = .ok (.goto 4, 3) := by decide +kernel
theorem dX5_foresight_45 : decode cX5_foresight 45 = .ok (.iload_n 2, 1) := by decide +kernel
theorem dX5_foresight_46 : decode cX5_foresight 46 = .ok (.istore_n 3, 1) := by decide +kernel
theorem dX5_foresight_47 : decode cX5_foresight 47 = .ok (.aload_n 0, 1) := by decide +kernel
theorem dX5_foresight_48 : decode cX5_foresight 48 = .ok (.iconst 0, 1) := by decide +kernel
theorem dX5_foresight_49 : decode cX5_foresight 49 = .ok (.putfield 215, 3) := by decide +kernel
theorem dX5_foresight_52 : decode cX5_foresight 52 = .ok (.aload_n 0, 1) := by decide +kernel
theorem dX5_foresight_53 : decode cX5_foresight 53 = .ok (.getfield 126, 3) := by decide +kernel
theorem dX5_foresight_56 : decode cX5_foresight 56 = .ok (.iload_n 3, 1) := by decide +kernel
theorem dX5_foresight_57 : decode cX5_foresight 57 = .ok (.isub, 1) := by decide +kernel
theorem dX5_foresight_58 : decode cX5_foresight 58 = .ok (.istore 4, 2) := by decide +kernel
theorem dX5_foresight_60 : decode cX5_foresight 60 = .ok (.iload 4, 2) := by decide +kernel
theorem dX5_foresight_62 : decode cX5_foresight 62 = .ok (.aload_n 0, 1) := by decide +kernel
theorem dX5_foresight_63 : decode cX5_foresight 63 = .ok (.getfield 126, 3) := by decide +kernel
theorem dX5_foresight_66 : decode cX5_foresight 66 = .ok (.if_icmp .ge 68, 3) := by decide +kernel
theorem dX5_foresight_69 : decode cX5_foresight 69 = .ok (.aload_n 0, 1) := by decide +kernel
theorem dX5_foresight_70 : decode cX5_foresight 70 = .ok (.getfield 56, 3) := by decide +kernel
theorem dX5_foresight_73 : decode cX5_foresight 73 = .ok (.iload 4, 2) := by decide +kernel
theorem dX5_foresight_75 : decode cX5_foresight 75 = .ok (.sipush 200, 3) := by decide +kernel
theorem dX5_foresight_78 : decode cX5_foresight 78 = .ok (.irem, 1) := by decide +kernel
theorem dX5_foresight_79 : decode cX5_foresight 79 = .ok (.iaload, 1) := by decide +kernel
theorem dX5_foresight_80 : decode cX5_foresight 80 = .ok (.istore 5, 2) := by decide +kernel
theorem dX5_foresight_82 : decode cX5_foresight 82 = .ok (.aload_n 0, 1) := by decide +kernel
theorem dX5_foresight_83 : decode cX5_foresight 83 = .ok (.iload 5, 2) := by decide +kernel
theorem dX5_foresight_85 : decode cX5_foresight 85 = .ok (.invokevirtual 227, 3) := by decide +kernel
theorem dX5_foresight_88 : decode cX5_foresight 88 = .ok (.aload_n 0, 1) := by decide +kernel
theorem dX5_foresight_89 : decode cX5_foresight 89 = .ok (.getfield 215, 3) := by decide +kernel
theorem dX5_foresight_92 : decode cX5_foresight 92 = .ok (.if_icmp .ne 36, 3) := by decide +kernel
theorem dX5_foresight_95 : decode cX5_foresight 95 = .ok (.aload_n 0, 1) := by decide +kernel
theorem dX5_foresight_96 : decode cX5_foresight 96 = .ok (.getfield 215, 3) := by decide +kernel
theorem dX5_foresight_99 : decode cX5_foresight 99 = .ok (.bipush 7, 2) := by decide +kernel
theorem dX5_foresight_101 : decode cX5_foresight 101 = .ok (.if_icmp .ne 6, 3) := by decide +kernel
theorem dX5_foresight_104 : decode cX5_foresight 104 = .ok (.bipush (-103), 2) := by decide +kernel
theorem dX5_foresight_106 : decode cX5_foresight 106 = .ok (.ireturn, 1) := by decide +kernel
theorem dX5_foresight_107 : decode cX5_foresight 107 = .ok (.aload_n 0, 1) := by decide +kernel
theorem dX5_foresight_108 : decode cX5_foresight 108 = .ok (.getfield 63, 3) := by decide +kernel
theorem dX5_foresight_111 : decode cX5_foresight 111 = .ok (.aload_n 0, 1) := by decide +kernel
theorem dX5_foresight_112 : decode cX5_foresight 112 = .ok (.getfield 215, 3) := by decide +kernel
theorem dX5_foresight_115 : decode cX5_foresight 115 = .ok (.iload 5, 2) := by decide +kernel
theorem dX5_foresight_117 : decode cX5_foresight 117 = .ok (.iastore, 1) := by decide +kernel
theorem dX5_foresight_118 : decode cX5_foresight 118 = .ok (.aload_n 0, 1) := by decide +kernel
theorem dX5_foresight_119 : decode cX5_foresight 119 = .ok (.dup, 1) := by decide +kernel
theorem dX5_foresight_120 : decode cX5_foresight 120 = .ok (.getfield 215, 3) := by decide +kernel
theorem dX5_foresight_123 : decode cX5_foresight 123 = .ok (.iconst 1, 1) := by decide +kernel
theorem dX5_foresight_124 : decode cX5_foresight 124 = .ok (.iadd, 1) := by decide +kernel
theorem dX5_foresight_125 : decode cX5_foresight 125 = .ok (.putfield 215, 3) := by decide +kernel
theorem dX5_foresight_128 : decode cX5_foresight 128 = .ok (.iinc 4 1, 3) := by decide +kernel
theorem dX5_foresight_131 : decode cX5_foresight 131 = .ok (.goto (-71), 3) := by decide +kernel
theorem dX5_foresight_134 : decode cX5_foresight 134 = .ok (.iconst 0, 1) := by decide +kernel
theorem dX5_foresight_135 : decode cX5_foresight 135 = .ok (.istore 4, 2) := by decide +kernel
theorem dX5_foresight_137 : decode cX5_foresight 137 = .ok (.iload 4, 2) := by decide +kernel
theorem dX5_foresight_139 : decode cX5_foresight 139 = .ok (.sipush 128, 3) := by decide +kernel
theorem dX5_foresight_142 : decode cX5_foresight 142 = .ok (.if_icmp .ge 51, 3) := by decide +kernel
theorem dX5_foresight_145 : decode cX5_foresight 145 = .ok (.aload_n 0, 1) := by decide +kernel
theorem dX5_foresight_146 : decode cX5_foresight 146 = .ok (.iload 4, 2) := by decide +kernel
theorem dX5_foresight_148 : decode cX5_foresight 148 = .ok (.aload_n 0, 1) := by decide +kernel
theorem dX5_foresight_149 : decode cX5_foresight 149 = .ok (.getfield 105, 3) := by decide +kernel
theorem dX5_foresight_152 : decode cX5_foresight 152 = .ok (.iconst 0, 1) := by decide +kernel
theorem dX5_foresight_153 : decode cX5_foresight 153 = .ok (.invokevirtual 230, 3) := by decide +kernel
theorem dX5_foresight_156 : decode cX5_foresight 156 = .ok (.aload_n 0, 1) := by decide +kernel
theorem dX5_foresight_157 : decode cX5_foresight 157 = .ok (.iload 4, 2) := by decide +kernel
theorem dX5_foresight_159 : decode cX5_foresight 159 = .ok (.aload_n 0, 1) := by decide +kernel
theorem dX5_foresight_160 : decode cX5_foresight 160 = .ok (.getfield 105, 3) := by decide +kernel
theorem dX5_foresight_163 : decode cX5_foresight 163 = .ok (.iconst 1, 1) := by decide +kernel
theorem dX5_foresight_164 : decode cX5_foresight 164 = .ok (.isub, 1) := by decide +kernel
theorem dX5_foresight_165 : decode cX5_foresight 165 = .ok (.iconst 1, 1) := by decide +kernel
theorem dX5_foresight_166 : decode cX5_foresight 166 = .ok (.invokevirtual 230, 3) := by decide +kernel
theorem dX5_foresight_169 : decode cX5_foresight 169 = .ok (.aload_n 0, 1) := by decide +kernel
theorem dX5_foresight_170 : decode cX5_foresight 170 = .ok (.getfield 78, 3) := by decide +kernel
theorem dX5_foresight_173 : decode cX5_foresight 173 = .ok (.iload 4, 2) := by decide +kernel
theorem dX5_foresight_175 : decode cX5_foresight 175 = .ok (.iload 4, 2) := by decide +kernel
theorem dX5_foresight_177 : decode cX5_foresight 177 = .ok (.ifCond .ne 7, 3) := by decide +kernel
theorem dX5_foresight_180 : decode cX5_foresight 180 = .ok (.iconst 0, 1) := by decide +kernel
theorem dX5_foresight_181 : decode cX5_foresight 181 = .ok (.goto 5, 3) := by decide +kernel
theorem dX5_foresight_184 : decode cX5_foresight 184 = .ok (.ldc 224, 2) := by decide +kernel
theorem dX5_foresight_186 : decode cX5_foresight 186 = .ok (.iastore, 1) := by decide +kernel
theorem dX5_foresight_187 : decode cX5_foresight 187 = .ok (.iinc 4 1, 3) := by decide +kernel
theorem dX5_foresight_190 : decode cX5_foresight 190 = .ok (.goto (-53), 3) := by decide +kernel
theorem dX5_foresight_193 : decode cX5_foresight 193 = .ok (.iconst 0, 1) := by decide +kernel
theorem dX5_foresight_194 : decode cX5_foresight 194 = .ok (.istore 4, 2) := by decide +kernel
theorem dX5_foresight_196 : decode cX5_foresight 196 = .ok (.aload_n 0, 1) := by decide +kernel
theorem dX5_foresight_197 : decode cX5_foresight 197 = .ok (.getfield 126, 3) := by decide +kernel
theorem dX5_foresight_200 : decode cX5_foresight 200 = .ok (.iload_n 3, 1) := by decide +kernel
theorem dX5_foresight_201 : decode cX5_foresight 201 = .ok (.isub, 1) := by decide +kernel
theorem dX5_foresight_202 : decode cX5_foresight 202 = .ok (.istore 5, 2) := by decide +kernel
theorem dX5_foresight_204 : decode cX5_foresight 204 = .ok (.iload 5, 2) := by decide +kernel
theorem dX5_foresight_206 : decode cX5_foresight 206 = .ok (.aload_n 0, 1) := by decide +kernel
theorem dX5_foresight_207 : decode cX5_foresight 207 = .ok (.getfield 126, 3) := by decide +kernel
theorem dX5_foresight_210 : decode cX5_foresight 210 = .ok (.if_icmp .ge 219, 3) := by decide +kernel
theorem dX5_foresight_213 : decode cX5_foresight 213 = .ok (.aload_n 0, 1) := by decide +kernel
theorem dX5_foresight_214 : decode cX5_foresight 214 = .ok (.aload_n 0, 1) := by decide +kernel
theorem dX5_foresight_215 : decode cX5_foresight 215 = .ok (.aload_n 0, 1) := by decide +kernel
theorem dX5_foresight_216 : decode cX5_foresight 216 = .ok (.getfield 56, 3) := by decide +kernel
theorem dX5_foresight_219 : decode cX5_foresight 219 = .ok (.iload 5, 2) := by decide +kernel
theorem dX5_foresight_221 : decode cX5_foresight 221 = .ok (.sipush 200, 3) := by decide +kernel
theorem dX5_foresight_224 : decode cX5_foresight 224 = .ok (.irem, 1) := by decide +kernel
theorem dX5_foresight_225 : decode cX5_foresight 225 = .ok (.iaload, 1) := by decide +kernel
theorem dX5_foresight_226 : decode cX5_foresight 226 = .ok (.invokevirtual 227, 3) := by decide +kernel
theorem dX5_foresight_229 : decode cX5_foresight 229 = .ok (.invokevirtual 233, 3) := by decide +kernel
theorem dX5_foresight_232 : decode cX5_foresight 232 = .ok (.ldc 224, 2) := by decide +kernel
theorem dX5_foresight_234 : decode cX5_foresight 234 = .ok (.istore 4, 2) := by decide +kernel
theorem dX5_foresight_236 : decode cX5_foresight 236 = .ok (.iconst 0, 1) := by decide +kernel
theorem dX5_foresight_237 : decode cX5_foresight 237 = .ok (.istore 6, 2) := by decide +kernel
theorem dX5_foresight_239 : decode cX5_foresight 239 = .ok (.iload 6, 2) := by decide +kernel
theorem dX5_foresight_241 : decode cX5_foresight 241 = .ok (.sipush 128, 3) := by decide +kernel
theorem dX5_foresight_244 : decode cX5_foresight 244 = .ok (.if_icmp .ge 44, 3) := by decide +kernel
theorem dX5_foresight_247 : decode cX5_foresight 247 = .ok (.aload_n 0, 1) := by decide +kernel
theorem dX5_foresight_248 : decode cX5_foresight 248 = .ok (.getfield 78, 3) := by decide +kernel
theorem dX5_foresight_251 : decode cX5_foresight 251 = .ok (.iload 6, 2) := by decide +kernel
theorem dX5_foresight_253 : decode cX5_foresight 253 = .ok (.ldc 224, 2) := by decide +kernel
theorem dX5_foresight_255 : decode cX5_foresight 255 = .ok (.iastore, 1) := by decide +kernel
theorem dX5_foresight_256 : decode cX5_foresight 256 = .ok (.aload_n 0, 1) := by decide +kernel
theorem dX5_foresight_257 : decode cX5_foresight 257 = .ok (.getfield 81, 3) := by decide +kernel
theorem dX5_foresight_260 : decode cX5_foresight 260 = .ok (.iload 6, 2) := by decide +kernel
theorem dX5_foresight_262 : decode cX5_foresight 262 = .ok (.iaload, 1) := by decide +kernel
theorem dX5_foresight_263 : decode cX5_foresight 263 = .ok (.iload 4, 2) := by decide +kernel
theorem dX5_foresight_265 : decode cX5_foresight 265 = .ok (.if_icmp .ge 13, 3) := by decide +kernel
theorem dX5_foresight_268 : decode cX5_foresight 268 = .ok (.aload_n 0, 1) := by decide +kernel
theorem dX5_foresight_269 : decode cX5_foresight 269 = .ok (.getfield 81, 3) := by decide +kernel
theorem dX5_foresight_272 : decode cX5_foresight 272 = .ok (.iload 6, 2) := by decide +kernel
theorem dX5_foresight_274 : decode cX5_foresight 274 = .ok (.iaload, 1) := by decide +kernel
theorem dX5_foresight_275 : decode cX5_foresight 275 = .ok (.goto 5, 3) := by decide +kernel
theorem dX5_foresight_278 : decode cX5_foresight 278 = .ok (.iload 4, 2) := by decide +kernel
theorem dX5_foresight_280 : decode cX5_foresight 280 = .ok (.istore 4, 2) := by decide +kernel
theorem dX5_foresight_282 : decode cX5_foresight 282 = .ok (.iinc 6 1, 3) := by decide +kernel
theorem dX5_foresight_285 : decode cX5_foresight 285 = .ok (.goto (-46), 3) := by decide +kernel
theorem dX5_foresight_288 : decode cX5_foresight 288 = .ok (.iload 5, 2) := by decide +kernel
theorem dX5_foresight_290 : decode cX5_foresight 290 = .ok (.iconst 1, 1) := by decide +kernel
theorem dX5_foresight_291 : decode cX5_foresight 291 = .ok (.iadd, 1) := by decide +kernel
theorem dX5_foresight_292 : decode cX5_foresight 292 = .ok (.aload_n 0, 1) := by decide +kernel
theorem dX5_foresight_293 : decode cX5_foresight 293 = .ok (.getfield 108, 3) := by decide +kernel
theorem dX5_foresight_296 : decode cX5_foresight 296 = .ok (.irem, 1) := by decide +kernel
theorem dX5_foresight_297 : decode cX5_foresight 297 = .ok (.ifCond .ne 7, 3) := by decide +kernel
theorem dX5_foresight_300 : decode cX5_foresight 300 = .ok (.iconst 1, 1) := by decide +kernel
theorem dX5_foresight_301 : decode cX5_foresight 301 = .ok (.goto 4, 3) := by decide +kernel
theorem dX5_foresight_304 : decode cX5_foresight 304 = .ok (.iconst 0, 1) := by decide +kernel
theorem dX5_foresight_305 : decode cX5_foresight 305 = .ok (.istore 6, 2) := by decide +kernel
theorem dX5_foresight_307 : decode cX5_foresight 307 = .ok (.iconst 0, 1) := by decide +kernel
theorem dX5_foresight_308 : decode cX5_foresight 308 = .ok (.istore 7, 2) := by decide +kernel
theorem dX5_foresight_310 : decode cX5_foresight 310 = .ok (.iload 7, 2) := by decide +kernel
theorem dX5_foresight_312 : decode cX5_foresight 312 = .ok (.sipush 128, 3) := by decide +kernel
theorem dX5_foresight_315 : decode cX5_foresight 315 = .ok (.if_icmp .ge 108, 3) := by decide +kernel
theorem dX5_foresight_318 : decode cX5_foresight 318 = .ok (.iconst 0, 1) := by decide +kernel
theorem dX5_foresight_319 : decode cX5_foresight 319 = .ok (.istore 8, 2) := by decide +kernel
theorem dX5_foresight_321 : decode cX5_foresight 321 = .ok (.iload 8, 2) := by decide +kernel
theorem dX5_foresight_323 : decode cX5_foresight 323 = .ok (.sipush 128, 3) := by decide +kernel
theorem dX5_foresight_326 : decode cX5_foresight 326 = .ok (.if_icmp .ge 91, 3) := by decide +kernel
theorem dX5_foresight_329 : decode cX5_foresight 329 = .ok (.iload 6, 2) := by decide +kernel
theorem dX5_foresight_331 : decode cX5_foresight 331 = .ok (.ifCond .eq 20, 3) := by decide +kernel
theorem dX5_foresight_334 : decode cX5_foresight 334 = .ok (.aload_n 0, 1) := by decide +kernel
theorem dX5_foresight_335 : decode cX5_foresight 335 = .ok (.getfield 66, 3) := by decide +kernel
theorem dX5_foresight_338 : decode cX5_foresight 338 = .ok (.sipush 128, 3) := by decide +kernel
theorem dX5_foresight_341 : decode cX5_foresight 341 = .ok (.iload 7, 2) := by decide +kernel
theorem dX5_foresight_343 : decode cX5_foresight 343 = .ok (.imul, 1) := by decide +kernel
theorem dX5_foresight_344 : decode cX5_foresight 344 = .ok (.iload 8, 2) := by decide +kernel
theorem dX5_foresight_346 : decode cX5_foresight 346 = .ok (.iadd, 1) := by decide +kernel
theorem dX5_foresight_347 : decode cX5_foresight 347 = .ok (.baload, 1) := by decide +kernel
theorem dX5_foresight_348 : decode cX5_foresight 348 = .ok (.goto 15, 3) := by decide +kernel
theorem dX5_foresight_351 : decode cX5_foresight 351 = .ok (.iload 7, 2) := by decide +kernel
theorem dX5_foresight_353 : decode cX5_foresight 353 = .ok (.iload 8, 2) := by decide +kernel
theorem dX5_foresight_355 : decode cX5_foresight 355 = .ok (.if_icmp .ne 7, 3) := by decide +kernel
theorem dX5_foresight_358 : decode cX5_foresight 358 = .ok (.iconst 1, 1) := by decide +kernel
theorem dX5_foresight_359 : decode cX5_foresight 359 = .ok (.goto 4, 3) := by decide +kernel
theorem dX5_foresight_362 : decode cX5_foresight 362 = .ok (.iconst 0, 1) := by decide +kernel
theorem dX5_foresight_363 : decode cX5_foresight 363 = .ok (.istore 9, 2) := by decide +kernel
theorem dX5_foresight_365 : decode cX5_foresight 365 = .ok (.aload_n 0, 1) := by decide +kernel
theorem dX5_foresight_366 : decode cX5_foresight 366 = .ok (.getfield 78, 3) := by decide +kernel
theorem dX5_foresight_369 : decode cX5_foresight 369 = .ok (.iload 8, 2) := by decide +kernel
theorem dX5_foresight_371 : decode cX5_foresight 371 = .ok (.iload 9, 2) := by decide +kernel
theorem dX5_foresight_373 : decode cX5_foresight 373 = .ok (.ifCond .eq 30, 3) := by decide +kernel
theorem dX5_foresight_376 : decode cX5_foresight 376 = .ok (.aload_n 0, 1) := by decide +kernel
theorem dX5_foresight_377 : decode cX5_foresight 377 = .ok (.getfield 81, 3) := by decide +kernel
theorem dX5_foresight_380 : decode cX5_foresight 380 = .ok (.iload 7, 2) := by decide +kernel
theorem dX5_foresight_382 : decode cX5_foresight 382 = .ok (.iaload, 1) := by decide +kernel
theorem dX5_foresight_383 : decode cX5_foresight 383 = .ok (.aload_n 0, 1) := by decide +kernel
theorem dX5_foresight_384 : decode cX5_foresight 384 = .ok (.getfield 78, 3) := by decide +kernel
theorem dX5_foresight_387 : decode cX5_foresight 387 = .ok (.iload 8, 2) := by decide +kernel
theorem dX5_foresight_389 : decode cX5_foresight 389 = .ok (.iaload, 1) := by decide +kernel
theorem dX5_foresight_390 : decode cX5_foresight 390 = .ok (.if_icmp .ge 13, 3) := by decide +kernel
theorem dX5_foresight_393 : decode cX5_foresight 393 = .ok (.aload_n 0, 1) := by decide +kernel
theorem dX5_foresight_394 : decode cX5_foresight 394 = .ok (.getfield 81, 3) := by decide +kernel
theorem dX5_foresight_397 : decode cX5_foresight 397 = .ok (.iload 7, 2) := by decide +kernel
theorem dX5_foresight_399 : decode cX5_foresight 399 = .ok (.iaload, 1) := by decide +kernel
theorem dX5_foresight_400 : decode cX5_foresight 400 = .ok (.goto 10, 3) := by decide +kernel
theorem dX5_foresight_403 : decode cX5_foresight 403 = .ok (.aload_n 0, 1) := by decide +kernel
theorem dX5_foresight_404 : decode cX5_foresight 404 = .ok (.getfield 78, 3) := by decide +kernel
theorem dX5_foresight_407 : decode cX5_foresight 407 = .ok (.iload 8, 2) := by decide +kernel
theorem dX5_foresight_409 : decode cX5_foresight 409 = .ok (.iaload, 1) := by decide +kernel
theorem dX5_foresight_410 : decode cX5_foresight 410 = .ok (.iastore, 1) := by decide +kernel
theorem dX5_foresight_411 : decode cX5_foresight 411 = .ok (.iinc 8 1, 3) := by decide +kernel
theorem dX5_foresight_414 : decode cX5_foresight 414 = .ok (.goto (-93), 3) := by decide +kernel
theorem dX5_foresight_417 : decode cX5_foresight 417 = .ok (.iinc 7 1, 3) := by decide +kernel
theorem dX5_foresight_420 : decode cX5_foresight 420 = .ok (.goto (-110), 3) := by decide +kernel
theorem dX5_foresight_423 : decode cX5_foresight 423 = .ok (.iinc 5 1, 3) := by decide +kernel
theorem dX5_foresight_426 : decode cX5_foresight 426 = .ok (.goto (-222), 3) := by decide +kernel
theorem dX5_foresight_429 : decode cX5_foresight 429 = .ok (.iload 4, 2) := by decide +kernel
theorem dX5_foresight_431 : decode cX5_foresight 431 = .ok (.ireturn, 1) := by decide +kernel
theorem dX5_lay_0 : decode cX5_lay 0 = .ok (.aload_n 0, 1) := by decide +kernel
theorem dX5_lay_1 : decode cX5_lay 1 = .ok (.getfield 87, 3) := by decide +kernel
theorem dX5_lay_4 : decode cX5_lay 4 = .ok (.aload_n 0, 1) := by decide +kernel
theorem dX5_lay_5 : decode cX5_lay 5 = .ok (.getfield 236, 3) := by decide +kernel
theorem dX5_lay_8 : decode cX5_lay 8 = .ok (.iload_n 1, 1) := by decide +kernel
theorem dX5_lay_9 : decode cX5_lay 9 = .ok (.iastore, 1) := by decide +kernel
theorem dX5_lay_10 : decode cX5_lay 10 = .ok (.aload_n 0, 1) := by decide +kernel
theorem dX5_lay_11 : decode cX5_lay 11 = .ok (.dup, 1) := by decide +kernel
theorem dX5_lay_12 : decode cX5_lay 12 = .ok (.getfield 236, 3) := by decide +kernel
theorem dX5_lay_15 : decode cX5_lay 15 = .ok (.iconst 1, 1) := by decide +kernel
theorem dX5_lay_16 : decode cX5_lay 16 = .ok (.iadd, 1) := by decide +kernel
theorem dX5_lay_17 : decode cX5_lay 17 = .ok (.putfield 236, 3) := by decide +kernel
theorem dX5_lay_20 : decode cX5_lay 20 = .ok (.return_, 1) := by decide +kernel
theorem dX5_keep_0 : decode cX5_keep 0 = .ok (.iload_n 1, 1) := by decide +kernel
theorem dX5_keep_1 : decode cX5_keep 1 = .ok (.i2l, 1) := by decide +kernel
theorem dX5_keep_2 : decode cX5_keep 2 = .ok (.lconst 0, 1) := by decide +kernel
theorem dX5_keep_3 : decode cX5_keep 3 = .ok (.lconst 1, 1) := by decide +kernel
theorem dX5_keep_4 : decode cX5_keep 4 = .ok (.invokestatic 96, 3) := by decide +kernel
theorem dX5_keep_7 : decode cX5_keep 7 = .ok (.ifCond .ne 6, 3) := by decide +kernel
theorem dX5_keep_10 : decode cX5_keep 10 = .ok (.bipush (-101), 2) := by decide +kernel
theorem dX5_keep_12 : decode cX5_keep 12 = .ok (.ireturn, 1) := by decide +kernel
theorem dX5_keep_13 : decode cX5_keep 13 = .ok (.aload_n 0, 1) := by decide +kernel
theorem dX5_keep_14 : decode cX5_keep 14 = .ok (.getfield 84, 3) := by decide +kernel
theorem dX5_keep_17 : decode cX5_keep 17 = .ok (.iload_n 1, 1) := by decide +kernel
theorem dX5_keep_18 : decode cX5_keep 18 = .ok (.aload_n 0, 1) := by decide +kernel
theorem dX5_keep_19 : decode cX5_keep 19 = .ok (.getfield 102, 3) := by decide +kernel
theorem dX5_keep_22 : decode cX5_keep 22 = .ok (.iastore, 1) := by decide +kernel
theorem dX5_keep_23 : decode cX5_keep 23 = .ok (.aload_n 0, 1) := by decide +kernel
theorem dX5_keep_24 : decode cX5_keep 24 = .ok (.sipush 600, 3) := by decide +kernel
theorem dX5_keep_27 : decode cX5_keep 27 = .ok (.iload_n 1, 1) := by decide +kernel
theorem dX5_keep_28 : decode cX5_keep 28 = .ok (.imul, 1) := by decide +kernel
theorem dX5_keep_29 : decode cX5_keep 29 = .ok (.putfield 236, 3) := by decide +kernel
theorem dX5_keep_32 : decode cX5_keep 32 = .ok (.aload_n 0, 1) := by decide +kernel
theorem dX5_keep_33 : decode cX5_keep 33 = .ok (.aload_n 0, 1) := by decide +kernel
theorem dX5_keep_34 : decode cX5_keep 34 = .ok (.getfield 105, 3) := by decide +kernel
theorem dX5_keep_37 : decode cX5_keep 37 = .ok (.invokevirtual 239, 3) := by decide +kernel
theorem dX5_keep_40 : decode cX5_keep 40 = .ok (.aload_n 0, 1) := by decide +kernel
theorem dX5_keep_41 : decode cX5_keep 41 = .ok (.aload_n 0, 1) := by decide +kernel
theorem dX5_keep_42 : decode cX5_keep 42 = .ok (.getfield 108, 3) := by decide +kernel
theorem dX5_keep_45 : decode cX5_keep 45 = .ok (.invokevirtual 239, 3) := by decide +kernel
theorem dX5_keep_48 : decode cX5_keep 48 = .ok (.aload_n 0, 1) := by decide +kernel
theorem dX5_keep_49 : decode cX5_keep 49 = .ok (.aload_n 0, 1) := by decide +kernel
theorem dX5_keep_50 : decode cX5_keep 50 = .ok (.getfield 111, 3) := by decide +kernel
theorem dX5_keep_53 : decode cX5_keep 53 = .ok (.invokevirtual 239, 3) := by decide +kernel
theorem dX5_keep_56 : decode cX5_keep 56 = .ok (.aload_n 0, 1) := by decide +kernel
theorem dX5_keep_57 : decode cX5_keep 57 = .ok (.aload_n 0, 1) := by decide +kernel
theorem dX5_keep_58 : decode cX5_keep 58 = .ok (.getfield 114, 3) := by decide +kernel
theorem dX5_keep_61 : decode cX5_keep 61 = .ok (.invokevirtual 239, 3) := by decide +kernel
theorem dX5_keep_64 : decode cX5_keep 64 = .ok (.aload_n 0, 1) := by decide +kernel
theorem dX5_keep_65 : decode cX5_keep 65 = .ok (.aload_n 0, 1) := by decide +kernel
theorem dX5_keep_66 : decode cX5_keep 66 = .ok (.getfield 117, 3) := by decide +kernel
theorem dX5_keep_69 : decode cX5_keep 69 = .ok (.invokevirtual 239, 3) := by decide +kernel
theorem dX5_keep_72 : decode cX5_keep 72 = .ok (.aload_n 0, 1) := by decide +kernel
theorem dX5_keep_73 : decode cX5_keep 73 = .ok (.aload_n 0, 1) := by decide +kernel
theorem dX5_keep_74 : decode cX5_keep 74 = .ok (.getfield 120, 3) := by decide +kernel
theorem dX5_keep_77 : decode cX5_keep 77 = .ok (.invokevirtual 239, 3) := by decide +kernel
theorem dX5_keep_80 : decode cX5_keep 80 = .ok (.aload_n 0, 1) := by decide +kernel
theorem dX5_keep_81 : decode cX5_keep 81 = .ok (.aload_n 0, 1) := by decide +kernel
theorem dX5_keep_82 : decode cX5_keep 82 = .ok (.getfield 123, 3) := by decide +kernel
theorem dX5_keep_85 : decode cX5_keep 85 = .ok (.invokevirtual 239, 3) := by decide +kernel
theorem dX5_keep_88 : decode cX5_keep 88 = .ok (.aload_n 0, 1) := by decide +kernel
theorem dX5_keep_89 : decode cX5_keep 89 = .ok (.aload_n 0, 1) := by decide +kernel
theorem dX5_keep_90 : decode cX5_keep 90 = .ok (.getfield 126, 3) := by decide +kernel
theorem dX5_keep_93 : decode cX5_keep 93 = .ok (.invokevirtual 239, 3) := by decide +kernel
theorem dX5_keep_96 : decode cX5_keep 96 = .ok (.iconst 0, 1) := by decide +kernel
theorem dX5_keep_97 : decode cX5_keep 97 = .ok (.istore_n 2, 1) := by decide +kernel
theorem dX5_keep_98 : decode cX5_keep 98 = .ok (.iload_n 2, 1) := by decide +kernel
theorem dX5_keep_99 : decode cX5_keep 99 = .ok (.bipush 12, 2) := by decide +kernel
theorem dX5_keep_101 : decode cX5_keep 101 = .ok (.if_icmp .ge 47, 3) := by decide +kernel
theorem dX5_keep_104 : decode cX5_keep 104 = .ok (.aload_n 0, 1) := by decide +kernel
theorem dX5_keep_105 : decode cX5_keep 105 = .ok (.aload_n 0, 1) := by decide +kernel
theorem dX5_keep_106 : decode cX5_keep 106 = .ok (.getfield 7, 3) := by decide +kernel
theorem dX5_keep_109 : decode cX5_keep 109 = .ok (.iload_n 2, 1) := by decide +kernel
theorem dX5_keep_110 : decode cX5_keep 110 = .ok (.iaload, 1) := by decide +kernel
theorem dX5_keep_111 : decode cX5_keep 111 = .ok (.invokevirtual 239, 3) := by decide +kernel
theorem dX5_keep_114 : decode cX5_keep 114 = .ok (.aload_n 0, 1) := by decide +kernel
theorem dX5_keep_115 : decode cX5_keep 115 = .ok (.aload_n 0, 1) := by decide +kernel
theorem dX5_keep_116 : decode cX5_keep 116 = .ok (.getfield 13, 3) := by decide +kernel
theorem dX5_keep_119 : decode cX5_keep 119 = .ok (.iload_n 2, 1) := by decide +kernel
theorem dX5_keep_120 : decode cX5_keep 120 = .ok (.iaload, 1) := by decide +kernel
theorem dX5_keep_121 : decode cX5_keep 121 = .ok (.invokevirtual 239, 3) := by decide +kernel
theorem dX5_keep_124 : decode cX5_keep 124 = .ok (.aload_n 0, 1) := by decide +kernel
theorem dX5_keep_125 : decode cX5_keep 125 = .ok (.aload_n 0, 1) := by decide +kernel
theorem dX5_keep_126 : decode cX5_keep 126 = .ok (.getfield 16, 3) := by decide +kernel
theorem dX5_keep_129 : decode cX5_keep 129 = .ok (.iload_n 2, 1) := by decide +kernel
theorem dX5_keep_130 : decode cX5_keep 130 = .ok (.baload, 1) := by decide +kernel
theorem dX5_keep_131 : decode cX5_keep 131 = .ok (.ifCond .eq 7, 3) := by decide +kernel
theorem dX5_keep_134 : decode cX5_keep 134 = .ok (.iconst 1, 1) := by decide +kernel
theorem dX5_keep_135 : decode cX5_keep 135 = .ok (.goto 4, 3) := by decide +kernel
theorem dX5_keep_138 : decode cX5_keep 138 = .ok (.iconst 0, 1) := by decide +kernel
theorem dX5_keep_139 : decode cX5_keep 139 = .ok (.invokevirtual 239, 3) := by decide +kernel
theorem dX5_keep_142 : decode cX5_keep 142 = .ok (.iinc 2 1, 3) := by decide +kernel
theorem dX5_keep_145 : decode cX5_keep 145 = .ok (.goto (-47), 3) := by decide +kernel
theorem dX5_keep_148 : decode cX5_keep 148 = .ok (.iconst 0, 1) := by decide +kernel
theorem dX5_keep_149 : decode cX5_keep 149 = .ok (.istore_n 2, 1) := by decide +kernel
theorem dX5_keep_150 : decode cX5_keep 150 = .ok (.iload_n 2, 1) := by decide +kernel
theorem dX5_keep_151 : decode cX5_keep 151 = .ok (.bipush 16, 2) := by decide +kernel
theorem dX5_keep_153 : decode cX5_keep 153 = .ok (.if_icmp .ge 29, 3) := by decide +kernel
theorem dX5_keep_156 : decode cX5_keep 156 = .ok (.aload_n 0, 1) := by decide +kernel
theorem dX5_keep_157 : decode cX5_keep 157 = .ok (.aload_n 0, 1) := by decide +kernel
theorem dX5_keep_158 : decode cX5_keep 158 = .ok (.getfield 20, 3) := by decide +kernel
theorem dX5_keep_161 : decode cX5_keep 161 = .ok (.iload_n 2, 1) := by decide +kernel
theorem dX5_keep_162 : decode cX5_keep 162 = .ok (.iaload, 1) := by decide +kernel
theorem dX5_keep_163 : decode cX5_keep 163 = .ok (.invokevirtual 239, 3) := by decide +kernel
theorem dX5_keep_166 : decode cX5_keep 166 = .ok (.aload_n 0, 1) := by decide +kernel
theorem dX5_keep_167 : decode cX5_keep 167 = .ok (.aload_n 0, 1) := by decide +kernel
theorem dX5_keep_168 : decode cX5_keep 168 = .ok (.getfield 23, 3) := by decide +kernel
theorem dX5_keep_171 : decode cX5_keep 171 = .ok (.iload_n 2, 1) := by decide +kernel
theorem dX5_keep_172 : decode cX5_keep 172 = .ok (.iaload, 1) := by decide +kernel
theorem dX5_keep_173 : decode cX5_keep 173 = .ok (.invokevirtual 239, 3) := by decide +kernel
theorem dX5_keep_176 : decode cX5_keep 176 = .ok (.iinc 2 1, 3) := by decide +kernel
theorem dX5_keep_179 : decode cX5_keep 179 = .ok (.goto (-29), 3) := by decide +kernel
theorem dX5_keep_182 : decode cX5_keep 182 = .ok (.iconst 0, 1) := by decide +kernel
theorem dX5_keep_183 : decode cX5_keep 183 = .ok (.istore_n 2, 1) := by decide +kernel
theorem dX5_keep_184 : decode cX5_keep 184 = .ok (.iload_n 2, 1) := by decide +kernel
theorem dX5_keep_185 : decode cX5_keep 185 = .ok (.iconst 4, 1) := by decide +kernel
theorem dX5_keep_186 : decode cX5_keep 186 = .ok (.if_icmp .ge 89, 3) := by decide +kernel
theorem dX5_keep_189 : decode cX5_keep 189 = .ok (.aload_n 0, 1) := by decide +kernel
theorem dX5_keep_190 : decode cX5_keep 190 = .ok (.aload_n 0, 1) := by decide +kernel
theorem dX5_keep_191 : decode cX5_keep 191 = .ok (.getfield 26, 3) := by decide +kernel
theorem dX5_keep_194 : decode cX5_keep 194 = .ok (.iload_n 2, 1) := by decide +kernel
theorem dX5_keep_195 : decode cX5_keep 195 = .ok (.iaload, 1) := by decide +kernel
theorem dX5_keep_196 : decode cX5_keep 196 = .ok (.invokevirtual 239, 3) := by decide +kernel
theorem dX5_keep_199 : decode cX5_keep 199 = .ok (.aload_n 0, 1) := by decide +kernel
theorem dX5_keep_200 : decode cX5_keep 200 = .ok (.aload_n 0, 1) := by decide +kernel
theorem dX5_keep_201 : decode cX5_keep 201 = .ok (.getfield 29, 3) := by decide +kernel
theorem dX5_keep_204 : decode cX5_keep 204 = .ok (.iload_n 2, 1) := by decide +kernel
theorem dX5_keep_205 : decode cX5_keep 205 = .ok (.iaload, 1) := by decide +kernel
theorem dX5_keep_206 : decode cX5_keep 206 = .ok (.invokevirtual 239, 3) := by decide +kernel
theorem dX5_keep_209 : decode cX5_keep 209 = .ok (.aload_n 0, 1) := by decide +kernel
theorem dX5_keep_210 : decode cX5_keep 210 = .ok (.aload_n 0, 1) := by decide +kernel
theorem dX5_keep_211 : decode cX5_keep 211 = .ok (.getfield 32, 3) := by decide +kernel
theorem dX5_keep_214 : decode cX5_keep 214 = .ok (.iload_n 2, 1) := by decide +kernel
theorem dX5_keep_215 : decode cX5_keep 215 = .ok (.iaload, 1) := by decide +kernel
theorem dX5_keep_216 : decode cX5_keep 216 = .ok (.invokevirtual 239, 3) := by decide +kernel
theorem dX5_keep_219 : decode cX5_keep 219 = .ok (.aload_n 0, 1) := by decide +kernel
theorem dX5_keep_220 : decode cX5_keep 220 = .ok (.aload_n 0, 1) := by decide +kernel
theorem dX5_keep_221 : decode cX5_keep 221 = .ok (.getfield 35, 3) := by decide +kernel
theorem dX5_keep_224 : decode cX5_keep 224 = .ok (.iload_n 2, 1) := by decide +kernel
theorem dX5_keep_225 : decode cX5_keep 225 = .ok (.iaload, 1) := by decide +kernel
theorem dX5_keep_226 : decode cX5_keep 226 = .ok (.invokevirtual 239, 3) := by decide +kernel
theorem dX5_keep_229 : decode cX5_keep 229 = .ok (.aload_n 0, 1) := by decide +kernel
theorem dX5_keep_230 : decode cX5_keep 230 = .ok (.aload_n 0, 1) := by decide +kernel
theorem dX5_keep_231 : decode cX5_keep 231 = .ok (.getfield 38, 3) := by decide +kernel
theorem dX5_keep_234 : decode cX5_keep 234 = .ok (.iload_n 2, 1) := by decide +kernel
theorem dX5_keep_235 : decode cX5_keep 235 = .ok (.iaload, 1) := by decide +kernel
theorem dX5_keep_236 : decode cX5_keep 236 = .ok (.invokevirtual 239, 3) := by decide +kernel
theorem dX5_keep_239 : decode cX5_keep 239 = .ok (.aload_n 0, 1) := by decide +kernel
theorem dX5_keep_240 : decode cX5_keep 240 = .ok (.aload_n 0, 1) := by decide +kernel
theorem dX5_keep_241 : decode cX5_keep 241 = .ok (.getfield 41, 3) := by decide +kernel
theorem dX5_keep_244 : decode cX5_keep 244 = .ok (.iload_n 2, 1) := by decide +kernel
theorem dX5_keep_245 : decode cX5_keep 245 = .ok (.iaload, 1) := by decide +kernel
theorem dX5_keep_246 : decode cX5_keep 246 = .ok (.invokevirtual 239, 3) := by decide +kernel
theorem dX5_keep_249 : decode cX5_keep 249 = .ok (.aload_n 0, 1) := by decide +kernel
theorem dX5_keep_250 : decode cX5_keep 250 = .ok (.aload_n 0, 1) := by decide +kernel
theorem dX5_keep_251 : decode cX5_keep 251 = .ok (.getfield 44, 3) := by decide +kernel
theorem dX5_keep_254 : decode cX5_keep 254 = .ok (.iload_n 2, 1) := by decide +kernel
theorem dX5_keep_255 : decode cX5_keep 255 = .ok (.iaload, 1) := by decide +kernel
theorem dX5_keep_256 : decode cX5_keep 256 = .ok (.invokevirtual 239, 3) := by decide +kernel
theorem dX5_keep_259 : decode cX5_keep 259 = .ok (.aload_n 0, 1) := by decide +kernel
theorem dX5_keep_260 : decode cX5_keep 260 = .ok (.aload_n 0, 1) := by decide +kernel
theorem dX5_keep_261 : decode cX5_keep 261 = .ok (.getfield 47, 3) := by decide +kernel
theorem dX5_keep_264 : decode cX5_keep 264 = .ok (.iload_n 2, 1) := by decide +kernel
theorem dX5_keep_265 : decode cX5_keep 265 = .ok (.iaload, 1) := by decide +kernel
theorem dX5_keep_266 : decode cX5_keep 266 = .ok (.invokevirtual 239, 3) := by decide +kernel
theorem dX5_keep_269 : decode cX5_keep 269 = .ok (.iinc 2 1, 3) := by decide +kernel
theorem dX5_keep_272 : decode cX5_keep 272 = .ok (.goto (-88), 3) := by decide +kernel
theorem dX5_keep_275 : decode cX5_keep 275 = .ok (.iconst 0, 1) := by decide +kernel
theorem dX5_keep_276 : decode cX5_keep 276 = .ok (.istore_n 2, 1) := by decide +kernel
theorem dX5_keep_277 : decode cX5_keep 277 = .ok (.iload_n 2, 1) := by decide +kernel
theorem dX5_keep_278 : decode cX5_keep 278 = .ok (.sipush 256, 3) := by decide +kernel
theorem dX5_keep_281 : decode cX5_keep 281 = .ok (.if_icmp .ge 19, 3) := by decide +kernel
theorem dX5_keep_284 : decode cX5_keep 284 = .ok (.aload_n 0, 1) := by decide +kernel
theorem dX5_keep_285 : decode cX5_keep 285 = .ok (.aload_n 0, 1) := by decide +kernel
theorem dX5_keep_286 : decode cX5_keep 286 = .ok (.getfield 50, 3) := by decide +kernel
theorem dX5_keep_289 : decode cX5_keep 289 = .ok (.iload_n 2, 1) := by decide +kernel
theorem dX5_keep_290 : decode cX5_keep 290 = .ok (.iaload, 1) := by decide +kernel
theorem dX5_keep_291 : decode cX5_keep 291 = .ok (.invokevirtual 239, 3) := by decide +kernel
theorem dX5_keep_294 : decode cX5_keep 294 = .ok (.iinc 2 1, 3) := by decide +kernel
theorem dX5_keep_297 : decode cX5_keep 297 = .ok (.goto (-20), 3) := by decide +kernel
theorem dX5_keep_300 : decode cX5_keep 300 = .ok (.iconst 0, 1) := by decide +kernel
theorem dX5_keep_301 : decode cX5_keep 301 = .ok (.istore_n 2, 1) := by decide +kernel
theorem dX5_keep_302 : decode cX5_keep 302 = .ok (.iload_n 2, 1) := by decide +kernel
theorem dX5_keep_303 : decode cX5_keep 303 = .ok (.bipush 28, 2) := by decide +kernel
theorem dX5_keep_305 : decode cX5_keep 305 = .ok (.if_icmp .ge 19, 3) := by decide +kernel
theorem dX5_keep_308 : decode cX5_keep 308 = .ok (.aload_n 0, 1) := by decide +kernel
theorem dX5_keep_309 : decode cX5_keep 309 = .ok (.aload_n 0, 1) := by decide +kernel
theorem dX5_keep_310 : decode cX5_keep 310 = .ok (.getfield 53, 3) := by decide +kernel
theorem dX5_keep_313 : decode cX5_keep 313 = .ok (.iload_n 2, 1) := by decide +kernel
theorem dX5_keep_314 : decode cX5_keep 314 = .ok (.iaload, 1) := by decide +kernel
theorem dX5_keep_315 : decode cX5_keep 315 = .ok (.invokevirtual 239, 3) := by decide +kernel
theorem dX5_keep_318 : decode cX5_keep 318 = .ok (.iinc 2 1, 3) := by decide +kernel
theorem dX5_keep_321 : decode cX5_keep 321 = .ok (.goto (-19), 3) := by decide +kernel
theorem dX5_keep_324 : decode cX5_keep 324 = .ok (.iconst 0, 1) := by decide +kernel
theorem dX5_keep_325 : decode cX5_keep 325 = .ok (.istore_n 2, 1) := by decide +kernel
theorem dX5_keep_326 : decode cX5_keep 326 = .ok (.iload_n 2, 1) := by decide +kernel
theorem dX5_keep_327 : decode cX5_keep 327 = .ok (.sipush 200, 3) := by decide +kernel
theorem dX5_keep_330 : decode cX5_keep 330 = .ok (.if_icmp .ge 19, 3) := by decide +kernel
theorem dX5_keep_333 : decode cX5_keep 333 = .ok (.aload_n 0, 1) := by decide +kernel
theorem dX5_keep_334 : decode cX5_keep 334 = .ok (.aload_n 0, 1) := by decide +kernel
theorem dX5_keep_335 : decode cX5_keep 335 = .ok (.getfield 56, 3) := by decide +kernel
theorem dX5_keep_338 : decode cX5_keep 338 = .ok (.iload_n 2, 1) := by decide +kernel
theorem dX5_keep_339 : decode cX5_keep 339 = .ok (.iaload, 1) := by decide +kernel
theorem dX5_keep_340 : decode cX5_keep 340 = .ok (.invokevirtual 239, 3) := by decide +kernel
theorem dX5_keep_343 : decode cX5_keep 343 = .ok (.iinc 2 1, 3) := by decide +kernel
theorem dX5_keep_346 : decode cX5_keep 346 = .ok (.goto (-20), 3) := by decide +kernel
theorem dX5_keep_349 : decode cX5_keep 349 = .ok (.iconst 1, 1) := by decide +kernel
theorem dX5_keep_350 : decode cX5_keep 350 = .ok (.ireturn, 1) := by decide +kernel
theorem dX5_take_0 : decode cX5_take 0 = .ok (.aload_n 0, 1) := by decide +kernel
theorem dX5_take_1 : decode cX5_take 1 = .ok (.dup, 1) := by decide +kernel
theorem dX5_take_2 : decode cX5_take 2 = .ok (.getfield 236, 3) := by decide +kernel
theorem dX5_take_5 : decode cX5_take 5 = .ok (.iconst 1, 1) := by decide +kernel
theorem dX5_take_6 : decode cX5_take 6 = .ok (.iadd, 1) := by decide +kernel
theorem dX5_take_7 : decode cX5_take 7 = .ok (.putfield 236, 3) := by decide +kernel
theorem dX5_take_10 : decode cX5_take 10 = .ok (.aload_n 0, 1) := by decide +kernel
theorem dX5_take_11 : decode cX5_take 11 = .ok (.getfield 87, 3) := by decide +kernel
theorem dX5_take_14 : decode cX5_take 14 = .ok (.aload_n 0, 1) := by decide +kernel
theorem dX5_take_15 : decode cX5_take 15 = .ok (.getfield 236, 3) := by decide +kernel
theorem dX5_take_18 : decode cX5_take 18 = .ok (.iconst 1, 1) := by decide +kernel
theorem dX5_take_19 : decode cX5_take 19 = .ok (.isub, 1) := by decide +kernel
theorem dX5_take_20 : decode cX5_take 20 = .ok (.iaload, 1) := by decide +kernel
theorem dX5_take_21 : decode cX5_take 21 = .ok (.ireturn, 1) := by decide +kernel
theorem dX5_back_0 : decode cX5_back 0 = .ok (.iload_n 1, 1) := by decide +kernel
theorem dX5_back_1 : decode cX5_back 1 = .ok (.i2l, 1) := by decide +kernel
theorem dX5_back_2 : decode cX5_back 2 = .ok (.lconst 0, 1) := by decide +kernel
theorem dX5_back_3 : decode cX5_back 3 = .ok (.lconst 1, 1) := by decide +kernel
theorem dX5_back_4 : decode cX5_back 4 = .ok (.invokestatic 96, 3) := by decide +kernel
theorem dX5_back_7 : decode cX5_back 7 = .ok (.ifCond .ne 6, 3) := by decide +kernel
theorem dX5_back_10 : decode cX5_back 10 = .ok (.bipush (-101), 2) := by decide +kernel
theorem dX5_back_12 : decode cX5_back 12 = .ok (.ireturn, 1) := by decide +kernel
theorem dX5_back_13 : decode cX5_back 13 = .ok (.aload_n 0, 1) := by decide +kernel
theorem dX5_back_14 : decode cX5_back 14 = .ok (.getfield 84, 3) := by decide +kernel
theorem dX5_back_17 : decode cX5_back 17 = .ok (.iload_n 1, 1) := by decide +kernel
theorem dX5_back_18 : decode cX5_back 18 = .ok (.iaload, 1) := by decide +kernel
theorem dX5_back_19 : decode cX5_back 19 = .ok (.ifCond .ge 6, 3) := by decide +kernel
theorem dX5_back_22 : decode cX5_back 22 = .ok (.bipush (-103), 2) := by decide +kernel
theorem dX5_back_24 : decode cX5_back 24 = .ok (.ireturn, 1) := by decide +kernel
theorem dX5_back_25 : decode cX5_back 25 = .ok (.aload_n 0, 1) := by decide +kernel
theorem dX5_back_26 : decode cX5_back 26 = .ok (.aload_n 0, 1) := by decide +kernel
theorem dX5_back_27 : decode cX5_back 27 = .ok (.getfield 84, 3) := by decide +kernel
theorem dX5_back_30 : decode cX5_back 30 = .ok (.iload_n 1, 1) := by decide +kernel
theorem dX5_back_31 : decode cX5_back 31 = .ok (.iaload, 1) := by decide +kernel
theorem dX5_back_32 : decode cX5_back 32 = .ok (.putfield 102, 3) := by decide +kernel
theorem dX5_back_35 : decode cX5_back 35 = .ok (.aload_n 0, 1) := by decide +kernel
theorem dX5_back_36 : decode cX5_back 36 = .ok (.sipush 600, 3) := by decide +kernel
theorem dX5_back_39 : decode cX5_back 39 = .ok (.iload_n 1, 1) := by decide +kernel
theorem dX5_back_40 : decode cX5_back 40 = .ok (.imul, 1) := by decide +kernel
theorem dX5_back_41 : decode cX5_back 41 = .ok (.putfield 236, 3) := by decide +kernel
theorem dX5_back_44 : decode cX5_back 44 = .ok (.aload_n 0, 1) := by decide +kernel
theorem dX5_back_45 : decode cX5_back 45 = .ok (.aload_n 0, 1) := by decide +kernel
theorem dX5_back_46 : decode cX5_back 46 = .ok (.invokevirtual 242, 3) := by decide +kernel
theorem dX5_back_49 : decode cX5_back 49 = .ok (.putfield 105, 3) := by decide +kernel
theorem dX5_back_52 : decode cX5_back 52 = .ok (.aload_n 0, 1) := by decide +kernel
theorem dX5_back_53 : decode cX5_back 53 = .ok (.aload_n 0, 1) := by decide +kernel
theorem dX5_back_54 : decode cX5_back 54 = .ok (.invokevirtual 242, 3) := by decide +kernel
theorem dX5_back_57 : decode cX5_back 57 = .ok (.putfield 108, 3) := by decide +kernel
theorem dX5_back_60 : decode cX5_back 60 = .ok (.aload_n 0, 1) := by decide +kernel
theorem dX5_back_61 : decode cX5_back 61 = .ok (.aload_n 0, 1) := by decide +kernel
theorem dX5_back_62 : decode cX5_back 62 = .ok (.invokevirtual 242, 3) := by decide +kernel
theorem dX5_back_65 : decode cX5_back 65 = .ok (.putfield 111, 3) := by decide +kernel
theorem dX5_back_68 : decode cX5_back 68 = .ok (.aload_n 0, 1) := by decide +kernel
theorem dX5_back_69 : decode cX5_back 69 = .ok (.aload_n 0, 1) := by decide +kernel
theorem dX5_back_70 : decode cX5_back 70 = .ok (.invokevirtual 242, 3) := by decide +kernel
theorem dX5_back_73 : decode cX5_back 73 = .ok (.putfield 114, 3) := by decide +kernel
theorem dX5_back_76 : decode cX5_back 76 = .ok (.aload_n 0, 1) := by decide +kernel
theorem dX5_back_77 : decode cX5_back 77 = .ok (.aload_n 0, 1) := by decide +kernel
theorem dX5_back_78 : decode cX5_back 78 = .ok (.invokevirtual 242, 3) := by decide +kernel
theorem dX5_back_81 : decode cX5_back 81 = .ok (.putfield 117, 3) := by decide +kernel
theorem dX5_back_84 : decode cX5_back 84 = .ok (.aload_n 0, 1) := by decide +kernel
theorem dX5_back_85 : decode cX5_back 85 = .ok (.aload_n 0, 1) := by decide +kernel
theorem dX5_back_86 : decode cX5_back 86 = .ok (.invokevirtual 242, 3) := by decide +kernel
theorem dX5_back_89 : decode cX5_back 89 = .ok (.putfield 120, 3) := by decide +kernel
theorem dX5_back_92 : decode cX5_back 92 = .ok (.aload_n 0, 1) := by decide +kernel
theorem dX5_back_93 : decode cX5_back 93 = .ok (.aload_n 0, 1) := by decide +kernel
theorem dX5_back_94 : decode cX5_back 94 = .ok (.invokevirtual 242, 3) := by decide +kernel
theorem dX5_back_97 : decode cX5_back 97 = .ok (.putfield 123, 3) := by decide +kernel
theorem dX5_back_100 : decode cX5_back 100 = .ok (.aload_n 0, 1) := by decide +kernel
theorem dX5_back_101 : decode cX5_back 101 = .ok (.aload_n 0, 1) := by decide +kernel
theorem dX5_back_102 : decode cX5_back 102 = .ok (.invokevirtual 242, 3) := by decide +kernel
theorem dX5_back_105 : decode cX5_back 105 = .ok (.putfield 126, 3) := by decide +kernel
theorem dX5_back_108 : decode cX5_back 108 = .ok (.iconst 0, 1) := by decide +kernel
theorem dX5_back_109 : decode cX5_back 109 = .ok (.istore_n 2, 1) := by decide +kernel
theorem dX5_back_110 : decode cX5_back 110 = .ok (.iload_n 2, 1) := by decide +kernel
theorem dX5_back_111 : decode cX5_back 111 = .ok (.bipush 12, 2) := by decide +kernel
theorem dX5_back_113 : decode cX5_back 113 = .ok (.if_icmp .ge 48, 3) := by decide +kernel
theorem dX5_back_116 : decode cX5_back 116 = .ok (.aload_n 0, 1) := by decide +kernel
theorem dX5_back_117 : decode cX5_back 117 = .ok (.getfield 7, 3) := by decide +kernel
theorem dX5_back_120 : decode cX5_back 120 = .ok (.iload_n 2, 1) := by decide +kernel
theorem dX5_back_121 : decode cX5_back 121 = .ok (.aload_n 0, 1) := by decide +kernel
theorem dX5_back_122 : decode cX5_back 122 = .ok (.invokevirtual 242, 3) := by decide +kernel
theorem dX5_back_125 : decode cX5_back 125 = .ok (.iastore, 1) := by decide +kernel
theorem dX5_back_126 : decode cX5_back 126 = .ok (.aload_n 0, 1) := by decide +kernel
theorem dX5_back_127 : decode cX5_back 127 = .ok (.getfield 13, 3) := by decide +kernel
theorem dX5_back_130 : decode cX5_back 130 = .ok (.iload_n 2, 1) := by decide +kernel
theorem dX5_back_131 : decode cX5_back 131 = .ok (.aload_n 0, 1) := by decide +kernel
theorem dX5_back_132 : decode cX5_back 132 = .ok (.invokevirtual 242, 3) := by decide +kernel
theorem dX5_back_135 : decode cX5_back 135 = .ok (.iastore, 1) := by decide +kernel
theorem dX5_back_136 : decode cX5_back 136 = .ok (.aload_n 0, 1) := by decide +kernel
theorem dX5_back_137 : decode cX5_back 137 = .ok (.getfield 16, 3) := by decide +kernel
theorem dX5_back_140 : decode cX5_back 140 = .ok (.iload_n 2, 1) := by decide +kernel
theorem dX5_back_141 : decode cX5_back 141 = .ok (.aload_n 0, 1) := by decide +kernel
theorem dX5_back_142 : decode cX5_back 142 = .ok (.invokevirtual 242, 3) := by decide +kernel
theorem dX5_back_145 : decode cX5_back 145 = .ok (.iconst 1, 1) := by decide +kernel
theorem dX5_back_146 : decode cX5_back 146 = .ok (.if_icmp .ne 7, 3) := by decide +kernel
theorem dX5_back_149 : decode cX5_back 149 = .ok (.iconst 1, 1) := by decide +kernel
theorem dX5_back_150 : decode cX5_back 150 = .ok (.goto 4, 3) := by decide +kernel
theorem dX5_back_153 : decode cX5_back 153 = .ok (.iconst 0, 1) := by decide +kernel
theorem dX5_back_154 : decode cX5_back 154 = .ok (.bastore, 1) := by decide +kernel
theorem dX5_back_155 : decode cX5_back 155 = .ok (.iinc 2 1, 3) := by decide +kernel
theorem dX5_back_158 : decode cX5_back 158 = .ok (.goto (-48), 3) := by decide +kernel
theorem dX5_back_161 : decode cX5_back 161 = .ok (.iconst 0, 1) := by decide +kernel
theorem dX5_back_162 : decode cX5_back 162 = .ok (.istore_n 2, 1) := by decide +kernel
theorem dX5_back_163 : decode cX5_back 163 = .ok (.iload_n 2, 1) := by decide +kernel
theorem dX5_back_164 : decode cX5_back 164 = .ok (.bipush 16, 2) := by decide +kernel
theorem dX5_back_166 : decode cX5_back 166 = .ok (.if_icmp .ge 29, 3) := by decide +kernel
theorem dX5_back_169 : decode cX5_back 169 = .ok (.aload_n 0, 1) := by decide +kernel
theorem dX5_back_170 : decode cX5_back 170 = .ok (.getfield 20, 3) := by decide +kernel
theorem dX5_back_173 : decode cX5_back 173 = .ok (.iload_n 2, 1) := by decide +kernel
theorem dX5_back_174 : decode cX5_back 174 = .ok (.aload_n 0, 1) := by decide +kernel
theorem dX5_back_175 : decode cX5_back 175 = .ok (.invokevirtual 242, 3) := by decide +kernel
theorem dX5_back_178 : decode cX5_back 178 = .ok (.iastore, 1) := by decide +kernel
theorem dX5_back_179 : decode cX5_back 179 = .ok (.aload_n 0, 1) := by decide +kernel
theorem dX5_back_180 : decode cX5_back 180 = .ok (.getfield 23, 3) := by decide +kernel
theorem dX5_back_183 : decode cX5_back 183 = .ok (.iload_n 2, 1) := by decide +kernel
theorem dX5_back_184 : decode cX5_back 184 = .ok (.aload_n 0, 1) := by decide +kernel
theorem dX5_back_185 : decode cX5_back 185 = .ok (.invokevirtual 242, 3) := by decide +kernel
theorem dX5_back_188 : decode cX5_back 188 = .ok (.iastore, 1) := by decide +kernel
theorem dX5_back_189 : decode cX5_back 189 = .ok (.iinc 2 1, 3) := by decide +kernel
theorem dX5_back_192 : decode cX5_back 192 = .ok (.goto (-29), 3) := by decide +kernel
theorem dX5_back_195 : decode cX5_back 195 = .ok (.iconst 0, 1) := by decide +kernel
theorem dX5_back_196 : decode cX5_back 196 = .ok (.istore_n 2, 1) := by decide +kernel
theorem dX5_back_197 : decode cX5_back 197 = .ok (.iload_n 2, 1) := by decide +kernel
theorem dX5_back_198 : decode cX5_back 198 = .ok (.iconst 4, 1) := by decide +kernel
theorem dX5_back_199 : decode cX5_back 199 = .ok (.if_icmp .ge 89, 3) := by decide +kernel
theorem dX5_back_202 : decode cX5_back 202 = .ok (.aload_n 0, 1) := by decide +kernel
theorem dX5_back_203 : decode cX5_back 203 = .ok (.getfield 26, 3) := by decide +kernel
theorem dX5_back_206 : decode cX5_back 206 = .ok (.iload_n 2, 1) := by decide +kernel
theorem dX5_back_207 : decode cX5_back 207 = .ok (.aload_n 0, 1) := by decide +kernel
theorem dX5_back_208 : decode cX5_back 208 = .ok (.invokevirtual 242, 3) := by decide +kernel
theorem dX5_back_211 : decode cX5_back 211 = .ok (.iastore, 1) := by decide +kernel
theorem dX5_back_212 : decode cX5_back 212 = .ok (.aload_n 0, 1) := by decide +kernel
theorem dX5_back_213 : decode cX5_back 213 = .ok (.getfield 29, 3) := by decide +kernel
theorem dX5_back_216 : decode cX5_back 216 = .ok (.iload_n 2, 1) := by decide +kernel
theorem dX5_back_217 : decode cX5_back 217 = .ok (.aload_n 0, 1) := by decide +kernel
theorem dX5_back_218 : decode cX5_back 218 = .ok (.invokevirtual 242, 3) := by decide +kernel
theorem dX5_back_221 : decode cX5_back 221 = .ok (.iastore, 1) := by decide +kernel
theorem dX5_back_222 : decode cX5_back 222 = .ok (.aload_n 0, 1) := by decide +kernel
theorem dX5_back_223 : decode cX5_back 223 = .ok (.getfield 32, 3) := by decide +kernel
theorem dX5_back_226 : decode cX5_back 226 = .ok (.iload_n 2, 1) := by decide +kernel
theorem dX5_back_227 : decode cX5_back 227 = .ok (.aload_n 0, 1) := by decide +kernel
theorem dX5_back_228 : decode cX5_back 228 = .ok (.invokevirtual 242, 3) := by decide +kernel
theorem dX5_back_231 : decode cX5_back 231 = .ok (.iastore, 1) := by decide +kernel
theorem dX5_back_232 : decode cX5_back 232 = .ok (.aload_n 0, 1) := by decide +kernel
theorem dX5_back_233 : decode cX5_back 233 = .ok (.getfield 35, 3) := by decide +kernel
theorem dX5_back_236 : decode cX5_back 236 = .ok (.iload_n 2, 1) := by decide +kernel
theorem dX5_back_237 : decode cX5_back 237 = .ok (.aload_n 0, 1) := by decide +kernel
theorem dX5_back_238 : decode cX5_back 238 = .ok (.invokevirtual 242, 3) := by decide +kernel
theorem dX5_back_241 : decode cX5_back 241 = .ok (.iastore, 1) := by decide +kernel
theorem dX5_back_242 : decode cX5_back 242 = .ok (.aload_n 0, 1) := by decide +kernel
theorem dX5_back_243 : decode cX5_back 243 = .ok (.getfield 38, 3) := by decide +kernel
theorem dX5_back_246 : decode cX5_back 246 = .ok (.iload_n 2, 1) := by decide +kernel
theorem dX5_back_247 : decode cX5_back 247 = .ok (.aload_n 0, 1) := by decide +kernel
theorem dX5_back_248 : decode cX5_back 248 = .ok (.invokevirtual 242, 3) := by decide +kernel
theorem dX5_back_251 : decode cX5_back 251 = .ok (.iastore, 1) := by decide +kernel
theorem dX5_back_252 : decode cX5_back 252 = .ok (.aload_n 0, 1) := by decide +kernel
theorem dX5_back_253 : decode cX5_back 253 = .ok (.getfield 41, 3) := by decide +kernel
theorem dX5_back_256 : decode cX5_back 256 = .ok (.iload_n 2, 1) := by decide +kernel
theorem dX5_back_257 : decode cX5_back 257 = .ok (.aload_n 0, 1) := by decide +kernel
theorem dX5_back_258 : decode cX5_back 258 = .ok (.invokevirtual 242, 3) := by decide +kernel
theorem dX5_back_261 : decode cX5_back 261 = .ok (.iastore, 1) := by decide +kernel
theorem dX5_back_262 : decode cX5_back 262 = .ok (.aload_n 0, 1) := by decide +kernel
theorem dX5_back_263 : decode cX5_back 263 = .ok (.getfield 44, 3) := by decide +kernel
theorem dX5_back_266 : decode cX5_back 266 = .ok (.iload_n 2, 1) := by decide +kernel
theorem dX5_back_267 : decode cX5_back 267 = .ok (.aload_n 0, 1) := by decide +kernel
theorem dX5_back_268 : decode cX5_back 268 = .ok (.invokevirtual 242, 3) := by decide +kernel
theorem dX5_back_271 : decode cX5_back 271 = .ok (.iastore, 1) := by decide +kernel
theorem dX5_back_272 : decode cX5_back 272 = .ok (.aload_n 0, 1) := by decide +kernel
theorem dX5_back_273 : decode cX5_back 273 = .ok (.getfield 47, 3) := by decide +kernel
theorem dX5_back_276 : decode cX5_back 276 = .ok (.iload_n 2, 1) := by decide +kernel
theorem dX5_back_277 : decode cX5_back 277 = .ok (.aload_n 0, 1) := by decide +kernel
theorem dX5_back_278 : decode cX5_back 278 = .ok (.invokevirtual 242, 3) := by decide +kernel
theorem dX5_back_281 : decode cX5_back 281 = .ok (.iastore, 1) := by decide +kernel
theorem dX5_back_282 : decode cX5_back 282 = .ok (.iinc 2 1, 3) := by decide +kernel
theorem dX5_back_285 : decode cX5_back 285 = .ok (.goto (-88), 3) := by decide +kernel
theorem dX5_back_288 : decode cX5_back 288 = .ok (.iconst 0, 1) := by decide +kernel
theorem dX5_back_289 : decode cX5_back 289 = .ok (.istore_n 2, 1) := by decide +kernel
theorem dX5_back_290 : decode cX5_back 290 = .ok (.iload_n 2, 1) := by decide +kernel
theorem dX5_back_291 : decode cX5_back 291 = .ok (.sipush 256, 3) := by decide +kernel
theorem dX5_back_294 : decode cX5_back 294 = .ok (.if_icmp .ge 19, 3) := by decide +kernel
theorem dX5_back_297 : decode cX5_back 297 = .ok (.aload_n 0, 1) := by decide +kernel
theorem dX5_back_298 : decode cX5_back 298 = .ok (.getfield 50, 3) := by decide +kernel
theorem dX5_back_301 : decode cX5_back 301 = .ok (.iload_n 2, 1) := by decide +kernel
theorem dX5_back_302 : decode cX5_back 302 = .ok (.aload_n 0, 1) := by decide +kernel
theorem dX5_back_303 : decode cX5_back 303 = .ok (.invokevirtual 242, 3) := by decide +kernel
theorem dX5_back_306 : decode cX5_back 306 = .ok (.iastore, 1) := by decide +kernel
theorem dX5_back_307 : decode cX5_back 307 = .ok (.iinc 2 1, 3) := by decide +kernel
theorem dX5_back_310 : decode cX5_back 310 = .ok (.goto (-20), 3) := by decide +kernel
theorem dX5_back_313 : decode cX5_back 313 = .ok (.iconst 0, 1) := by decide +kernel
theorem dX5_back_314 : decode cX5_back 314 = .ok (.istore_n 2, 1) := by decide +kernel
theorem dX5_back_315 : decode cX5_back 315 = .ok (.iload_n 2, 1) := by decide +kernel
theorem dX5_back_316 : decode cX5_back 316 = .ok (.bipush 28, 2) := by decide +kernel
theorem dX5_back_318 : decode cX5_back 318 = .ok (.if_icmp .ge 19, 3) := by decide +kernel
theorem dX5_back_321 : decode cX5_back 321 = .ok (.aload_n 0, 1) := by decide +kernel
theorem dX5_back_322 : decode cX5_back 322 = .ok (.getfield 53, 3) := by decide +kernel
theorem dX5_back_325 : decode cX5_back 325 = .ok (.iload_n 2, 1) := by decide +kernel
theorem dX5_back_326 : decode cX5_back 326 = .ok (.aload_n 0, 1) := by decide +kernel
theorem dX5_back_327 : decode cX5_back 327 = .ok (.invokevirtual 242, 3) := by decide +kernel
theorem dX5_back_330 : decode cX5_back 330 = .ok (.iastore, 1) := by decide +kernel
theorem dX5_back_331 : decode cX5_back 331 = .ok (.iinc 2 1, 3) := by decide +kernel
theorem dX5_back_334 : decode cX5_back 334 = .ok (.goto (-19), 3) := by decide +kernel
theorem dX5_back_337 : decode cX5_back 337 = .ok (.iconst 0, 1) := by decide +kernel
theorem dX5_back_338 : decode cX5_back 338 = .ok (.istore_n 2, 1) := by decide +kernel
theorem dX5_back_339 : decode cX5_back 339 = .ok (.iload_n 2, 1) := by decide +kernel
theorem dX5_back_340 : decode cX5_back 340 = .ok (.sipush 200, 3) := by decide +kernel
theorem dX5_back_343 : decode cX5_back 343 = .ok (.if_icmp .ge 19, 3) := by decide +kernel
theorem dX5_back_346 : decode cX5_back 346 = .ok (.aload_n 0, 1) := by decide +kernel
theorem dX5_back_347 : decode cX5_back 347 = .ok (.getfield 56, 3) := by decide +kernel
theorem dX5_back_350 : decode cX5_back 350 = .ok (.iload_n 2, 1) := by decide +kernel
theorem dX5_back_351 : decode cX5_back 351 = .ok (.aload_n 0, 1) := by decide +kernel
theorem dX5_back_352 : decode cX5_back 352 = .ok (.invokevirtual 242, 3) := by decide +kernel
theorem dX5_back_355 : decode cX5_back 355 = .ok (.iastore, 1) := by decide +kernel
theorem dX5_back_356 : decode cX5_back 356 = .ok (.iinc 2 1, 3) := by decide +kernel
theorem dX5_back_359 : decode cX5_back 359 = .ok (.goto (-20), 3) := by decide +kernel
theorem dX5_back_362 : decode cX5_back 362 = .ok (.iconst 1, 1) := by decide +kernel
theorem dX5_back_363 : decode cX5_back 363 = .ok (.ireturn, 1) := by decide +kernel
theorem dX5_digested_0 : decode cX5_digested 0 = .ok (.bipush 31, 2) := by decide +kernel
theorem dX5_digested_2 : decode cX5_digested 2 = .ok (.iload_n 1, 1) := by decide +kernel
theorem dX5_digested_3 : decode cX5_digested 3 = .ok (.imul, 1) := by decide +kernel
theorem dX5_digested_4 : decode cX5_digested 4 = .ok (.iload_n 2, 1) := by decide +kernel
theorem dX5_digested_5 : decode cX5_digested 5 = .ok (.iadd, 1) := by decide +kernel
theorem dX5_digested_6 : decode cX5_digested 6 = .ok (.ireturn, 1) := by decide +kernel
theorem dX5_digest_0 : decode cX5_digest 0 = .ok (.aload_n 0, 1) := by decide +kernel
theorem dX5_digest_1 : decode cX5_digest 1 = .ok (.aload_n 0, 1) := by decide +kernel
theorem dX5_digest_2 : decode cX5_digest 2 = .ok (.aload_n 0, 1) := by decide +kernel
theorem dX5_digest_3 : decode cX5_digest 3 = .ok (.aload_n 0, 1) := by decide +kernel
theorem dX5_digest_4 : decode cX5_digest 4 = .ok (.aload_n 0, 1) := by decide +kernel
theorem dX5_digest_5 : decode cX5_digest 5 = .ok (.bipush 7, 2) := by decide +kernel
theorem dX5_digest_7 : decode cX5_digest 7 = .ok (.aload_n 0, 1) := by decide +kernel
theorem dX5_digest_8 : decode cX5_digest 8 = .ok (.getfield 102, 3) := by decide +kernel
theorem dX5_digest_11 : decode cX5_digest 11 = .ok (.invokevirtual 245, 3) := by decide +kernel
theorem dX5_digest_14 : decode cX5_digest 14 = .ok (.aload_n 0, 1) := by decide +kernel
theorem dX5_digest_15 : decode cX5_digest 15 = .ok (.getfield 105, 3) := by decide +kernel
theorem dX5_digest_18 : decode cX5_digest 18 = .ok (.invokevirtual 245, 3) := by decide +kernel
theorem dX5_digest_21 : decode cX5_digest 21 = .ok (.aload_n 0, 1) := by decide +kernel
theorem dX5_digest_22 : decode cX5_digest 22 = .ok (.getfield 108, 3) := by decide +kernel
theorem dX5_digest_25 : decode cX5_digest 25 = .ok (.invokevirtual 245, 3) := by decide +kernel
theorem dX5_digest_28 : decode cX5_digest 28 = .ok (.aload_n 0, 1) := by decide +kernel
theorem dX5_digest_29 : decode cX5_digest 29 = .ok (.getfield 117, 3) := by decide +kernel
theorem dX5_digest_32 : decode cX5_digest 32 = .ok (.invokevirtual 245, 3) := by decide +kernel
theorem dX5_digest_35 : decode cX5_digest 35 = .ok (.aload_n 0, 1) := by decide +kernel
theorem dX5_digest_36 : decode cX5_digest 36 = .ok (.getfield 120, 3) := by decide +kernel
theorem dX5_digest_39 : decode cX5_digest 39 = .ok (.invokevirtual 245, 3) := by decide +kernel
theorem dX5_digest_42 : decode cX5_digest 42 = .ok (.istore_n 1, 1) := by decide +kernel
theorem dX5_digest_43 : decode cX5_digest 43 = .ok (.iconst 0, 1) := by decide +kernel
theorem dX5_digest_44 : decode cX5_digest 44 = .ok (.istore_n 2, 1) := by decide +kernel
theorem dX5_digest_45 : decode cX5_digest 45 = .ok (.iload_n 2, 1) := by decide +kernel
theorem dX5_digest_46 : decode cX5_digest 46 = .ok (.aload_n 0, 1) := by decide +kernel
theorem dX5_digest_47 : decode cX5_digest 47 = .ok (.getfield 111, 3) := by decide +kernel
theorem dX5_digest_50 : decode cX5_digest 50 = .ok (.if_icmp .ge 49, 3) := by decide +kernel
theorem dX5_digest_53 : decode cX5_digest 53 = .ok (.aload_n 0, 1) := by decide +kernel
theorem dX5_digest_54 : decode cX5_digest 54 = .ok (.aload_n 0, 1) := by decide +kernel
theorem dX5_digest_55 : decode cX5_digest 55 = .ok (.aload_n 0, 1) := by decide +kernel
theorem dX5_digest_56 : decode cX5_digest 56 = .ok (.iload_n 1, 1) := by decide +kernel
theorem dX5_digest_57 : decode cX5_digest 57 = .ok (.aload_n 0, 1) := by decide +kernel
theorem dX5_digest_58 : decode cX5_digest 58 = .ok (.getfield 7, 3) := by decide +kernel
theorem dX5_digest_61 : decode cX5_digest 61 = .ok (.iload_n 2, 1) := by decide +kernel
theorem dX5_digest_62 : decode cX5_digest 62 = .ok (.iaload, 1) := by decide +kernel
theorem dX5_digest_63 : decode cX5_digest 63 = .ok (.invokevirtual 245, 3) := by decide +kernel
theorem dX5_digest_66 : decode cX5_digest 66 = .ok (.aload_n 0, 1) := by decide +kernel
theorem dX5_digest_67 : decode cX5_digest 67 = .ok (.getfield 13, 3) := by decide +kernel
theorem dX5_digest_70 : decode cX5_digest 70 = .ok (.iload_n 2, 1) := by decide +kernel
theorem dX5_digest_71 : decode cX5_digest 71 = .ok (.iaload, 1) := by decide +kernel
theorem dX5_digest_72 : decode cX5_digest 72 = .ok (.invokevirtual 245, 3) := by decide +kernel
theorem dX5_digest_75 : decode cX5_digest 75 = .ok (.aload_n 0, 1) := by decide +kernel
theorem dX5_digest_76 : decode cX5_digest 76 = .ok (.getfield 16, 3) := by decide +kernel
theorem dX5_digest_79 : decode cX5_digest 79 = .ok (.iload_n 2, 1) := by decide +kernel
theorem dX5_digest_80 : decode cX5_digest 80 = .ok (.baload, 1) := by decide +kernel
theorem dX5_digest_81 : decode cX5_digest 81 = .ok (.ifCond .eq 7, 3) := by decide +kernel
