/-! THE LAW: a threshold that is moved. Printed by wip/p37/gen/mktwo.py. -/
abbrev rgL_moves : Room := { frames := 11, cells := 40, slots := 240, locals := 268 }
theorem miL_moves : MI yL_moves cL_moves 14 (some .boolean) 3 := ⟨ug5 83 (by exact rfl) rfl, by decide +kernel, by decide +kernel, ug1 0 (by decide +kernel) rfl⟩
theorem dL_moves_0 : decode cL_moves 0 = .ok (.aload_n 0, 1) := by decide +kernel
theorem dL_moves_1 : decode cL_moves 1 = .ok (.iconst 2, 1) := by decide +kernel
theorem dL_moves_2 : decode cL_moves 2 = .ok (.iconst 2, 1) := by decide +kernel
theorem dL_moves_3 : decode cL_moves 3 = .ok (.iconst 0, 1) := by decide +kernel
theorem dL_moves_4 : decode cL_moves 4 = .ok (.iconst 0, 1) := by decide +kernel
theorem dL_moves_5 : decode cL_moves 5 = .ok (.invokestatic 191, 3) := by decide +kernel
theorem dL_moves_8 : decode cL_moves 8 = .ok (.istore_n 3, 1) := by decide +kernel
theorem dL_moves_9 : decode cL_moves 9 = .ok (.iload_n 3, 1) := by decide +kernel
theorem dL_moves_10 : decode cL_moves 10 = .ok (.ifCond .ne 23, 3) := by decide +kernel
theorem dL_moves_13 : decode cL_moves 13 = .ok (.aload_n 0, 1) := by decide +kernel
theorem dL_moves_14 : decode cL_moves 14 = .ok (.bipush 20, 2) := by decide +kernel
theorem dL_moves_16 : decode cL_moves 16 = .ok (.iconst 0, 1) := by decide +kernel
theorem dL_moves_17 : decode cL_moves 17 = .ok (.iconst 0, 1) := by decide +kernel
theorem dL_moves_18 : decode cL_moves 18 = .ok (.iconst 0, 1) := by decide +kernel
theorem dL_moves_19 : decode cL_moves 19 = .ok (.invokestatic 191, 3) := by decide +kernel
theorem dL_moves_22 : decode cL_moves 22 = .ok (.ldc 25, 2) := by decide +kernel
theorem dL_moves_24 : decode cL_moves 24 = .ok (.if_icmp .ne 7, 3) := by decide +kernel
theorem dL_moves_27 : decode cL_moves 27 = .ok (.iconst 1, 1) := by decide +kernel
theorem dL_moves_28 : decode cL_moves 28 = .ok (.goto 4, 3) := by decide +kernel
theorem dL_moves_31 : decode cL_moves 31 = .ok (.iconst 0, 1) := by decide +kernel
theorem dL_moves_32 : decode cL_moves 32 = .ok (.ireturn, 1) := by decide +kernel
theorem dL_moves_33 : decode cL_moves 33 = .ok (.iload_n 2, 1) := by decide +kernel
theorem dL_moves_34 : decode cL_moves 34 = .ok (.iload_n 3, 1) := by decide +kernel
theorem dL_moves_35 : decode cL_moves 35 = .ok (.irem, 1) := by decide +kernel
theorem dL_moves_36 : decode cL_moves 36 = .ok (.istore 4, 2) := by decide +kernel
theorem dL_moves_38 : decode cL_moves 38 = .ok (.aload_n 0, 1) := by decide +kernel
theorem dL_moves_39 : decode cL_moves 39 = .ok (.iconst 4, 1) := by decide +kernel
theorem dL_moves_40 : decode cL_moves 40 = .ok (.iload 4, 2) := by decide +kernel
theorem dL_moves_42 : decode cL_moves 42 = .ok (.iconst 0, 1) := by decide +kernel
theorem dL_moves_43 : decode cL_moves 43 = .ok (.iconst 0, 1) := by decide +kernel
theorem dL_moves_44 : decode cL_moves 44 = .ok (.invokestatic 191, 3) := by decide +kernel
theorem dL_moves_47 : decode cL_moves 47 = .ok (.istore 5, 2) := by decide +kernel
theorem dL_moves_49 : decode cL_moves 49 = .ok (.aload_n 0, 1) := by decide +kernel
theorem dL_moves_50 : decode cL_moves 50 = .ok (.bipush 20, 2) := by decide +kernel
theorem dL_moves_52 : decode cL_moves 52 = .ok (.iload 4, 2) := by decide +kernel
theorem dL_moves_54 : decode cL_moves 54 = .ok (.iconst 0, 1) := by decide +kernel
theorem dL_moves_55 : decode cL_moves 55 = .ok (.iconst 0, 1) := by decide +kernel
theorem dL_moves_56 : decode cL_moves 56 = .ok (.invokestatic 191, 3) := by decide +kernel
theorem dL_moves_59 : decode cL_moves 59 = .ok (.istore 6, 2) := by decide +kernel
theorem dL_moves_61 : decode cL_moves 61 = .ok (.iload 6, 2) := by decide +kernel
theorem dL_moves_63 : decode cL_moves 63 = .ok (.ifCond .le 62, 3) := by decide +kernel
theorem dL_moves_66 : decode cL_moves 66 = .ok (.iload 6, 2) := by decide +kernel
theorem dL_moves_68 : decode cL_moves 68 = .ok (.bipush 100, 2) := by decide +kernel
theorem dL_moves_70 : decode cL_moves 70 = .ok (.if_icmp .ge 55, 3) := by decide +kernel
theorem dL_moves_73 : decode cL_moves 73 = .ok (.aload_n 0, 1) := by decide +kernel
theorem dL_moves_74 : decode cL_moves 74 = .ok (.iload 5, 2) := by decide +kernel
theorem dL_moves_76 : decode cL_moves 76 = .ok (.iconst 0, 1) := by decide +kernel
theorem dL_moves_77 : decode cL_moves 77 = .ok (.invokestatic 199, 3) := by decide +kernel
theorem dL_moves_80 : decode cL_moves 80 = .ok (.iload_n 3, 1) := by decide +kernel
theorem dL_moves_81 : decode cL_moves 81 = .ok (.iconst 1, 1) := by decide +kernel
theorem dL_moves_82 : decode cL_moves 82 = .ok (.isub, 1) := by decide +kernel
theorem dL_moves_83 : decode cL_moves 83 = .ok (.if_icmp .ne 42, 3) := by decide +kernel
theorem dL_moves_86 : decode cL_moves 86 = .ok (.aload_n 1, 1) := by decide +kernel
theorem dL_moves_87 : decode cL_moves 87 = .ok (.iload 5, 2) := by decide +kernel
theorem dL_moves_89 : decode cL_moves 89 = .ok (.iconst 0, 1) := by decide +kernel
theorem dL_moves_90 : decode cL_moves 90 = .ok (.invokestatic 199, 3) := by decide +kernel
theorem dL_moves_93 : decode cL_moves 93 = .ok (.iload_n 3, 1) := by decide +kernel
theorem dL_moves_94 : decode cL_moves 94 = .ok (.iconst 1, 1) := by decide +kernel
theorem dL_moves_95 : decode cL_moves 95 = .ok (.isub, 1) := by decide +kernel
theorem dL_moves_96 : decode cL_moves 96 = .ok (.if_icmp .ne 29, 3) := by decide +kernel
theorem dL_moves_99 : decode cL_moves 99 = .ok (.aload_n 0, 1) := by decide +kernel
theorem dL_moves_100 : decode cL_moves 100 = .ok (.iload 6, 2) := by decide +kernel
theorem dL_moves_102 : decode cL_moves 102 = .ok (.iconst 1, 1) := by decide +kernel
theorem dL_moves_103 : decode cL_moves 103 = .ok (.invokestatic 199, 3) := by decide +kernel
theorem dL_moves_106 : decode cL_moves 106 = .ok (.iload_n 3, 1) := by decide +kernel
theorem dL_moves_107 : decode cL_moves 107 = .ok (.if_icmp .ne 18, 3) := by decide +kernel
theorem dL_moves_110 : decode cL_moves 110 = .ok (.aload_n 1, 1) := by decide +kernel
theorem dL_moves_111 : decode cL_moves 111 = .ok (.iload 6, 2) := by decide +kernel
theorem dL_moves_113 : decode cL_moves 113 = .ok (.iconst 1, 1) := by decide +kernel
theorem dL_moves_114 : decode cL_moves 114 = .ok (.invokestatic 199, 3) := by decide +kernel
theorem dL_moves_117 : decode cL_moves 117 = .ok (.iload_n 3, 1) := by decide +kernel
theorem dL_moves_118 : decode cL_moves 118 = .ok (.if_icmp .ne 7, 3) := by decide +kernel
theorem dL_moves_121 : decode cL_moves 121 = .ok (.iconst 1, 1) := by decide +kernel
theorem dL_moves_122 : decode cL_moves 122 = .ok (.goto 4, 3) := by decide +kernel
theorem dL_moves_125 : decode cL_moves 125 = .ok (.iconst 0, 1) := by decide +kernel
theorem dL_moves_126 : decode cL_moves 126 = .ok (.istore 7, 2) := by decide +kernel
theorem dL_moves_128 : decode cL_moves 128 = .ok (.aload_n 0, 1) := by decide +kernel
theorem dL_moves_129 : decode cL_moves 129 = .ok (.iconst 2, 1) := by decide +kernel
theorem dL_moves_130 : decode cL_moves 130 = .ok (.iconst 4, 1) := by decide +kernel
theorem dL_moves_131 : decode cL_moves 131 = .ok (.iconst 0, 1) := by decide +kernel
theorem dL_moves_132 : decode cL_moves 132 = .ok (.iconst 0, 1) := by decide +kernel
theorem dL_moves_133 : decode cL_moves 133 = .ok (.invokestatic 191, 3) := by decide +kernel
theorem dL_moves_136 : decode cL_moves 136 = .ok (.istore 8, 2) := by decide +kernel
theorem dL_moves_138 : decode cL_moves 138 = .ok (.iload 7, 2) := by decide +kernel
theorem dL_moves_140 : decode cL_moves 140 = .ok (.ifCond .eq 37, 3) := by decide +kernel
theorem dL_moves_143 : decode cL_moves 143 = .ok (.aload_n 0, 1) := by decide +kernel
theorem dL_moves_144 : decode cL_moves 144 = .ok (.bipush 17, 2) := by decide +kernel
theorem dL_moves_146 : decode cL_moves 146 = .ok (.iconst 0, 1) := by decide +kernel
theorem dL_moves_147 : decode cL_moves 147 = .ok (.iconst 0, 1) := by decide +kernel
theorem dL_moves_148 : decode cL_moves 148 = .ok (.iconst 0, 1) := by decide +kernel
theorem dL_moves_149 : decode cL_moves 149 = .ok (.invokestatic 191, 3) := by decide +kernel
theorem dL_moves_152 : decode cL_moves 152 = .ok (.invokestatic 261, 3) := by decide +kernel
theorem dL_moves_155 : decode cL_moves 155 = .ok (.ifCond .ne 22, 3) := by decide +kernel
theorem dL_moves_158 : decode cL_moves 158 = .ok (.aload_n 1, 1) := by decide +kernel
theorem dL_moves_159 : decode cL_moves 159 = .ok (.bipush 17, 2) := by decide +kernel
theorem dL_moves_161 : decode cL_moves 161 = .ok (.iconst 0, 1) := by decide +kernel
theorem dL_moves_162 : decode cL_moves 162 = .ok (.iconst 0, 1) := by decide +kernel
theorem dL_moves_163 : decode cL_moves 163 = .ok (.iconst 0, 1) := by decide +kernel
theorem dL_moves_164 : decode cL_moves 164 = .ok (.invokestatic 191, 3) := by decide +kernel
theorem dL_moves_167 : decode cL_moves 167 = .ok (.invokestatic 261, 3) := by decide +kernel
theorem dL_moves_170 : decode cL_moves 170 = .ok (.ifCond .ne 7, 3) := by decide +kernel
theorem dL_moves_173 : decode cL_moves 173 = .ok (.iconst 1, 1) := by decide +kernel
theorem dL_moves_174 : decode cL_moves 174 = .ok (.goto 4, 3) := by decide +kernel
theorem dL_moves_177 : decode cL_moves 177 = .ok (.iconst 0, 1) := by decide +kernel
theorem dL_moves_178 : decode cL_moves 178 = .ok (.istore 7, 2) := by decide +kernel
theorem dL_moves_180 : decode cL_moves 180 = .ok (.iconst 1, 1) := by decide +kernel
theorem dL_moves_181 : decode cL_moves 181 = .ok (.iload_n 2, 1) := by decide +kernel
theorem dL_moves_182 : decode cL_moves 182 = .ok (.iconst 5, 1) := by decide +kernel
theorem dL_moves_183 : decode cL_moves 183 = .ok (.idiv, 1) := by decide +kernel
theorem dL_moves_184 : decode cL_moves 184 = .ok (.bipush 99, 2) := by decide +kernel
theorem dL_moves_186 : decode cL_moves 186 = .ok (.irem, 1) := by decide +kernel
theorem dL_moves_187 : decode cL_moves 187 = .ok (.iadd, 1) := by decide +kernel
theorem dL_moves_188 : decode cL_moves 188 = .ok (.istore 9, 2) := by decide +kernel
theorem dL_moves_190 : decode cL_moves 190 = .ok (.aload_n 0, 1) := by decide +kernel
theorem dL_moves_191 : decode cL_moves 191 = .ok (.iload 9, 2) := by decide +kernel
theorem dL_moves_193 : decode cL_moves 193 = .ok (.iconst 1, 1) := by decide +kernel
theorem dL_moves_194 : decode cL_moves 194 = .ok (.invokestatic 199, 3) := by decide +kernel
theorem dL_moves_197 : decode cL_moves 197 = .ok (.istore 10, 2) := by decide +kernel
theorem dL_moves_199 : decode cL_moves 199 = .ok (.iload 7, 2) := by decide +kernel
theorem dL_moves_201 : decode cL_moves 201 = .ok (.ifCond .eq 19, 3) := by decide +kernel
theorem dL_moves_204 : decode cL_moves 204 = .ok (.aload_n 1, 1) := by decide +kernel
theorem dL_moves_205 : decode cL_moves 205 = .ok (.iload 9, 2) := by decide +kernel
theorem dL_moves_207 : decode cL_moves 207 = .ok (.iconst 1, 1) := by decide +kernel
theorem dL_moves_208 : decode cL_moves 208 = .ok (.invokestatic 199, 3) := by decide +kernel
theorem dL_moves_211 : decode cL_moves 211 = .ok (.iload 10, 2) := by decide +kernel
theorem dL_moves_213 : decode cL_moves 213 = .ok (.if_icmp .ne 7, 3) := by decide +kernel
theorem dL_moves_216 : decode cL_moves 216 = .ok (.iconst 1, 1) := by decide +kernel
theorem dL_moves_217 : decode cL_moves 217 = .ok (.goto 4, 3) := by decide +kernel
theorem dL_moves_220 : decode cL_moves 220 = .ok (.iconst 0, 1) := by decide +kernel
theorem dL_moves_221 : decode cL_moves 221 = .ok (.istore 7, 2) := by decide +kernel
theorem dL_moves_223 : decode cL_moves 223 = .ok (.iload 10, 2) := by decide +kernel
theorem dL_moves_225 : decode cL_moves 225 = .ok (.ldc 18, 2) := by decide +kernel
theorem dL_moves_227 : decode cL_moves 227 = .ok (.if_icmp .eq 134, 3) := by decide +kernel
theorem dL_moves_230 : decode cL_moves 230 = .ok (.iload 9, 2) := by decide +kernel
theorem dL_moves_232 : decode cL_moves 232 = .ok (.iload 5, 2) := by decide +kernel
theorem dL_moves_234 : decode cL_moves 234 = .ok (.if_icmp .ge 11, 3) := by decide +kernel
theorem dL_moves_237 : decode cL_moves 237 = .ok (.iload 5, 2) := by decide +kernel
theorem dL_moves_239 : decode cL_moves 239 = .ok (.iload 9, 2) := by decide +kernel
theorem dL_moves_241 : decode cL_moves 241 = .ok (.isub, 1) := by decide +kernel
theorem dL_moves_242 : decode cL_moves 242 = .ok (.goto 8, 3) := by decide +kernel
theorem dL_moves_245 : decode cL_moves 245 = .ok (.iload 9, 2) := by decide +kernel
theorem dL_moves_247 : decode cL_moves 247 = .ok (.iload 5, 2) := by decide +kernel
theorem dL_moves_249 : decode cL_moves 249 = .ok (.isub, 1) := by decide +kernel
theorem dL_moves_250 : decode cL_moves 250 = .ok (.istore 11, 2) := by decide +kernel
theorem dL_moves_252 : decode cL_moves 252 = .ok (.iload 6, 2) := by decide +kernel
theorem dL_moves_254 : decode cL_moves 254 = .ok (.iload 5, 2) := by decide +kernel
theorem dL_moves_256 : decode cL_moves 256 = .ok (.if_icmp .ge 11, 3) := by decide +kernel
theorem dL_moves_259 : decode cL_moves 259 = .ok (.iload 5, 2) := by decide +kernel
theorem dL_moves_261 : decode cL_moves 261 = .ok (.iload 6, 2) := by decide +kernel
theorem dL_moves_263 : decode cL_moves 263 = .ok (.isub, 1) := by decide +kernel
theorem dL_moves_264 : decode cL_moves 264 = .ok (.goto 8, 3) := by decide +kernel
theorem dL_moves_267 : decode cL_moves 267 = .ok (.iload 6, 2) := by decide +kernel
theorem dL_moves_269 : decode cL_moves 269 = .ok (.iload 5, 2) := by decide +kernel
theorem dL_moves_271 : decode cL_moves 271 = .ok (.isub, 1) := by decide +kernel
theorem dL_moves_272 : decode cL_moves 272 = .ok (.istore 12, 2) := by decide +kernel
theorem dL_moves_274 : decode cL_moves 274 = .ok (.aload_n 0, 1) := by decide +kernel
theorem dL_moves_275 : decode cL_moves 275 = .ok (.iconst 2, 1) := by decide +kernel
theorem dL_moves_276 : decode cL_moves 276 = .ok (.iconst 4, 1) := by decide +kernel
theorem dL_moves_277 : decode cL_moves 277 = .ok (.iconst 0, 1) := by decide +kernel
theorem dL_moves_278 : decode cL_moves 278 = .ok (.iconst 0, 1) := by decide +kernel
theorem dL_moves_279 : decode cL_moves 279 = .ok (.invokestatic 191, 3) := by decide +kernel
theorem dL_moves_282 : decode cL_moves 282 = .ok (.istore 13, 2) := by decide +kernel
theorem dL_moves_284 : decode cL_moves 284 = .ok (.iload 7, 2) := by decide +kernel
theorem dL_moves_286 : decode cL_moves 286 = .ok (.ifCond .eq 72, 3) := by decide +kernel
theorem dL_moves_289 : decode cL_moves 289 = .ok (.iload 13, 2) := by decide +kernel
theorem dL_moves_291 : decode cL_moves 291 = .ok (.iload 8, 2) := by decide +kernel
theorem dL_moves_293 : decode cL_moves 293 = .ok (.if_icmp .gt 31, 3) := by decide +kernel
theorem dL_moves_296 : decode cL_moves 296 = .ok (.iload 13, 2) := by decide +kernel
theorem dL_moves_298 : decode cL_moves 298 = .ok (.iload 8, 2) := by decide +kernel
theorem dL_moves_300 : decode cL_moves 300 = .ok (.if_icmp .ne 58, 3) := by decide +kernel
theorem dL_moves_303 : decode cL_moves 303 = .ok (.iload 11, 2) := by decide +kernel
theorem dL_moves_305 : decode cL_moves 305 = .ok (.iload 12, 2) := by decide +kernel
theorem dL_moves_307 : decode cL_moves 307 = .ok (.if_icmp .gt 17, 3) := by decide +kernel
theorem dL_moves_310 : decode cL_moves 310 = .ok (.iload 11, 2) := by decide +kernel
theorem dL_moves_312 : decode cL_moves 312 = .ok (.iload 12, 2) := by decide +kernel
theorem dL_moves_314 : decode cL_moves 314 = .ok (.if_icmp .ne 44, 3) := by decide +kernel
theorem dL_moves_317 : decode cL_moves 317 = .ok (.iload 9, 2) := by decide +kernel
theorem dL_moves_319 : decode cL_moves 319 = .ok (.iload 6, 2) := by decide +kernel
theorem dL_moves_321 : decode cL_moves 321 = .ok (.if_icmp .lt 37, 3) := by decide +kernel
theorem dL_moves_324 : decode cL_moves 324 = .ok (.aload_n 0, 1) := by decide +kernel
theorem dL_moves_325 : decode cL_moves 325 = .ok (.bipush 17, 2) := by decide +kernel
theorem dL_moves_327 : decode cL_moves 327 = .ok (.iconst 0, 1) := by decide +kernel
theorem dL_moves_328 : decode cL_moves 328 = .ok (.iconst 0, 1) := by decide +kernel
theorem dL_moves_329 : decode cL_moves 329 = .ok (.iconst 0, 1) := by decide +kernel
theorem dL_moves_330 : decode cL_moves 330 = .ok (.invokestatic 191, 3) := by decide +kernel
theorem dL_moves_333 : decode cL_moves 333 = .ok (.invokestatic 261, 3) := by decide +kernel
theorem dL_moves_336 : decode cL_moves 336 = .ok (.ifCond .ne 22, 3) := by decide +kernel
theorem dL_moves_339 : decode cL_moves 339 = .ok (.aload_n 1, 1) := by decide +kernel
theorem dL_moves_340 : decode cL_moves 340 = .ok (.bipush 17, 2) := by decide +kernel
theorem dL_moves_342 : decode cL_moves 342 = .ok (.iconst 0, 1) := by decide +kernel
theorem dL_moves_343 : decode cL_moves 343 = .ok (.iconst 0, 1) := by decide +kernel
theorem dL_moves_344 : decode cL_moves 344 = .ok (.iconst 0, 1) := by decide +kernel
theorem dL_moves_345 : decode cL_moves 345 = .ok (.invokestatic 191, 3) := by decide +kernel
theorem dL_moves_348 : decode cL_moves 348 = .ok (.invokestatic 261, 3) := by decide +kernel
theorem dL_moves_351 : decode cL_moves 351 = .ok (.ifCond .ne 7, 3) := by decide +kernel
theorem dL_moves_354 : decode cL_moves 354 = .ok (.iconst 1, 1) := by decide +kernel
theorem dL_moves_355 : decode cL_moves 355 = .ok (.goto 4, 3) := by decide +kernel
theorem dL_moves_358 : decode cL_moves 358 = .ok (.iconst 0, 1) := by decide +kernel
theorem dL_moves_359 : decode cL_moves 359 = .ok (.istore 7, 2) := by decide +kernel
theorem dL_moves_361 : decode cL_moves 361 = .ok (.iload 7, 2) := by decide +kernel
theorem dL_moves_363 : decode cL_moves 363 = .ok (.ifCond .eq 51, 3) := by decide +kernel
theorem dL_moves_366 : decode cL_moves 366 = .ok (.aload_n 0, 1) := by decide +kernel
theorem dL_moves_367 : decode cL_moves 367 = .ok (.bipush 17, 2) := by decide +kernel
theorem dL_moves_369 : decode cL_moves 369 = .ok (.iconst 0, 1) := by decide +kernel
theorem dL_moves_370 : decode cL_moves 370 = .ok (.iconst 0, 1) := by decide +kernel
theorem dL_moves_371 : decode cL_moves 371 = .ok (.iconst 0, 1) := by decide +kernel
theorem dL_moves_372 : decode cL_moves 372 = .ok (.invokestatic 191, 3) := by decide +kernel
theorem dL_moves_375 : decode cL_moves 375 = .ok (.invokestatic 261, 3) := by decide +kernel
theorem dL_moves_378 : decode cL_moves 378 = .ok (.ifCond .ne 36, 3) := by decide +kernel
theorem dL_moves_381 : decode cL_moves 381 = .ok (.aload_n 1, 1) := by decide +kernel
theorem dL_moves_382 : decode cL_moves 382 = .ok (.bipush 17, 2) := by decide +kernel
theorem dL_moves_384 : decode cL_moves 384 = .ok (.iconst 0, 1) := by decide +kernel
theorem dL_moves_385 : decode cL_moves 385 = .ok (.iconst 0, 1) := by decide +kernel
theorem dL_moves_386 : decode cL_moves 386 = .ok (.iconst 0, 1) := by decide +kernel
theorem dL_moves_387 : decode cL_moves 387 = .ok (.invokestatic 191, 3) := by decide +kernel
theorem dL_moves_390 : decode cL_moves 390 = .ok (.invokestatic 261, 3) := by decide +kernel
theorem dL_moves_393 : decode cL_moves 393 = .ok (.ifCond .ne 21, 3) := by decide +kernel
theorem dL_moves_396 : decode cL_moves 396 = .ok (.aload_n 0, 1) := by decide +kernel
theorem dL_moves_397 : decode cL_moves 397 = .ok (.iconst 4, 1) := by decide +kernel
theorem dL_moves_398 : decode cL_moves 398 = .ok (.iload 4, 2) := by decide +kernel
theorem dL_moves_400 : decode cL_moves 400 = .ok (.iconst 0, 1) := by decide +kernel
theorem dL_moves_401 : decode cL_moves 401 = .ok (.iconst 0, 1) := by decide +kernel
theorem dL_moves_402 : decode cL_moves 402 = .ok (.invokestatic 191, 3) := by decide +kernel
theorem dL_moves_405 : decode cL_moves 405 = .ok (.iload 5, 2) := by decide +kernel
theorem dL_moves_407 : decode cL_moves 407 = .ok (.if_icmp .ne 7, 3) := by decide +kernel
theorem dL_moves_410 : decode cL_moves 410 = .ok (.iconst 1, 1) := by decide +kernel
theorem dL_moves_411 : decode cL_moves 411 = .ok (.goto 4, 3) := by decide +kernel
theorem dL_moves_414 : decode cL_moves 414 = .ok (.iconst 0, 1) := by decide +kernel
theorem dL_moves_415 : decode cL_moves 415 = .ok (.ireturn, 1) := by decide +kernel
theorem kPt_0 {S : St} {v b : Int} (h : kT S v b) : kPart S v b = 0 := by
  unfold kPart
  rw [if_neg (fun z => z ⟨h.1, h.2.1⟩), if_pos h.2.2]
noncomputable abbrev mK (A : Ob) (x : Int) : Int := x % (sN (jS A) : Int)
noncomputable abbrev mU (A : Ob) (x : Int) : Int := sT (jS A) (mK A x)
noncomputable abbrev mB (A : Ob) (x : Int) : Int := aBest (jS A) (mK A x)
abbrev mV (x : Int) : Int := 1 + x / 5 % 99
noncomputable def mA1 (A : Ob) (x : Int) : Ob := jAct A (gT (jS A) (mU A x) 0)
noncomputable def mA2 (A : Ob) (x : Int) : Ob := jAct (mA1 A x) (gT (jS (mA1 A x)) (mB A x) 1)
noncomputable def mA3 (A : Ob) (x : Int) : Ob := jUndo (mA2 A x)
noncomputable def mA4 (A : Ob) (x : Int) : Ob := jAct (mA3 A x) (gT (jS (mA3 A x)) (mV x) 1)
noncomputable def mA5 (A : Ob) (x : Int) : Ob := jUndo (mA4 A x)
section TWO5
variable {A : Ob} {x : Int}
/-- what the states are, when a threshold is moved -/
theorem mv_all (hA : VA A) (hB : VB A) (hx : 0 ≤ x ∧ x < 2147483648) (hn : sN (jS A) ≠ 0) :
    ((0 ≤ mK A x ∧ mK A x < sN (jS A)) ∧ (1 ≤ mU A x ∧ mU A x ≤ 99) ∧ (1 ≤ mB A x ∧ mB A x ≤ 99)) ∧ kT (jS A) (mU A x) 0 ∧ kT (jS (mA1 A x)) (mB A x) 1 ∧ VA (mA1 A x) ∧ VA (mA2 A x) ∧ VA (mA3 A x) ∧ jS (mA3 A x) = jS (mA1 A x) ∧ ((sN (jS (mA1 A x)) : Int) = sN (jS A) - 1 ∧ (sN (jS (mA2 A x)) : Int) = sN (jS A)) ∧ jS (jUndo (mA3 A x)) = jS A ∧ (1 ≤ jC (mA3 A x) ∧ jC (mA3 A x) ≤ 14 ∧ jC (mA2 A x) = jC (mA3 A x) + 1) ∧ VB (mA3 A x) := by
  have hc := hA.2.1
  have hx2 := hA.2.2.1
  have k1 : 0 ≤ mK A x ∧ mK A x < sN (jS A) := ⟨Int.emod_nonneg _ (by omega), Int.emod_lt_of_pos _ (by omega)⟩
  have u1 : 1 ≤ mU A x ∧ mU A x ≤ 99 := ⟨hB.1.2.2.2 _ k1.1 k1.2, (hA.1.2.2.1 _).2⟩
  have hb := best_ok (S := jS A) (k := mK A x) u1
  have hu : hasT (sT (jS A)) (sN (jS A)) (mU A x) = true := hasT_k k1
  have t1 : kT (jS A) (mU A x) 0 := ⟨u1.1, u1.2, by unfold canT; rw [if_pos rfl]; exact hu⟩
  have hA1 : VA (mA1 A x) := VA_act hA (SV_gT hA.1 t1)
  have t2 : kT (jS (mA1 A x)) (mB A x) 1 := ⟨hb.1.1, hb.1.2, mv_can hA.1 hu hb.2.1⟩
  have hA2 : VA (mA2 A x) := VA_act hA1 (SV_gT hA1.1 t2)
  have c1 : jC (mA1 A x) = min (jC A + 1) 14 := rfl
  have c2 : jC (mA2 A x) = min (jC (mA1 A x) + 1) 14 := rfl
  have c3 : jC (mA3 A x) = jC (mA2 A x) - 1 := rfl
  have hA3 : VA (mA3 A x) := VA_undo hA2 (by omega)
  have n1 : sN (jS (mA1 A x)) = sN (jS A) - 1 := by show chN (sN (jS A)) 0 = _; unfold chN; rw [if_pos rfl]
  have n2 : sN (jS (mA2 A x)) = sN (jS (mA1 A x)) + 1 := by show chN (sN (jS (mA1 A x))) 1 = _; unfold chN; rw [if_neg (by decide)]
  have hB1 : VB (mA1 A x) := VB_act hB (SB_gT hB.1 u1.1)
  have hB2 : VB (mA2 A x) := VB_act hB1 (SB_gT hB1.1 hb.1.1)
  exact ⟨⟨k1, u1, hb.1⟩, t1, t2, hA1, hA2, hA3, und_S hA1.2.2.1 _, ⟨by rw [n1]; omega, by rw [n2, n1]; omega⟩, und_2 hx2 _ _, ⟨by omega, by omega, by omega⟩, VB_undo hB2⟩
theorem mv_more (hA : VA A) (hB : VB A) (hx : 0 ≤ x ∧ x < 2147483648) (hn : sN (jS A) ≠ 0) (hk : kPart (jS (mA3 A x)) (mV x) 1 = 0) :
    VA (mA4 A x) ∧ VA (mA5 A x) ∧ jS (jUndo (mA5 A x)) = jS A ∧ jS (mA4 A x) = mvS (jS A) (mU A x) (mV x) ∧ (sN (jS (mA4 A x)) : Int) = sN (jS A) ∧ (1 ≤ jC (mA5 A x) ∧ jC (mA5 A x) ≤ 14 ∧ jC (mA4 A x) = jC (mA5 A x) + 1) ∧ VB (mA5 A x) ∧ (mS (jS (mA2 A x)) < mS (jS (mA4 A x)) ∨ (mS (jS (mA4 A x)) = mS (jS (mA2 A x)) ∧ (ab (mB A x - mU A x) < ab (mV x - mU A x) ∨ (ab (mV x - mU A x) = ab (mB A x - mU A x) ∧ mB A x ≤ mV x)))) := by
  obtain ⟨⟨k1, u1, b1⟩, t1, t2, hA1, hA2, hA3, e3, ⟨n1, n2⟩, e6, ⟨c3, c4, c5⟩, hB3⟩ := mv_all hA hB hx hn
  have t4 := kPart_T hk
  have hA4 : VA (mA4 A x) := VA_act hA3 (SV_gT hA3.1 t4)
  have c6 : jC (mA4 A x) = min (jC (mA3 A x) + 1) 14 := rfl
  have c7 : jC (mA5 A x) = jC (mA4 A x) - 1 := rfl
  have hA5 : VA (mA5 A x) := VA_undo hA4 (by omega)
  have hB4 : VB (mA4 A x) := VB_act hB3 (SB_gT hB3.1 t4.1)
  have e4 : jS (mA4 A x) = mvS (jS A) (mU A x) (mV x) := by show gT (jS (mA3 A x)) (mV x) 1 = _; rw [e3]; rfl
  have n4 : (sN (jS (mA4 A x)) : Int) = sN (jS A) := by
    rw [e4]
    show ((chN (chN (sN (jS A)) 0) 1 : Nat) : Int) = _
    unfold chN
    rw [if_neg (by decide), if_pos rfl]
    omega
  have ok : bmO (jS A) (mU A x) (mV x) := by
    by_cases z : mV x = mU A x
    · exact Or.inl z
    · right
      cases e : hasT (sT (jS A)) (sN (jS A)) (mV x)
      · rfl
      · exfalso
        have h1 := t4.2.2
        rw [e3] at h1
        unfold canT at h1
        rw [if_neg (by decide)] at h1
        simp only [Bool.and_eq_true, Bool.not_eq_true'] at h1
        have h2 := h1.1
        obtain ⟨j, j1, j2⟩ := hasT_iff.mp e
        have hat := hasT_at (hasT_k (T := sT (jS A)) (n := sN (jS A)) k1)
        have hs := hA.1.2.2.2.1
        have : hasT (sT (jS (mA1 A x))) (sN (jS (mA1 A x))) (mV x) = true := by
          have q1 : sT (jS (mA1 A x)) = remT (sT (jS A)) (sN (jS A)) (fstK (fun k => sT (jS A) k == mU A x) (sN (jS A))) := by show chT (sT (jS A)) (sN (jS A)) (mU A x) 0 = _; unfold chT; rw [if_pos rfl]
          rw [q1]
          generalize fstK (fun k => sT (jS A) k == mU A x) (sN (jS A)) = p at hat
          refine hasT_iff.mpr ?_
          by_cases y : (j : Int) < p
          · refine ⟨j, by omega, ?_⟩
            unfold remT
            rw [if_neg (by omega)]; exact j2
          · have jp : (j : Int) ≠ p := fun y2 => z (by rw [← j2, y2]; exact hat.2.2)
            refine ⟨j - 1, by omega, ?_⟩
            unfold remT
            rw [if_pos (by omega), show ((j - 1 : Nat) : Int) + 1 = j by omega]; exact j2
        rw [this] at h2; cases h2
  have hb := (best_ok (S := jS A) (k := mK A x) u1).2.2 (mV x) (by omega) (by omega) ok
  rw [e4]
  exact ⟨hA4, hA5, und_3 hA.2.2.1 _ _ _, rfl, by rw [← e4]; exact n4, ⟨by omega, by omega, by omega⟩, VB_undo hB4, hb⟩
end TWO5
