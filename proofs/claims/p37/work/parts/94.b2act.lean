/-! THE LAW: what is done in a turn. Printed by wip/p37/gen/mkact.py. -/
abbrev rgL_act : Room := { frames := 11, cells := 4, slots := 24, locals := 268 }
theorem miL_act : MI yL_act cL_act 7 (some .int) 2 := ⟨ug5 60 (by exact rfl) rfl, by decide +kernel, by decide +kernel, ug1 0 (by decide +kernel) rfl⟩
theorem dL_act_0 : decode cL_act 0 = .ok (.iload_n 1, 1) := by decide +kernel
theorem dL_act_1 : decode cL_act 1 = .ok (.bipush 16, 2) := by decide +kernel
theorem dL_act_3 : decode cL_act 3 = .ok (.idiv, 1) := by decide +kernel
theorem dL_act_4 : decode cL_act 4 = .ok (.istore_n 2, 1) := by decide +kernel
theorem dL_act_5 : decode cL_act 5 = .ok (.aload_n 0, 1) := by decide +kernel
theorem dL_act_6 : decode cL_act 6 = .ok (.iconst 2, 1) := by decide +kernel
theorem dL_act_7 : decode cL_act 7 = .ok (.iconst 0, 1) := by decide +kernel
theorem dL_act_8 : decode cL_act 8 = .ok (.iconst 0, 1) := by decide +kernel
theorem dL_act_9 : decode cL_act 9 = .ok (.iconst 0, 1) := by decide +kernel
theorem dL_act_10 : decode cL_act 10 = .ok (.invokestatic 191, 3) := by decide +kernel
theorem dL_act_13 : decode cL_act 13 = .ok (.istore_n 3, 1) := by decide +kernel
theorem dL_act_14 : decode cL_act 14 = .ok (.aload_n 0, 1) := by decide +kernel
theorem dL_act_15 : decode cL_act 15 = .ok (.iconst 2, 1) := by decide +kernel
theorem dL_act_16 : decode cL_act 16 = .ok (.iconst 1, 1) := by decide +kernel
theorem dL_act_17 : decode cL_act 17 = .ok (.iconst 0, 1) := by decide +kernel
theorem dL_act_18 : decode cL_act 18 = .ok (.iconst 0, 1) := by decide +kernel
theorem dL_act_19 : decode cL_act 19 = .ok (.invokestatic 191, 3) := by decide +kernel
theorem dL_act_22 : decode cL_act 22 = .ok (.istore 4, 2) := by decide +kernel
theorem dL_act_24 : decode cL_act 24 = .ok (.iload_n 2, 1) := by decide +kernel
theorem dL_act_25 : decode cL_act 25 = .ok (.iload_n 3, 1) := by decide +kernel
theorem dL_act_26 : decode cL_act 26 = .ok (.irem, 1) := by decide +kernel
theorem dL_act_27 : decode cL_act 27 = .ok (.istore 5, 2) := by decide +kernel
theorem dL_act_29 : decode cL_act 29 = .ok (.iload_n 2, 1) := by decide +kernel
theorem dL_act_30 : decode cL_act 30 = .ok (.bipush 8, 2) := by decide +kernel
theorem dL_act_32 : decode cL_act 32 = .ok (.idiv, 1) := by decide +kernel
theorem dL_act_33 : decode cL_act 33 = .ok (.iload 4, 2) := by decide +kernel
theorem dL_act_35 : decode cL_act 35 = .ok (.irem, 1) := by decide +kernel
theorem dL_act_36 : decode cL_act 36 = .ok (.istore 6, 2) := by decide +kernel
theorem dL_act_38 : decode cL_act 38 = .ok (.iload_n 1, 1) := by decide +kernel
theorem dL_act_39 : decode cL_act 39 = .ok (.bipush 16, 2) := by decide +kernel
theorem dL_act_41 : decode cL_act 41 = .ok (.irem, 1) := by decide +kernel
theorem dL_act_42 : decode cL_act 42 = .ok (.tableswitch 337 0 12 #[66, 89, 89, 107, 107, 107, 150, 175, 190, 234, 247, 291, 301], 66) := by decide +kernel
theorem dL_act_108 : decode cL_act 108 = .ok (.aload_n 0, 1) := by decide +kernel
theorem dL_act_109 : decode cL_act 109 = .ok (.bipush 10, 2) := by decide +kernel
theorem dL_act_111 : decode cL_act 111 = .ok (.iconst 1, 1) := by decide +kernel
theorem dL_act_112 : decode cL_act 112 = .ok (.iload_n 2, 1) := by decide +kernel
theorem dL_act_113 : decode cL_act 113 = .ok (.bipush 8, 2) := by decide +kernel
theorem dL_act_115 : decode cL_act 115 = .ok (.irem, 1) := by decide +kernel
theorem dL_act_116 : decode cL_act 116 = .ok (.iadd, 1) := by decide +kernel
theorem dL_act_117 : decode cL_act 117 = .ok (.iconst 1, 1) := by decide +kernel
theorem dL_act_118 : decode cL_act 118 = .ok (.iload_n 2, 1) := by decide +kernel
theorem dL_act_119 : decode cL_act 119 = .ok (.bipush 8, 2) := by decide +kernel
theorem dL_act_121 : decode cL_act 121 = .ok (.idiv, 1) := by decide +kernel
theorem dL_act_122 : decode cL_act 122 = .ok (.bipush 8, 2) := by decide +kernel
theorem dL_act_124 : decode cL_act 124 = .ok (.irem, 1) := by decide +kernel
theorem dL_act_125 : decode cL_act 125 = .ok (.iadd, 1) := by decide +kernel
theorem dL_act_126 : decode cL_act 126 = .ok (.iconst 0, 1) := by decide +kernel
theorem dL_act_127 : decode cL_act 127 = .ok (.invokestatic 191, 3) := by decide +kernel
theorem dL_act_130 : decode cL_act 130 = .ok (.ireturn, 1) := by decide +kernel
theorem dL_act_131 : decode cL_act 131 = .ok (.aload_n 0, 1) := by decide +kernel
theorem dL_act_132 : decode cL_act 132 = .ok (.bipush 11, 2) := by decide +kernel
theorem dL_act_134 : decode cL_act 134 = .ok (.iload 5, 2) := by decide +kernel
theorem dL_act_136 : decode cL_act 136 = .ok (.iload 6, 2) := by decide +kernel
theorem dL_act_138 : decode cL_act 138 = .ok (.iload_n 2, 1) := by decide +kernel
theorem dL_act_139 : decode cL_act 139 = .ok (.bipush 64, 2) := by decide +kernel
theorem dL_act_141 : decode cL_act 141 = .ok (.idiv, 1) := by decide +kernel
theorem dL_act_142 : decode cL_act 142 = .ok (.bipush 100, 2) := by decide +kernel
theorem dL_act_144 : decode cL_act 144 = .ok (.irem, 1) := by decide +kernel
theorem dL_act_145 : decode cL_act 145 = .ok (.invokestatic 191, 3) := by decide +kernel
theorem dL_act_148 : decode cL_act 148 = .ok (.ireturn, 1) := by decide +kernel
theorem dL_act_149 : decode cL_act 149 = .ok (.aload_n 0, 1) := by decide +kernel
theorem dL_act_150 : decode cL_act 150 = .ok (.iload 5, 2) := by decide +kernel
theorem dL_act_152 : decode cL_act 152 = .ok (.iload 5, 2) := by decide +kernel
theorem dL_act_154 : decode cL_act 154 = .ok (.iload_n 2, 1) := by decide +kernel
theorem dL_act_155 : decode cL_act 155 = .ok (.bipush 64, 2) := by decide +kernel
theorem dL_act_157 : decode cL_act 157 = .ok (.idiv, 1) := by decide +kernel
theorem dL_act_158 : decode cL_act 158 = .ok (.iload_n 3, 1) := by decide +kernel
theorem dL_act_159 : decode cL_act 159 = .ok (.iload 5, 2) := by decide +kernel
theorem dL_act_161 : decode cL_act 161 = .ok (.isub, 1) := by decide +kernel
theorem dL_act_162 : decode cL_act 162 = .ok (.irem, 1) := by decide +kernel
theorem dL_act_163 : decode cL_act 163 = .ok (.iadd, 1) := by decide +kernel
theorem dL_act_164 : decode cL_act 164 = .ok (.iload 6, 2) := by decide +kernel
theorem dL_act_166 : decode cL_act 166 = .ok (.iload 6, 2) := by decide +kernel
theorem dL_act_168 : decode cL_act 168 = .ok (.iload_n 2, 1) := by decide +kernel
theorem dL_act_169 : decode cL_act 169 = .ok (.sipush 512, 3) := by decide +kernel
theorem dL_act_172 : decode cL_act 172 = .ok (.idiv, 1) := by decide +kernel
theorem dL_act_173 : decode cL_act 173 = .ok (.iload 4, 2) := by decide +kernel
theorem dL_act_175 : decode cL_act 175 = .ok (.iload 6, 2) := by decide +kernel
theorem dL_act_177 : decode cL_act 177 = .ok (.isub, 1) := by decide +kernel
theorem dL_act_178 : decode cL_act 178 = .ok (.irem, 1) := by decide +kernel
theorem dL_act_179 : decode cL_act 179 = .ok (.iadd, 1) := by decide +kernel
theorem dL_act_180 : decode cL_act 180 = .ok (.iload_n 2, 1) := by decide +kernel
theorem dL_act_181 : decode cL_act 181 = .ok (.sipush 4096, 3) := by decide +kernel
theorem dL_act_184 : decode cL_act 184 = .ok (.idiv, 1) := by decide +kernel
theorem dL_act_185 : decode cL_act 185 = .ok (.bipush 100, 2) := by decide +kernel
theorem dL_act_187 : decode cL_act 187 = .ok (.irem, 1) := by decide +kernel
theorem dL_act_188 : decode cL_act 188 = .ok (.invokestatic 195, 3) := by decide +kernel
theorem dL_act_191 : decode cL_act 191 = .ok (.ireturn, 1) := by decide +kernel
theorem dL_act_192 : decode cL_act 192 = .ok (.aload_n 0, 1) := by decide +kernel
theorem dL_act_193 : decode cL_act 193 = .ok (.iconst 1, 1) := by decide +kernel
theorem dL_act_194 : decode cL_act 194 = .ok (.iload_n 2, 1) := by decide +kernel
theorem dL_act_195 : decode cL_act 195 = .ok (.bipush 99, 2) := by decide +kernel
theorem dL_act_197 : decode cL_act 197 = .ok (.irem, 1) := by decide +kernel
theorem dL_act_198 : decode cL_act 198 = .ok (.iadd, 1) := by decide +kernel
theorem dL_act_199 : decode cL_act 199 = .ok (.iload_n 2, 1) := by decide +kernel
theorem dL_act_200 : decode cL_act 200 = .ok (.bipush 99, 2) := by decide +kernel
theorem dL_act_202 : decode cL_act 202 = .ok (.idiv, 1) := by decide +kernel
theorem dL_act_203 : decode cL_act 203 = .ok (.iconst 3, 1) := by decide +kernel
theorem dL_act_204 : decode cL_act 204 = .ok (.irem, 1) := by decide +kernel
theorem dL_act_205 : decode cL_act 205 = .ok (.ifCond .le 7, 3) := by decide +kernel
theorem dL_act_208 : decode cL_act 208 = .ok (.iconst 1, 1) := by decide +kernel
theorem dL_act_209 : decode cL_act 209 = .ok (.goto 4, 3) := by decide +kernel
theorem dL_act_212 : decode cL_act 212 = .ok (.iconst 0, 1) := by decide +kernel
theorem dL_act_213 : decode cL_act 213 = .ok (.invokestatic 199, 3) := by decide +kernel
theorem dL_act_216 : decode cL_act 216 = .ok (.ireturn, 1) := by decide +kernel
theorem dL_act_217 : decode cL_act 217 = .ok (.aload_n 0, 1) := by decide +kernel
theorem dL_act_218 : decode cL_act 218 = .ok (.bipush 13, 2) := by decide +kernel
theorem dL_act_220 : decode cL_act 220 = .ok (.iconst 1, 1) := by decide +kernel
theorem dL_act_221 : decode cL_act 221 = .ok (.iload_n 2, 1) := by decide +kernel
theorem dL_act_222 : decode cL_act 222 = .ok (.bipush 12, 2) := by decide +kernel
theorem dL_act_224 : decode cL_act 224 = .ok (.irem, 1) := by decide +kernel
theorem dL_act_225 : decode cL_act 225 = .ok (.iadd, 1) := by decide +kernel
theorem dL_act_226 : decode cL_act 226 = .ok (.iconst 0, 1) := by decide +kernel
theorem dL_act_227 : decode cL_act 227 = .ok (.iconst 0, 1) := by decide +kernel
theorem dL_act_228 : decode cL_act 228 = .ok (.invokestatic 191, 3) := by decide +kernel
theorem dL_act_231 : decode cL_act 231 = .ok (.ireturn, 1) := by decide +kernel
theorem dL_act_232 : decode cL_act 232 = .ok (.iload_n 2, 1) := by decide +kernel
theorem dL_act_233 : decode cL_act 233 = .ok (.iconst 2, 1) := by decide +kernel
theorem dL_act_234 : decode cL_act 234 = .ok (.irem, 1) := by decide +kernel
theorem dL_act_235 : decode cL_act 235 = .ok (.ifCond .ne 26, 3) := by decide +kernel
theorem dL_act_238 : decode cL_act 238 = .ok (.aload_n 0, 1) := by decide +kernel
theorem dL_act_239 : decode cL_act 239 = .ok (.bipush 14, 2) := by decide +kernel
theorem dL_act_241 : decode cL_act 241 = .ok (.iload_n 2, 1) := by decide +kernel
theorem dL_act_242 : decode cL_act 242 = .ok (.iconst 2, 1) := by decide +kernel
theorem dL_act_243 : decode cL_act 243 = .ok (.idiv, 1) := by decide +kernel
theorem dL_act_244 : decode cL_act 244 = .ok (.bipush 6, 2) := by decide +kernel
theorem dL_act_246 : decode cL_act 246 = .ok (.irem, 1) := by decide +kernel
theorem dL_act_247 : decode cL_act 247 = .ok (.iload_n 2, 1) := by decide +kernel
theorem dL_act_248 : decode cL_act 248 = .ok (.bipush 12, 2) := by decide +kernel
theorem dL_act_250 : decode cL_act 250 = .ok (.idiv, 1) := by decide +kernel
theorem dL_act_251 : decode cL_act 251 = .ok (.bipush 10, 2) := by decide +kernel
theorem dL_act_253 : decode cL_act 253 = .ok (.irem, 1) := by decide +kernel
theorem dL_act_254 : decode cL_act 254 = .ok (.iconst 0, 1) := by decide +kernel
theorem dL_act_255 : decode cL_act 255 = .ok (.invokestatic 191, 3) := by decide +kernel
theorem dL_act_258 : decode cL_act 258 = .ok (.goto 17, 3) := by decide +kernel
theorem dL_act_261 : decode cL_act 261 = .ok (.aload_n 0, 1) := by decide +kernel
theorem dL_act_262 : decode cL_act 262 = .ok (.bipush 15, 2) := by decide +kernel
theorem dL_act_264 : decode cL_act 264 = .ok (.iload_n 2, 1) := by decide +kernel
theorem dL_act_265 : decode cL_act 265 = .ok (.iconst 2, 1) := by decide +kernel
theorem dL_act_266 : decode cL_act 266 = .ok (.idiv, 1) := by decide +kernel
theorem dL_act_267 : decode cL_act 267 = .ok (.bipush 10, 2) := by decide +kernel
theorem dL_act_269 : decode cL_act 269 = .ok (.irem, 1) := by decide +kernel
theorem dL_act_270 : decode cL_act 270 = .ok (.iconst 0, 1) := by decide +kernel
theorem dL_act_271 : decode cL_act 271 = .ok (.iconst 0, 1) := by decide +kernel
theorem dL_act_272 : decode cL_act 272 = .ok (.invokestatic 191, 3) := by decide +kernel
theorem dL_act_275 : decode cL_act 275 = .ok (.ireturn, 1) := by decide +kernel
theorem dL_act_276 : decode cL_act 276 = .ok (.aload_n 0, 1) := by decide +kernel
theorem dL_act_277 : decode cL_act 277 = .ok (.bipush 12, 2) := by decide +kernel
theorem dL_act_279 : decode cL_act 279 = .ok (.iload_n 2, 1) := by decide +kernel
theorem dL_act_280 : decode cL_act 280 = .ok (.bipush 6, 2) := by decide +kernel
theorem dL_act_282 : decode cL_act 282 = .ok (.irem, 1) := by decide +kernel
theorem dL_act_283 : decode cL_act 283 = .ok (.iconst 0, 1) := by decide +kernel
theorem dL_act_284 : decode cL_act 284 = .ok (.iconst 0, 1) := by decide +kernel
theorem dL_act_285 : decode cL_act 285 = .ok (.invokestatic 191, 3) := by decide +kernel
theorem dL_act_288 : decode cL_act 288 = .ok (.ireturn, 1) := by decide +kernel
theorem dL_act_289 : decode cL_act 289 = .ok (.iload_n 2, 1) := by decide +kernel
theorem dL_act_290 : decode cL_act 290 = .ok (.iconst 3, 1) := by decide +kernel
theorem dL_act_291 : decode cL_act 291 = .ok (.irem, 1) := by decide +kernel
theorem dL_act_292 : decode cL_act 292 = .ok (.ifCond .ne 10, 3) := by decide +kernel
theorem dL_act_295 : decode cL_act 295 = .ok (.aload_n 0, 1) := by decide +kernel
theorem dL_act_296 : decode cL_act 296 = .ok (.invokevirtual 226, 3) := by decide +kernel
theorem dL_act_299 : decode cL_act 299 = .ok (.goto 33, 3) := by decide +kernel
theorem dL_act_302 : decode cL_act 302 = .ok (.iload_n 2, 1) := by decide +kernel
theorem dL_act_303 : decode cL_act 303 = .ok (.iconst 3, 1) := by decide +kernel
theorem dL_act_304 : decode cL_act 304 = .ok (.irem, 1) := by decide +kernel
theorem dL_act_305 : decode cL_act 305 = .ok (.iconst 1, 1) := by decide +kernel
theorem dL_act_306 : decode cL_act 306 = .ok (.if_icmp .ne 10, 3) := by decide +kernel
theorem dL_act_309 : decode cL_act 309 = .ok (.aload_n 0, 1) := by decide +kernel
theorem dL_act_310 : decode cL_act 310 = .ok (.invokevirtual 229, 3) := by decide +kernel
theorem dL_act_313 : decode cL_act 313 = .ok (.goto 19, 3) := by decide +kernel
theorem dL_act_316 : decode cL_act 316 = .ok (.aload_n 0, 1) := by decide +kernel
theorem dL_act_317 : decode cL_act 317 = .ok (.bipush 16, 2) := by decide +kernel
theorem dL_act_319 : decode cL_act 319 = .ok (.iconst 1, 1) := by decide +kernel
theorem dL_act_320 : decode cL_act 320 = .ok (.iload_n 2, 1) := by decide +kernel
theorem dL_act_321 : decode cL_act 321 = .ok (.iconst 3, 1) := by decide +kernel
theorem dL_act_322 : decode cL_act 322 = .ok (.idiv, 1) := by decide +kernel
theorem dL_act_323 : decode cL_act 323 = .ok (.bipush 49, 2) := by decide +kernel
theorem dL_act_325 : decode cL_act 325 = .ok (.irem, 1) := by decide +kernel
theorem dL_act_326 : decode cL_act 326 = .ok (.iadd, 1) := by decide +kernel
theorem dL_act_327 : decode cL_act 327 = .ok (.iconst 0, 1) := by decide +kernel
theorem dL_act_328 : decode cL_act 328 = .ok (.iconst 0, 1) := by decide +kernel
theorem dL_act_329 : decode cL_act 329 = .ok (.invokestatic 191, 3) := by decide +kernel
theorem dL_act_332 : decode cL_act 332 = .ok (.ireturn, 1) := by decide +kernel
theorem dL_act_333 : decode cL_act 333 = .ok (.aload_n 0, 1) := by decide +kernel
theorem dL_act_334 : decode cL_act 334 = .ok (.bipush 17, 2) := by decide +kernel
theorem dL_act_336 : decode cL_act 336 = .ok (.iconst 0, 1) := by decide +kernel
theorem dL_act_337 : decode cL_act 337 = .ok (.iconst 0, 1) := by decide +kernel
theorem dL_act_338 : decode cL_act 338 = .ok (.iconst 0, 1) := by decide +kernel
theorem dL_act_339 : decode cL_act 339 = .ok (.invokestatic 191, 3) := by decide +kernel
theorem dL_act_342 : decode cL_act 342 = .ok (.ireturn, 1) := by decide +kernel
theorem dL_act_343 : decode cL_act 343 = .ok (.iload_n 2, 1) := by decide +kernel
theorem dL_act_344 : decode cL_act 344 = .ok (.iconst 2, 1) := by decide +kernel
theorem dL_act_345 : decode cL_act 345 = .ok (.irem, 1) := by decide +kernel
theorem dL_act_346 : decode cL_act 346 = .ok (.ifCond .ne 19, 3) := by decide +kernel
theorem dL_act_349 : decode cL_act 349 = .ok (.aload_n 0, 1) := by decide +kernel
theorem dL_act_350 : decode cL_act 350 = .ok (.bipush 21, 2) := by decide +kernel
theorem dL_act_352 : decode cL_act 352 = .ok (.iload_n 2, 1) := by decide +kernel
theorem dL_act_353 : decode cL_act 353 = .ok (.iconst 2, 1) := by decide +kernel
theorem dL_act_354 : decode cL_act 354 = .ok (.idiv, 1) := by decide +kernel
theorem dL_act_355 : decode cL_act 355 = .ok (.iconst 2, 1) := by decide +kernel
theorem dL_act_356 : decode cL_act 356 = .ok (.irem, 1) := by decide +kernel
theorem dL_act_357 : decode cL_act 357 = .ok (.iconst 0, 1) := by decide +kernel
theorem dL_act_358 : decode cL_act 358 = .ok (.iconst 0, 1) := by decide +kernel
theorem dL_act_359 : decode cL_act 359 = .ok (.invokestatic 191, 3) := by decide +kernel
theorem dL_act_362 : decode cL_act 362 = .ok (.goto 16, 3) := by decide +kernel
theorem dL_act_365 : decode cL_act 365 = .ok (.aload_n 0, 1) := by decide +kernel
theorem dL_act_366 : decode cL_act 366 = .ok (.bipush 22, 2) := by decide +kernel
theorem dL_act_368 : decode cL_act 368 = .ok (.iload_n 2, 1) := by decide +kernel
theorem dL_act_369 : decode cL_act 369 = .ok (.iconst 2, 1) := by decide +kernel
theorem dL_act_370 : decode cL_act 370 = .ok (.idiv, 1) := by decide +kernel
theorem dL_act_371 : decode cL_act 371 = .ok (.iconst 2, 1) := by decide +kernel
theorem dL_act_372 : decode cL_act 372 = .ok (.irem, 1) := by decide +kernel
theorem dL_act_373 : decode cL_act 373 = .ok (.iconst 0, 1) := by decide +kernel
theorem dL_act_374 : decode cL_act 374 = .ok (.iconst 0, 1) := by decide +kernel
theorem dL_act_375 : decode cL_act 375 = .ok (.invokestatic 191, 3) := by decide +kernel
theorem dL_act_378 : decode cL_act 378 = .ok (.ireturn, 1) := by decide +kernel
theorem dL_act_379 : decode cL_act 379 = .ok (.aload_n 0, 1) := by decide +kernel
theorem dL_act_380 : decode cL_act 380 = .ok (.iload_n 2, 1) := by decide +kernel
theorem dL_act_381 : decode cL_act 381 = .ok (.i2l, 1) := by decide +kernel
theorem dL_act_382 : decode cL_act 382 = .ok (.iconst 1, 1) := by decide +kernel
theorem dL_act_383 : decode cL_act 383 = .ok (.iload_n 2, 1) := by decide +kernel
theorem dL_act_384 : decode cL_act 384 = .ok (.bipush 50, 2) := by decide +kernel
theorem dL_act_386 : decode cL_act 386 = .ok (.irem, 1) := by decide +kernel
theorem dL_act_387 : decode cL_act 387 = .ok (.iadd, 1) := by decide +kernel
theorem dL_act_388 : decode cL_act 388 = .ok (.invokestatic 203, 3) := by decide +kernel
theorem dL_act_391 : decode cL_act 391 = .ok (.ireturn, 1) := by decide +kernel
section AC9
variable {l : Launch} {A : Ob} {M : List va_E}
theorem act_0 (hl : l.stackTraces = false) (hA : VA A) (hW : WO A M) {x : Int} (hx : 0 ≤ x ∧ x < 2147483648) (q0 : x % 16 = 0) : CtV l yL_act cL_act 7 (some .int) rgL_act [.ref 0, iv x] M (po1 (tw (kPlate (1 + x / 16 % 8) (1 + x / 16 / 8 % 8)) (-9999002) (-9999002) ((1 + x / 16 % 8) * (1 + x / 16 / 8 % 8))) ((if kPlate (1 + x / 16 % 8) (1 + x / 16 / 8 % 8) = 0 then jAct A (stN (jS A) (1 + x / 16 % 8) (1 + x / 16 / 8 % 8)) else A))) := by
  have f := VA_d hA
  obtain ⟨f1, f2, f3, f4, f5⟩ := f
  have g1 : 0 ≤ x / 16 % sC (jS A) ∧ x / 16 % sC (jS A) < sC (jS A) := ⟨Int.emod_nonneg _ (by omega), Int.emod_lt_of_pos _ (by omega)⟩
  have g2 : 0 ≤ x / 16 / 8 % sR (jS A) ∧ x / 16 / 8 % sR (jS A) < sR (jS A) := ⟨Int.emod_nonneg _ (by omega), Int.emod_lt_of_pos _ (by omega)⟩
  refine CtV.of hl miL_act (Nat.le_of_ble_eq_true rfl) (po1_cl hW) ?_
  intro X hXl hN gk ex
  subst hXl
  have ok := gk.ok
  refine AW.cast (L2 := [some (.ref 0), some (iv x), none, none, none, none, none]) ?_ rfl rfl rfl
  refine a_iload_n (pc := 0) ok dL_act_0 rfl ?_
  refine a_bipush (pc := 1) ok dL_act_1 (by decide) ?_
  refine a_idiv (pc := 3) ok dL_act_3 (by first | exact rg_w _ | exact rg_tw (by unfold rg; omega) (by unfold rg; omega) | omega | (unfold rg; omega) | (simp only [rg] at *; omega) | exact bz_rg _ | grind [rg]) (by first | exact rg_w _ | exact rg_tw (by unfold rg; omega) (by unfold rg; omega) | omega | (unfold rg; omega) | (simp only [rg] at *; omega) | exact bz_rg _ | grind [rg]) ?_
  refine a_istore_n (pc := 4) ok dL_act_4 rfl (by rw [hN]; decide) ?_
  refine a_aload_n (pc := 5) ok dL_act_5 rfl ?_
  refine a_iconst (pc := 6) ok dL_act_6 ?_
  refine a_iconst (pc := 7) ok dL_act_7 ?_
  refine a_iconst (pc := 8) ok dL_act_8 ?_
  refine a_iconst (pc := 9) ok dL_act_9 ?_
  refine v_o (pc := 10) ok ex gk.1 dL_act_10 (ug2 16 (by decide +kernel) rfl) (ug2 17 (by decide +kernel) rfl) miL_call hW (AB0 hl hA hW) ⟨by decide, by decide⟩ ⟨Nat.le_of_ble_eq_true rfl, Nat.le_of_ble_eq_true rfl⟩ rfl rfl (Nat.le_of_ble_eq_true rfl) ?_
  intro M hW
  refine a_istore_n (pc := 13) ok dL_act_13 rfl (by rw [hN]; decide) ?_
  refine a_aload_n (pc := 14) ok dL_act_14 rfl ?_
  refine a_iconst (pc := 15) ok dL_act_15 ?_
  refine a_iconst (pc := 16) ok dL_act_16 ?_
  refine a_iconst (pc := 17) ok dL_act_17 ?_
  refine a_iconst (pc := 18) ok dL_act_18 ?_
  refine v_o (pc := 19) ok ex gk.1 dL_act_19 (ug2 16 (by decide +kernel) rfl) (ug2 17 (by decide +kernel) rfl) miL_call hW (AB1 hl hA hW) ⟨by decide, by decide⟩ ⟨Nat.le_of_ble_eq_true rfl, Nat.le_of_ble_eq_true rfl⟩ rfl rfl (Nat.le_of_ble_eq_true rfl) ?_
  intro M hW
  refine a_istore (pc := 22) ok dL_act_22 rfl (by rw [hN]; decide) ?_
  refine a_iload_n (pc := 24) ok dL_act_24 rfl ?_
  refine a_iload_n (pc := 25) ok dL_act_25 rfl ?_
  refine a_irem (pc := 26) ok dL_act_26 (by first | exact rg_w _ | exact rg_tw (by unfold rg; omega) (by unfold rg; omega) | omega | (unfold rg; omega) | (simp only [rg] at *; omega) | exact bz_rg _ | grind [rg]) (by first | exact rg_w _ | exact rg_tw (by unfold rg; omega) (by unfold rg; omega) | omega | (unfold rg; omega) | (simp only [rg] at *; omega) | exact bz_rg _ | grind [rg]) ?_
  refine a_istore (pc := 27) ok dL_act_27 rfl (by rw [hN]; decide) ?_
  refine a_iload_n (pc := 29) ok dL_act_29 rfl ?_
  refine a_bipush (pc := 30) ok dL_act_30 (by decide) ?_
  refine a_idiv (pc := 32) ok dL_act_32 (by first | exact rg_w _ | exact rg_tw (by unfold rg; omega) (by unfold rg; omega) | omega | (unfold rg; omega) | (simp only [rg] at *; omega) | exact bz_rg _ | grind [rg]) (by first | exact rg_w _ | exact rg_tw (by unfold rg; omega) (by unfold rg; omega) | omega | (unfold rg; omega) | (simp only [rg] at *; omega) | exact bz_rg _ | grind [rg]) ?_
  refine a_iload (pc := 33) ok dL_act_33 rfl ?_
  refine a_irem (pc := 35) ok dL_act_35 (by first | exact rg_w _ | exact rg_tw (by unfold rg; omega) (by unfold rg; omega) | omega | (unfold rg; omega) | (simp only [rg] at *; omega) | exact bz_rg _ | grind [rg]) (by first | exact rg_w _ | exact rg_tw (by unfold rg; omega) (by unfold rg; omega) | omega | (unfold rg; omega) | (simp only [rg] at *; omega) | exact bz_rg _ | grind [rg]) ?_
  refine a_istore (pc := 36) ok dL_act_36 rfl (by rw [hN]; decide) ?_
  refine a_iload_n (pc := 38) ok dL_act_38 rfl ?_
  refine a_bipush (pc := 39) ok dL_act_39 (by decide) ?_
  refine a_irem (pc := 41) ok dL_act_41 (by first | exact rg_w _ | exact rg_tw (by unfold rg; omega) (by unfold rg; omega) | omega | (unfold rg; omega) | (simp only [rg] at *; omega) | exact bz_rg _ | grind [rg]) (by first | exact rg_w _ | exact rg_tw (by unfold rg; omega) (by unfold rg; omega) | omega | (unfold rg; omega) | (simp only [rg] at *; omega) | exact bz_rg _ | grind [rg]) ?_
  refine a_tableIn (pc := 42) (off := 66) (tgt := 108) ok dL_act_42 (by unfold rg; omega) (by omega) (by omega) (by rw [q0]; rfl) (by decide) ?_
  refine a_aload_n (pc := 108) ok dL_act_108 rfl ?_
  refine a_bipush (pc := 109) ok dL_act_109 (by decide) ?_
  refine a_iconst (pc := 111) ok dL_act_111 ?_
  refine a_iload_n (pc := 112) ok dL_act_112 rfl ?_
  refine a_bipush (pc := 113) ok dL_act_113 (by decide) ?_
  refine a_irem (pc := 115) ok dL_act_115 (by first | exact rg_w _ | exact rg_tw (by unfold rg; omega) (by unfold rg; omega) | omega | (unfold rg; omega) | (simp only [rg] at *; omega) | exact bz_rg _ | grind [rg]) (by first | exact rg_w _ | exact rg_tw (by unfold rg; omega) (by unfold rg; omega) | omega | (unfold rg; omega) | (simp only [rg] at *; omega) | exact bz_rg _ | grind [rg]) ?_
  refine a_iadd (pc := 116) ok dL_act_116 ?_
  refine a_iconst (pc := 117) ok dL_act_117 ?_
  refine a_iload_n (pc := 118) ok dL_act_118 rfl ?_
  refine a_bipush (pc := 119) ok dL_act_119 (by decide) ?_
  refine a_idiv (pc := 121) ok dL_act_121 (by first | exact rg_w _ | exact rg_tw (by unfold rg; omega) (by unfold rg; omega) | omega | (unfold rg; omega) | (simp only [rg] at *; omega) | exact bz_rg _ | grind [rg]) (by first | exact rg_w _ | exact rg_tw (by unfold rg; omega) (by unfold rg; omega) | omega | (unfold rg; omega) | (simp only [rg] at *; omega) | exact bz_rg _ | grind [rg]) ?_
  refine a_bipush (pc := 122) ok dL_act_122 (by decide) ?_
  refine a_irem (pc := 124) ok dL_act_124 (by first | exact rg_w _ | exact rg_tw (by unfold rg; omega) (by unfold rg; omega) | omega | (unfold rg; omega) | (simp only [rg] at *; omega) | exact bz_rg _ | grind [rg]) (by first | exact rg_w _ | exact rg_tw (by unfold rg; omega) (by unfold rg; omega) | omega | (unfold rg; omega) | (simp only [rg] at *; omega) | exact bz_rg _ | grind [rg]) ?_
  refine a_iadd (pc := 125) ok dL_act_125 ?_
  refine a_iconst (pc := 126) ok dL_act_126 ?_
  refine v_o (pc := 127) ok ex gk.1 dL_act_127 (ug2 16 (by decide +kernel) rfl) (ug2 17 (by decide +kernel) rfl) miL_call hW (C_10 hl hA hW (c := 1 + x / 16 % 8) (r := 1 + x / 16 / 8 % 8) (u3 := 0) (by unfold rg; omega) (by unfold rg; omega)) ⟨by decide, by decide⟩ ⟨Nat.le_of_ble_eq_true rfl, Nat.le_of_ble_eq_true rfl⟩ rfl rfl (Nat.le_of_ble_eq_true rfl) ?_
  intro M hW
  refine AW.widen (kc2 := rgL_act.cells) (ks2 := rgL_act.slots) (Nat.le_of_ble_eq_true rfl) (Nat.le_of_ble_eq_true rfl) ?_
  exact a_iret (pc := 130) ok dL_act_130 (⟨rfl, hW⟩)
theorem act_1 (hl : l.stackTraces = false) (hA : VA A) (hW : WO A M) {x : Int} (hx : 0 ≤ x ∧ x < 2147483648) (q0 : x % 16 = 1) : CtV l yL_act cL_act 7 (some .int) rgL_act [.ref 0, iv x] M (po1 (tw (kPut (jS A) (x / 16 % sC (jS A)) (x / 16 / 8 % sR (jS A)) (x / 16 / 64 % 100)) (-9999001) (-9999002) (sG (jS A) ((x / 16 / 8 % sR (jS A)) * sC (jS A) + (x / 16 % sC (jS A))))) ((if kPut (jS A) (x / 16 % sC (jS A)) (x / 16 / 8 % sR (jS A)) (x / 16 / 64 % 100) = 0 then jAct A (gP (jS A) (x / 16 % sC (jS A)) (x / 16 / 8 % sR (jS A)) (x / 16 / 64 % 100)) else A))) := by
  have f := VA_d hA
  obtain ⟨f1, f2, f3, f4, f5⟩ := f
  have g1 : 0 ≤ x / 16 % sC (jS A) ∧ x / 16 % sC (jS A) < sC (jS A) := ⟨Int.emod_nonneg _ (by omega), Int.emod_lt_of_pos _ (by omega)⟩
  have g2 : 0 ≤ x / 16 / 8 % sR (jS A) ∧ x / 16 / 8 % sR (jS A) < sR (jS A) := ⟨Int.emod_nonneg _ (by omega), Int.emod_lt_of_pos _ (by omega)⟩
  refine CtV.of hl miL_act (Nat.le_of_ble_eq_true rfl) (po1_cl hW) ?_
  intro X hXl hN gk ex
  subst hXl
  have ok := gk.ok
  refine AW.cast (L2 := [some (.ref 0), some (iv x), none, none, none, none, none]) ?_ rfl rfl rfl
  refine a_iload_n (pc := 0) ok dL_act_0 rfl ?_
  refine a_bipush (pc := 1) ok dL_act_1 (by decide) ?_
  refine a_idiv (pc := 3) ok dL_act_3 (by first | exact rg_w _ | exact rg_tw (by unfold rg; omega) (by unfold rg; omega) | omega | (unfold rg; omega) | (simp only [rg] at *; omega) | exact bz_rg _ | grind [rg]) (by first | exact rg_w _ | exact rg_tw (by unfold rg; omega) (by unfold rg; omega) | omega | (unfold rg; omega) | (simp only [rg] at *; omega) | exact bz_rg _ | grind [rg]) ?_
  refine a_istore_n (pc := 4) ok dL_act_4 rfl (by rw [hN]; decide) ?_
  refine a_aload_n (pc := 5) ok dL_act_5 rfl ?_
  refine a_iconst (pc := 6) ok dL_act_6 ?_
  refine a_iconst (pc := 7) ok dL_act_7 ?_
  refine a_iconst (pc := 8) ok dL_act_8 ?_
  refine a_iconst (pc := 9) ok dL_act_9 ?_
  refine v_o (pc := 10) ok ex gk.1 dL_act_10 (ug2 16 (by decide +kernel) rfl) (ug2 17 (by decide +kernel) rfl) miL_call hW (AB0 hl hA hW) ⟨by decide, by decide⟩ ⟨Nat.le_of_ble_eq_true rfl, Nat.le_of_ble_eq_true rfl⟩ rfl rfl (Nat.le_of_ble_eq_true rfl) ?_
  intro M hW
  refine a_istore_n (pc := 13) ok dL_act_13 rfl (by rw [hN]; decide) ?_
  refine a_aload_n (pc := 14) ok dL_act_14 rfl ?_
  refine a_iconst (pc := 15) ok dL_act_15 ?_
  refine a_iconst (pc := 16) ok dL_act_16 ?_
  refine a_iconst (pc := 17) ok dL_act_17 ?_
  refine a_iconst (pc := 18) ok dL_act_18 ?_
  refine v_o (pc := 19) ok ex gk.1 dL_act_19 (ug2 16 (by decide +kernel) rfl) (ug2 17 (by decide +kernel) rfl) miL_call hW (AB1 hl hA hW) ⟨by decide, by decide⟩ ⟨Nat.le_of_ble_eq_true rfl, Nat.le_of_ble_eq_true rfl⟩ rfl rfl (Nat.le_of_ble_eq_true rfl) ?_
  intro M hW
  refine a_istore (pc := 22) ok dL_act_22 rfl (by rw [hN]; decide) ?_
  refine a_iload_n (pc := 24) ok dL_act_24 rfl ?_
  refine a_iload_n (pc := 25) ok dL_act_25 rfl ?_
  refine a_irem (pc := 26) ok dL_act_26 (by first | exact rg_w _ | exact rg_tw (by unfold rg; omega) (by unfold rg; omega) | omega | (unfold rg; omega) | (simp only [rg] at *; omega) | exact bz_rg _ | grind [rg]) (by first | exact rg_w _ | exact rg_tw (by unfold rg; omega) (by unfold rg; omega) | omega | (unfold rg; omega) | (simp only [rg] at *; omega) | exact bz_rg _ | grind [rg]) ?_
  refine a_istore (pc := 27) ok dL_act_27 rfl (by rw [hN]; decide) ?_
  refine a_iload_n (pc := 29) ok dL_act_29 rfl ?_
  refine a_bipush (pc := 30) ok dL_act_30 (by decide) ?_
  refine a_idiv (pc := 32) ok dL_act_32 (by first | exact rg_w _ | exact rg_tw (by unfold rg; omega) (by unfold rg; omega) | omega | (unfold rg; omega) | (simp only [rg] at *; omega) | exact bz_rg _ | grind [rg]) (by first | exact rg_w _ | exact rg_tw (by unfold rg; omega) (by unfold rg; omega) | omega | (unfold rg; omega) | (simp only [rg] at *; omega) | exact bz_rg _ | grind [rg]) ?_
  refine a_iload (pc := 33) ok dL_act_33 rfl ?_
  refine a_irem (pc := 35) ok dL_act_35 (by first | exact rg_w _ | exact rg_tw (by unfold rg; omega) (by unfold rg; omega) | omega | (unfold rg; omega) | (simp only [rg] at *; omega) | exact bz_rg _ | grind [rg]) (by first | exact rg_w _ | exact rg_tw (by unfold rg; omega) (by unfold rg; omega) | omega | (unfold rg; omega) | (simp only [rg] at *; omega) | exact bz_rg _ | grind [rg]) ?_
  refine a_istore (pc := 36) ok dL_act_36 rfl (by rw [hN]; decide) ?_
  refine a_iload_n (pc := 38) ok dL_act_38 rfl ?_
  refine a_bipush (pc := 39) ok dL_act_39 (by decide) ?_
  refine a_irem (pc := 41) ok dL_act_41 (by first | exact rg_w _ | exact rg_tw (by unfold rg; omega) (by unfold rg; omega) | omega | (unfold rg; omega) | (simp only [rg] at *; omega) | exact bz_rg _ | grind [rg]) (by first | exact rg_w _ | exact rg_tw (by unfold rg; omega) (by unfold rg; omega) | omega | (unfold rg; omega) | (simp only [rg] at *; omega) | exact bz_rg _ | grind [rg]) ?_
  refine a_tableIn (pc := 42) (off := 89) (tgt := 131) ok dL_act_42 (by unfold rg; omega) (by omega) (by omega) (by rw [q0]; rfl) (by decide) ?_
  refine a_aload_n (pc := 131) ok dL_act_131 rfl ?_
  refine a_bipush (pc := 132) ok dL_act_132 (by decide) ?_
  refine a_iload (pc := 134) ok dL_act_134 rfl ?_
  refine a_iload (pc := 136) ok dL_act_136 rfl ?_
  refine a_iload_n (pc := 138) ok dL_act_138 rfl ?_
  refine a_bipush (pc := 139) ok dL_act_139 (by decide) ?_
  refine a_idiv (pc := 141) ok dL_act_141 (by first | exact rg_w _ | exact rg_tw (by unfold rg; omega) (by unfold rg; omega) | omega | (unfold rg; omega) | (simp only [rg] at *; omega) | exact bz_rg _ | grind [rg]) (by first | exact rg_w _ | exact rg_tw (by unfold rg; omega) (by unfold rg; omega) | omega | (unfold rg; omega) | (simp only [rg] at *; omega) | exact bz_rg _ | grind [rg]) ?_
  refine a_bipush (pc := 142) ok dL_act_142 (by decide) ?_
  refine a_irem (pc := 144) ok dL_act_144 (by first | exact rg_w _ | exact rg_tw (by unfold rg; omega) (by unfold rg; omega) | omega | (unfold rg; omega) | (simp only [rg] at *; omega) | exact bz_rg _ | grind [rg]) (by first | exact rg_w _ | exact rg_tw (by unfold rg; omega) (by unfold rg; omega) | omega | (unfold rg; omega) | (simp only [rg] at *; omega) | exact bz_rg _ | grind [rg]) ?_
  refine v_o (pc := 145) ok ex gk.1 dL_act_145 (ug2 16 (by decide +kernel) rfl) (ug2 17 (by decide +kernel) rfl) miL_call hW (C_11 hl hA hW (x := x / 16 % sC (jS A)) (y := x / 16 / 8 % sR (jS A)) (g := x / 16 / 64 % 100) (by unfold rg; omega) (by unfold rg; omega) (by unfold rg; omega)) ⟨by decide, by decide⟩ ⟨Nat.le_of_ble_eq_true rfl, Nat.le_of_ble_eq_true rfl⟩ rfl rfl (Nat.le_of_ble_eq_true rfl) ?_
  intro M hW
  refine AW.widen (kc2 := rgL_act.cells) (ks2 := rgL_act.slots) (Nat.le_of_ble_eq_true rfl) (Nat.le_of_ble_eq_true rfl) ?_
  exact a_iret (pc := 148) ok dL_act_148 (⟨rfl, hW⟩)
theorem act_2 (hl : l.stackTraces = false) (hA : VA A) (hW : WO A M) {x : Int} (hx : 0 ≤ x ∧ x < 2147483648) (q0 : x % 16 = 2) : CtV l yL_act cL_act 7 (some .int) rgL_act [.ref 0, iv x] M (po1 (tw (kPut (jS A) (x / 16 % sC (jS A)) (x / 16 / 8 % sR (jS A)) (x / 16 / 64 % 100)) (-9999001) (-9999002) (sG (jS A) ((x / 16 / 8 % sR (jS A)) * sC (jS A) + (x / 16 % sC (jS A))))) ((if kPut (jS A) (x / 16 % sC (jS A)) (x / 16 / 8 % sR (jS A)) (x / 16 / 64 % 100) = 0 then jAct A (gP (jS A) (x / 16 % sC (jS A)) (x / 16 / 8 % sR (jS A)) (x / 16 / 64 % 100)) else A))) := by
  have f := VA_d hA
  obtain ⟨f1, f2, f3, f4, f5⟩ := f
  have g1 : 0 ≤ x / 16 % sC (jS A) ∧ x / 16 % sC (jS A) < sC (jS A) := ⟨Int.emod_nonneg _ (by omega), Int.emod_lt_of_pos _ (by omega)⟩
  have g2 : 0 ≤ x / 16 / 8 % sR (jS A) ∧ x / 16 / 8 % sR (jS A) < sR (jS A) := ⟨Int.emod_nonneg _ (by omega), Int.emod_lt_of_pos _ (by omega)⟩
  refine CtV.of hl miL_act (Nat.le_of_ble_eq_true rfl) (po1_cl hW) ?_
  intro X hXl hN gk ex
  subst hXl
  have ok := gk.ok
  refine AW.cast (L2 := [some (.ref 0), some (iv x), none, none, none, none, none]) ?_ rfl rfl rfl
  refine a_iload_n (pc := 0) ok dL_act_0 rfl ?_
  refine a_bipush (pc := 1) ok dL_act_1 (by decide) ?_
  refine a_idiv (pc := 3) ok dL_act_3 (by first | exact rg_w _ | exact rg_tw (by unfold rg; omega) (by unfold rg; omega) | omega | (unfold rg; omega) | (simp only [rg] at *; omega) | exact bz_rg _ | grind [rg]) (by first | exact rg_w _ | exact rg_tw (by unfold rg; omega) (by unfold rg; omega) | omega | (unfold rg; omega) | (simp only [rg] at *; omega) | exact bz_rg _ | grind [rg]) ?_
  refine a_istore_n (pc := 4) ok dL_act_4 rfl (by rw [hN]; decide) ?_
  refine a_aload_n (pc := 5) ok dL_act_5 rfl ?_
  refine a_iconst (pc := 6) ok dL_act_6 ?_
  refine a_iconst (pc := 7) ok dL_act_7 ?_
  refine a_iconst (pc := 8) ok dL_act_8 ?_
  refine a_iconst (pc := 9) ok dL_act_9 ?_
  refine v_o (pc := 10) ok ex gk.1 dL_act_10 (ug2 16 (by decide +kernel) rfl) (ug2 17 (by decide +kernel) rfl) miL_call hW (AB0 hl hA hW) ⟨by decide, by decide⟩ ⟨Nat.le_of_ble_eq_true rfl, Nat.le_of_ble_eq_true rfl⟩ rfl rfl (Nat.le_of_ble_eq_true rfl) ?_
  intro M hW
  refine a_istore_n (pc := 13) ok dL_act_13 rfl (by rw [hN]; decide) ?_
  refine a_aload_n (pc := 14) ok dL_act_14 rfl ?_
  refine a_iconst (pc := 15) ok dL_act_15 ?_
  refine a_iconst (pc := 16) ok dL_act_16 ?_
  refine a_iconst (pc := 17) ok dL_act_17 ?_
  refine a_iconst (pc := 18) ok dL_act_18 ?_
  refine v_o (pc := 19) ok ex gk.1 dL_act_19 (ug2 16 (by decide +kernel) rfl) (ug2 17 (by decide +kernel) rfl) miL_call hW (AB1 hl hA hW) ⟨by decide, by decide⟩ ⟨Nat.le_of_ble_eq_true rfl, Nat.le_of_ble_eq_true rfl⟩ rfl rfl (Nat.le_of_ble_eq_true rfl) ?_
  intro M hW
  refine a_istore (pc := 22) ok dL_act_22 rfl (by rw [hN]; decide) ?_
  refine a_iload_n (pc := 24) ok dL_act_24 rfl ?_
  refine a_iload_n (pc := 25) ok dL_act_25 rfl ?_
  refine a_irem (pc := 26) ok dL_act_26 (by first | exact rg_w _ | exact rg_tw (by unfold rg; omega) (by unfold rg; omega) | omega | (unfold rg; omega) | (simp only [rg] at *; omega) | exact bz_rg _ | grind [rg]) (by first | exact rg_w _ | exact rg_tw (by unfold rg; omega) (by unfold rg; omega) | omega | (unfold rg; omega) | (simp only [rg] at *; omega) | exact bz_rg _ | grind [rg]) ?_
  refine a_istore (pc := 27) ok dL_act_27 rfl (by rw [hN]; decide) ?_
  refine a_iload_n (pc := 29) ok dL_act_29 rfl ?_
  refine a_bipush (pc := 30) ok dL_act_30 (by decide) ?_
  refine a_idiv (pc := 32) ok dL_act_32 (by first | exact rg_w _ | exact rg_tw (by unfold rg; omega) (by unfold rg; omega) | omega | (unfold rg; omega) | (simp only [rg] at *; omega) | exact bz_rg _ | grind [rg]) (by first | exact rg_w _ | exact rg_tw (by unfold rg; omega) (by unfold rg; omega) | omega | (unfold rg; omega) | (simp only [rg] at *; omega) | exact bz_rg _ | grind [rg]) ?_
  refine a_iload (pc := 33) ok dL_act_33 rfl ?_
  refine a_irem (pc := 35) ok dL_act_35 (by first | exact rg_w _ | exact rg_tw (by unfold rg; omega) (by unfold rg; omega) | omega | (unfold rg; omega) | (simp only [rg] at *; omega) | exact bz_rg _ | grind [rg]) (by first | exact rg_w _ | exact rg_tw (by unfold rg; omega) (by unfold rg; omega) | omega | (unfold rg; omega) | (simp only [rg] at *; omega) | exact bz_rg _ | grind [rg]) ?_
  refine a_istore (pc := 36) ok dL_act_36 rfl (by rw [hN]; decide) ?_
  refine a_iload_n (pc := 38) ok dL_act_38 rfl ?_
  refine a_bipush (pc := 39) ok dL_act_39 (by decide) ?_
  refine a_irem (pc := 41) ok dL_act_41 (by first | exact rg_w _ | exact rg_tw (by unfold rg; omega) (by unfold rg; omega) | omega | (unfold rg; omega) | (simp only [rg] at *; omega) | exact bz_rg _ | grind [rg]) (by first | exact rg_w _ | exact rg_tw (by unfold rg; omega) (by unfold rg; omega) | omega | (unfold rg; omega) | (simp only [rg] at *; omega) | exact bz_rg _ | grind [rg]) ?_
  refine a_tableIn (pc := 42) (off := 89) (tgt := 131) ok dL_act_42 (by unfold rg; omega) (by omega) (by omega) (by rw [q0]; rfl) (by decide) ?_
  refine a_aload_n (pc := 131) ok dL_act_131 rfl ?_
  refine a_bipush (pc := 132) ok dL_act_132 (by decide) ?_
  refine a_iload (pc := 134) ok dL_act_134 rfl ?_
  refine a_iload (pc := 136) ok dL_act_136 rfl ?_
  refine a_iload_n (pc := 138) ok dL_act_138 rfl ?_
  refine a_bipush (pc := 139) ok dL_act_139 (by decide) ?_
  refine a_idiv (pc := 141) ok dL_act_141 (by first | exact rg_w _ | exact rg_tw (by unfold rg; omega) (by unfold rg; omega) | omega | (unfold rg; omega) | (simp only [rg] at *; omega) | exact bz_rg _ | grind [rg]) (by first | exact rg_w _ | exact rg_tw (by unfold rg; omega) (by unfold rg; omega) | omega | (unfold rg; omega) | (simp only [rg] at *; omega) | exact bz_rg _ | grind [rg]) ?_
  refine a_bipush (pc := 142) ok dL_act_142 (by decide) ?_
  refine a_irem (pc := 144) ok dL_act_144 (by first | exact rg_w _ | exact rg_tw (by unfold rg; omega) (by unfold rg; omega) | omega | (unfold rg; omega) | (simp only [rg] at *; omega) | exact bz_rg _ | grind [rg]) (by first | exact rg_w _ | exact rg_tw (by unfold rg; omega) (by unfold rg; omega) | omega | (unfold rg; omega) | (simp only [rg] at *; omega) | exact bz_rg _ | grind [rg]) ?_
  refine v_o (pc := 145) ok ex gk.1 dL_act_145 (ug2 16 (by decide +kernel) rfl) (ug2 17 (by decide +kernel) rfl) miL_call hW (C_11 hl hA hW (x := x / 16 % sC (jS A)) (y := x / 16 / 8 % sR (jS A)) (g := x / 16 / 64 % 100) (by unfold rg; omega) (by unfold rg; omega) (by unfold rg; omega)) ⟨by decide, by decide⟩ ⟨Nat.le_of_ble_eq_true rfl, Nat.le_of_ble_eq_true rfl⟩ rfl rfl (Nat.le_of_ble_eq_true rfl) ?_
  intro M hW
  refine AW.widen (kc2 := rgL_act.cells) (ks2 := rgL_act.slots) (Nat.le_of_ble_eq_true rfl) (Nat.le_of_ble_eq_true rfl) ?_
  exact a_iret (pc := 148) ok dL_act_148 (⟨rfl, hW⟩)
theorem act_3 (hl : l.stackTraces = false) (hA : VA A) (hW : WO A M) {x : Int} (hx : 0 ≤ x ∧ x < 2147483648) (q0 : x % 16 = 3) : CtV l yL_act cL_act 7 (some .int) rgL_act [.ref 0, iv x] M (po1 (tw (kBox (jS A) (x / 16 % sC (jS A)) (x / 16 % sC (jS A) + x / 16 / 64 % (sC (jS A) - x / 16 % sC (jS A))) (x / 16 / 8 % sR (jS A)) (x / 16 / 8 % sR (jS A) + x / 16 / 512 % (sR (jS A) - x / 16 / 8 % sR (jS A))) (x / 16 / 4096 % 100)) (-9999001) (-9999002) ((boxF (sC (jS A)) (x / 16 / 4096 % 100) (x / 16 % sC (jS A)) ((x / 16 % sC (jS A) + x / 16 / 64 % (sC (jS A) - x / 16 % sC (jS A))) - (x / 16 % sC (jS A)) + 1).toNat (x / 16 / 8 % sR (jS A)) ((x / 16 / 8 % sR (jS A) + x / 16 / 512 % (sR (jS A) - x / 16 / 8 % sR (jS A))) - (x / 16 / 8 % sR (jS A)) + 1).toNat (sG (jS A), 0)).2)) ((if kBox (jS A) (x / 16 % sC (jS A)) (x / 16 % sC (jS A) + x / 16 / 64 % (sC (jS A) - x / 16 % sC (jS A))) (x / 16 / 8 % sR (jS A)) (x / 16 / 8 % sR (jS A) + x / 16 / 512 % (sR (jS A) - x / 16 / 8 % sR (jS A))) (x / 16 / 4096 % 100) = 0 then jAct A (gB (jS A) (x / 16 % sC (jS A)) (x / 16 % sC (jS A) + x / 16 / 64 % (sC (jS A) - x / 16 % sC (jS A))) (x / 16 / 8 % sR (jS A)) (x / 16 / 8 % sR (jS A) + x / 16 / 512 % (sR (jS A) - x / 16 / 8 % sR (jS A))) (x / 16 / 4096 % 100)) else A))) := by
  have f := VA_d hA
  obtain ⟨f1, f2, f3, f4, f5⟩ := f
  have g1 : 0 ≤ x / 16 % sC (jS A) ∧ x / 16 % sC (jS A) < sC (jS A) := ⟨Int.emod_nonneg _ (by omega), Int.emod_lt_of_pos _ (by omega)⟩
  have g2 : 0 ≤ x / 16 / 8 % sR (jS A) ∧ x / 16 / 8 % sR (jS A) < sR (jS A) := ⟨Int.emod_nonneg _ (by omega), Int.emod_lt_of_pos _ (by omega)⟩
  have g3 : 0 ≤ x / 16 / 64 % (sC (jS A) - x / 16 % sC (jS A)) ∧ x / 16 / 64 % (sC (jS A) - x / 16 % sC (jS A)) < sC (jS A) - x / 16 % sC (jS A) := ⟨Int.emod_nonneg _ (by omega), Int.emod_lt_of_pos _ (by omega)⟩
  have g4 : 0 ≤ x / 16 / 512 % (sR (jS A) - x / 16 / 8 % sR (jS A)) ∧ x / 16 / 512 % (sR (jS A) - x / 16 / 8 % sR (jS A)) < sR (jS A) - x / 16 / 8 % sR (jS A) := ⟨Int.emod_nonneg _ (by omega), Int.emod_lt_of_pos _ (by omega)⟩
  refine CtV.of hl miL_act (Nat.le_of_ble_eq_true rfl) (po1_cl hW) ?_
  intro X hXl hN gk ex
  subst hXl
  have ok := gk.ok
  refine AW.cast (L2 := [some (.ref 0), some (iv x), none, none, none, none, none]) ?_ rfl rfl rfl
  refine a_iload_n (pc := 0) ok dL_act_0 rfl ?_
  refine a_bipush (pc := 1) ok dL_act_1 (by decide) ?_
  refine a_idiv (pc := 3) ok dL_act_3 (by first | exact rg_w _ | exact rg_tw (by unfold rg; omega) (by unfold rg; omega) | omega | (unfold rg; omega) | (simp only [rg] at *; omega) | exact bz_rg _ | grind [rg]) (by first | exact rg_w _ | exact rg_tw (by unfold rg; omega) (by unfold rg; omega) | omega | (unfold rg; omega) | (simp only [rg] at *; omega) | exact bz_rg _ | grind [rg]) ?_
  refine a_istore_n (pc := 4) ok dL_act_4 rfl (by rw [hN]; decide) ?_
  refine a_aload_n (pc := 5) ok dL_act_5 rfl ?_
  refine a_iconst (pc := 6) ok dL_act_6 ?_
  refine a_iconst (pc := 7) ok dL_act_7 ?_
  refine a_iconst (pc := 8) ok dL_act_8 ?_
  refine a_iconst (pc := 9) ok dL_act_9 ?_
  refine v_o (pc := 10) ok ex gk.1 dL_act_10 (ug2 16 (by decide +kernel) rfl) (ug2 17 (by decide +kernel) rfl) miL_call hW (AB0 hl hA hW) ⟨by decide, by decide⟩ ⟨Nat.le_of_ble_eq_true rfl, Nat.le_of_ble_eq_true rfl⟩ rfl rfl (Nat.le_of_ble_eq_true rfl) ?_
  intro M hW
  refine a_istore_n (pc := 13) ok dL_act_13 rfl (by rw [hN]; decide) ?_
  refine a_aload_n (pc := 14) ok dL_act_14 rfl ?_
  refine a_iconst (pc := 15) ok dL_act_15 ?_
  refine a_iconst (pc := 16) ok dL_act_16 ?_
  refine a_iconst (pc := 17) ok dL_act_17 ?_
  refine a_iconst (pc := 18) ok dL_act_18 ?_
  refine v_o (pc := 19) ok ex gk.1 dL_act_19 (ug2 16 (by decide +kernel) rfl) (ug2 17 (by decide +kernel) rfl) miL_call hW (AB1 hl hA hW) ⟨by decide, by decide⟩ ⟨Nat.le_of_ble_eq_true rfl, Nat.le_of_ble_eq_true rfl⟩ rfl rfl (Nat.le_of_ble_eq_true rfl) ?_
  intro M hW
  refine a_istore (pc := 22) ok dL_act_22 rfl (by rw [hN]; decide) ?_
  refine a_iload_n (pc := 24) ok dL_act_24 rfl ?_
  refine a_iload_n (pc := 25) ok dL_act_25 rfl ?_
  refine a_irem (pc := 26) ok dL_act_26 (by first | exact rg_w _ | exact rg_tw (by unfold rg; omega) (by unfold rg; omega) | omega | (unfold rg; omega) | (simp only [rg] at *; omega) | exact bz_rg _ | grind [rg]) (by first | exact rg_w _ | exact rg_tw (by unfold rg; omega) (by unfold rg; omega) | omega | (unfold rg; omega) | (simp only [rg] at *; omega) | exact bz_rg _ | grind [rg]) ?_
  refine a_istore (pc := 27) ok dL_act_27 rfl (by rw [hN]; decide) ?_
  refine a_iload_n (pc := 29) ok dL_act_29 rfl ?_
  refine a_bipush (pc := 30) ok dL_act_30 (by decide) ?_
  refine a_idiv (pc := 32) ok dL_act_32 (by first | exact rg_w _ | exact rg_tw (by unfold rg; omega) (by unfold rg; omega) | omega | (unfold rg; omega) | (simp only [rg] at *; omega) | exact bz_rg _ | grind [rg]) (by first | exact rg_w _ | exact rg_tw (by unfold rg; omega) (by unfold rg; omega) | omega | (unfold rg; omega) | (simp only [rg] at *; omega) | exact bz_rg _ | grind [rg]) ?_
  refine a_iload (pc := 33) ok dL_act_33 rfl ?_
  refine a_irem (pc := 35) ok dL_act_35 (by first | exact rg_w _ | exact rg_tw (by unfold rg; omega) (by unfold rg; omega) | omega | (unfold rg; omega) | (simp only [rg] at *; omega) | exact bz_rg _ | grind [rg]) (by first | exact rg_w _ | exact rg_tw (by unfold rg; omega) (by unfold rg; omega) | omega | (unfold rg; omega) | (simp only [rg] at *; omega) | exact bz_rg _ | grind [rg]) ?_
  refine a_istore (pc := 36) ok dL_act_36 rfl (by rw [hN]; decide) ?_
  refine a_iload_n (pc := 38) ok dL_act_38 rfl ?_
  refine a_bipush (pc := 39) ok dL_act_39 (by decide) ?_
  refine a_irem (pc := 41) ok dL_act_41 (by first | exact rg_w _ | exact rg_tw (by unfold rg; omega) (by unfold rg; omega) | omega | (unfold rg; omega) | (simp only [rg] at *; omega) | exact bz_rg _ | grind [rg]) (by first | exact rg_w _ | exact rg_tw (by unfold rg; omega) (by unfold rg; omega) | omega | (unfold rg; omega) | (simp only [rg] at *; omega) | exact bz_rg _ | grind [rg]) ?_
  refine a_tableIn (pc := 42) (off := 107) (tgt := 149) ok dL_act_42 (by unfold rg; omega) (by omega) (by omega) (by rw [q0]; rfl) (by decide) ?_
  refine a_aload_n (pc := 149) ok dL_act_149 rfl ?_
  refine a_iload (pc := 150) ok dL_act_150 rfl ?_
  refine a_iload (pc := 152) ok dL_act_152 rfl ?_
  refine a_iload_n (pc := 154) ok dL_act_154 rfl ?_
  refine a_bipush (pc := 155) ok dL_act_155 (by decide) ?_
  refine a_idiv (pc := 157) ok dL_act_157 (by first | exact rg_w _ | exact rg_tw (by unfold rg; omega) (by unfold rg; omega) | omega | (unfold rg; omega) | (simp only [rg] at *; omega) | exact bz_rg _ | grind [rg]) (by first | exact rg_w _ | exact rg_tw (by unfold rg; omega) (by unfold rg; omega) | omega | (unfold rg; omega) | (simp only [rg] at *; omega) | exact bz_rg _ | grind [rg]) ?_
  refine a_iload_n (pc := 158) ok dL_act_158 rfl ?_
  refine a_iload (pc := 159) ok dL_act_159 rfl ?_
  refine a_isub (pc := 161) ok dL_act_161 ?_
  refine a_irem (pc := 162) ok dL_act_162 (by first | exact rg_w _ | exact rg_tw (by unfold rg; omega) (by unfold rg; omega) | omega | (unfold rg; omega) | (simp only [rg] at *; omega) | exact bz_rg _ | grind [rg]) (by first | exact rg_w _ | exact rg_tw (by unfold rg; omega) (by unfold rg; omega) | omega | (unfold rg; omega) | (simp only [rg] at *; omega) | exact bz_rg _ | grind [rg]) ?_
  refine a_iadd (pc := 163) ok dL_act_163 ?_
  refine a_iload (pc := 164) ok dL_act_164 rfl ?_
  refine a_iload (pc := 166) ok dL_act_166 rfl ?_
  refine a_iload_n (pc := 168) ok dL_act_168 rfl ?_
  refine a_sipush (pc := 169) ok dL_act_169 (by decide) ?_
  refine a_idiv (pc := 172) ok dL_act_172 (by first | exact rg_w _ | exact rg_tw (by unfold rg; omega) (by unfold rg; omega) | omega | (unfold rg; omega) | (simp only [rg] at *; omega) | exact bz_rg _ | grind [rg]) (by first | exact rg_w _ | exact rg_tw (by unfold rg; omega) (by unfold rg; omega) | omega | (unfold rg; omega) | (simp only [rg] at *; omega) | exact bz_rg _ | grind [rg]) ?_
  refine a_iload (pc := 173) ok dL_act_173 rfl ?_
  refine a_iload (pc := 175) ok dL_act_175 rfl ?_
  refine a_isub (pc := 177) ok dL_act_177 ?_
  refine a_irem (pc := 178) ok dL_act_178 (by first | exact rg_w _ | exact rg_tw (by unfold rg; omega) (by unfold rg; omega) | omega | (unfold rg; omega) | (simp only [rg] at *; omega) | exact bz_rg _ | grind [rg]) (by first | exact rg_w _ | exact rg_tw (by unfold rg; omega) (by unfold rg; omega) | omega | (unfold rg; omega) | (simp only [rg] at *; omega) | exact bz_rg _ | grind [rg]) ?_
  refine a_iadd (pc := 179) ok dL_act_179 ?_
  refine a_iload_n (pc := 180) ok dL_act_180 rfl ?_
  refine a_sipush (pc := 181) ok dL_act_181 (by decide) ?_
  refine a_idiv (pc := 184) ok dL_act_184 (by first | exact rg_w _ | exact rg_tw (by unfold rg; omega) (by unfold rg; omega) | omega | (unfold rg; omega) | (simp only [rg] at *; omega) | exact bz_rg _ | grind [rg]) (by first | exact rg_w _ | exact rg_tw (by unfold rg; omega) (by unfold rg; omega) | omega | (unfold rg; omega) | (simp only [rg] at *; omega) | exact bz_rg _ | grind [rg]) ?_
  refine a_bipush (pc := 185) ok dL_act_185 (by decide) ?_
  refine a_irem (pc := 187) ok dL_act_187 (by first | exact rg_w _ | exact rg_tw (by unfold rg; omega) (by unfold rg; omega) | omega | (unfold rg; omega) | (simp only [rg] at *; omega) | exact bz_rg _ | grind [rg]) (by first | exact rg_w _ | exact rg_tw (by unfold rg; omega) (by unfold rg; omega) | omega | (unfold rg; omega) | (simp only [rg] at *; omega) | exact bz_rg _ | grind [rg]) ?_
  refine w_o (pc := 188) ok ex dL_act_188 (ug4 209 (by decide +kernel) rfl) (ug4 210 (by decide +kernel) rfl) miL_boxes hW (T_boxes hl hA hW (x0 := x / 16 % sC (jS A)) (x1 := x / 16 % sC (jS A) + x / 16 / 64 % (sC (jS A) - x / 16 % sC (jS A))) (y0 := x / 16 / 8 % sR (jS A)) (y1 := x / 16 / 8 % sR (jS A) + x / 16 / 512 % (sR (jS A) - x / 16 / 8 % sR (jS A))) (g := x / 16 / 4096 % 100) (by unfold rg; omega) (by unfold rg; omega) (by unfold rg; omega) (by unfold rg; omega) (by unfold rg; omega)) ⟨by decide, by decide, rfl, rfl⟩ ⟨Nat.le_of_ble_eq_true rfl, Nat.le_of_ble_eq_true rfl⟩ rfl rfl (Nat.le_of_ble_eq_true rfl) ?_
  intro M hW
  refine AW.widen (kc2 := rgL_act.cells) (ks2 := rgL_act.slots) (Nat.le_of_ble_eq_true rfl) (Nat.le_of_ble_eq_true rfl) ?_
  exact a_iret (pc := 191) ok dL_act_191 (⟨rfl, hW⟩)
theorem act_4 (hl : l.stackTraces = false) (hA : VA A) (hW : WO A M) {x : Int} (hx : 0 ≤ x ∧ x < 2147483648) (q0 : x % 16 = 4) : CtV l yL_act cL_act 7 (some .int) rgL_act [.ref 0, iv x] M (po1 (tw (kBox (jS A) (x / 16 % sC (jS A)) (x / 16 % sC (jS A) + x / 16 / 64 % (sC (jS A) - x / 16 % sC (jS A))) (x / 16 / 8 % sR (jS A)) (x / 16 / 8 % sR (jS A) + x / 16 / 512 % (sR (jS A) - x / 16 / 8 % sR (jS A))) (x / 16 / 4096 % 100)) (-9999001) (-9999002) ((boxF (sC (jS A)) (x / 16 / 4096 % 100) (x / 16 % sC (jS A)) ((x / 16 % sC (jS A) + x / 16 / 64 % (sC (jS A) - x / 16 % sC (jS A))) - (x / 16 % sC (jS A)) + 1).toNat (x / 16 / 8 % sR (jS A)) ((x / 16 / 8 % sR (jS A) + x / 16 / 512 % (sR (jS A) - x / 16 / 8 % sR (jS A))) - (x / 16 / 8 % sR (jS A)) + 1).toNat (sG (jS A), 0)).2)) ((if kBox (jS A) (x / 16 % sC (jS A)) (x / 16 % sC (jS A) + x / 16 / 64 % (sC (jS A) - x / 16 % sC (jS A))) (x / 16 / 8 % sR (jS A)) (x / 16 / 8 % sR (jS A) + x / 16 / 512 % (sR (jS A) - x / 16 / 8 % sR (jS A))) (x / 16 / 4096 % 100) = 0 then jAct A (gB (jS A) (x / 16 % sC (jS A)) (x / 16 % sC (jS A) + x / 16 / 64 % (sC (jS A) - x / 16 % sC (jS A))) (x / 16 / 8 % sR (jS A)) (x / 16 / 8 % sR (jS A) + x / 16 / 512 % (sR (jS A) - x / 16 / 8 % sR (jS A))) (x / 16 / 4096 % 100)) else A))) := by
  have f := VA_d hA
  obtain ⟨f1, f2, f3, f4, f5⟩ := f
  have g1 : 0 ≤ x / 16 % sC (jS A) ∧ x / 16 % sC (jS A) < sC (jS A) := ⟨Int.emod_nonneg _ (by omega), Int.emod_lt_of_pos _ (by omega)⟩
  have g2 : 0 ≤ x / 16 / 8 % sR (jS A) ∧ x / 16 / 8 % sR (jS A) < sR (jS A) := ⟨Int.emod_nonneg _ (by omega), Int.emod_lt_of_pos _ (by omega)⟩
  have g3 : 0 ≤ x / 16 / 64 % (sC (jS A) - x / 16 % sC (jS A)) ∧ x / 16 / 64 % (sC (jS A) - x / 16 % sC (jS A)) < sC (jS A) - x / 16 % sC (jS A) := ⟨Int.emod_nonneg _ (by omega), Int.emod_lt_of_pos _ (by omega)⟩
  have g4 : 0 ≤ x / 16 / 512 % (sR (jS A) - x / 16 / 8 % sR (jS A)) ∧ x / 16 / 512 % (sR (jS A) - x / 16 / 8 % sR (jS A)) < sR (jS A) - x / 16 / 8 % sR (jS A) := ⟨Int.emod_nonneg _ (by omega), Int.emod_lt_of_pos _ (by omega)⟩
  refine CtV.of hl miL_act (Nat.le_of_ble_eq_true rfl) (po1_cl hW) ?_
  intro X hXl hN gk ex
  subst hXl
  have ok := gk.ok
  refine AW.cast (L2 := [some (.ref 0), some (iv x), none, none, none, none, none]) ?_ rfl rfl rfl
  refine a_iload_n (pc := 0) ok dL_act_0 rfl ?_
  refine a_bipush (pc := 1) ok dL_act_1 (by decide) ?_
  refine a_idiv (pc := 3) ok dL_act_3 (by first | exact rg_w _ | exact rg_tw (by unfold rg; omega) (by unfold rg; omega) | omega | (unfold rg; omega) | (simp only [rg] at *; omega) | exact bz_rg _ | grind [rg]) (by first | exact rg_w _ | exact rg_tw (by unfold rg; omega) (by unfold rg; omega) | omega | (unfold rg; omega) | (simp only [rg] at *; omega) | exact bz_rg _ | grind [rg]) ?_
  refine a_istore_n (pc := 4) ok dL_act_4 rfl (by rw [hN]; decide) ?_
  refine a_aload_n (pc := 5) ok dL_act_5 rfl ?_
  refine a_iconst (pc := 6) ok dL_act_6 ?_
  refine a_iconst (pc := 7) ok dL_act_7 ?_
  refine a_iconst (pc := 8) ok dL_act_8 ?_
  refine a_iconst (pc := 9) ok dL_act_9 ?_
  refine v_o (pc := 10) ok ex gk.1 dL_act_10 (ug2 16 (by decide +kernel) rfl) (ug2 17 (by decide +kernel) rfl) miL_call hW (AB0 hl hA hW) ⟨by decide, by decide⟩ ⟨Nat.le_of_ble_eq_true rfl, Nat.le_of_ble_eq_true rfl⟩ rfl rfl (Nat.le_of_ble_eq_true rfl) ?_
  intro M hW
  refine a_istore_n (pc := 13) ok dL_act_13 rfl (by rw [hN]; decide) ?_
  refine a_aload_n (pc := 14) ok dL_act_14 rfl ?_
  refine a_iconst (pc := 15) ok dL_act_15 ?_
  refine a_iconst (pc := 16) ok dL_act_16 ?_
  refine a_iconst (pc := 17) ok dL_act_17 ?_
  refine a_iconst (pc := 18) ok dL_act_18 ?_
  refine v_o (pc := 19) ok ex gk.1 dL_act_19 (ug2 16 (by decide +kernel) rfl) (ug2 17 (by decide +kernel) rfl) miL_call hW (AB1 hl hA hW) ⟨by decide, by decide⟩ ⟨Nat.le_of_ble_eq_true rfl, Nat.le_of_ble_eq_true rfl⟩ rfl rfl (Nat.le_of_ble_eq_true rfl) ?_
  intro M hW
  refine a_istore (pc := 22) ok dL_act_22 rfl (by rw [hN]; decide) ?_
  refine a_iload_n (pc := 24) ok dL_act_24 rfl ?_
  refine a_iload_n (pc := 25) ok dL_act_25 rfl ?_
  refine a_irem (pc := 26) ok dL_act_26 (by first | exact rg_w _ | exact rg_tw (by unfold rg; omega) (by unfold rg; omega) | omega | (unfold rg; omega) | (simp only [rg] at *; omega) | exact bz_rg _ | grind [rg]) (by first | exact rg_w _ | exact rg_tw (by unfold rg; omega) (by unfold rg; omega) | omega | (unfold rg; omega) | (simp only [rg] at *; omega) | exact bz_rg _ | grind [rg]) ?_
  refine a_istore (pc := 27) ok dL_act_27 rfl (by rw [hN]; decide) ?_
  refine a_iload_n (pc := 29) ok dL_act_29 rfl ?_
  refine a_bipush (pc := 30) ok dL_act_30 (by decide) ?_
  refine a_idiv (pc := 32) ok dL_act_32 (by first | exact rg_w _ | exact rg_tw (by unfold rg; omega) (by unfold rg; omega) | omega | (unfold rg; omega) | (simp only [rg] at *; omega) | exact bz_rg _ | grind [rg]) (by first | exact rg_w _ | exact rg_tw (by unfold rg; omega) (by unfold rg; omega) | omega | (unfold rg; omega) | (simp only [rg] at *; omega) | exact bz_rg _ | grind [rg]) ?_
  refine a_iload (pc := 33) ok dL_act_33 rfl ?_
  refine a_irem (pc := 35) ok dL_act_35 (by first | exact rg_w _ | exact rg_tw (by unfold rg; omega) (by unfold rg; omega) | omega | (unfold rg; omega) | (simp only [rg] at *; omega) | exact bz_rg _ | grind [rg]) (by first | exact rg_w _ | exact rg_tw (by unfold rg; omega) (by unfold rg; omega) | omega | (unfold rg; omega) | (simp only [rg] at *; omega) | exact bz_rg _ | grind [rg]) ?_
  refine a_istore (pc := 36) ok dL_act_36 rfl (by rw [hN]; decide) ?_
  refine a_iload_n (pc := 38) ok dL_act_38 rfl ?_
  refine a_bipush (pc := 39) ok dL_act_39 (by decide) ?_
  refine a_irem (pc := 41) ok dL_act_41 (by first | exact rg_w _ | exact rg_tw (by unfold rg; omega) (by unfold rg; omega) | omega | (unfold rg; omega) | (simp only [rg] at *; omega) | exact bz_rg _ | grind [rg]) (by first | exact rg_w _ | exact rg_tw (by unfold rg; omega) (by unfold rg; omega) | omega | (unfold rg; omega) | (simp only [rg] at *; omega) | exact bz_rg _ | grind [rg]) ?_
  refine a_tableIn (pc := 42) (off := 107) (tgt := 149) ok dL_act_42 (by unfold rg; omega) (by omega) (by omega) (by rw [q0]; rfl) (by decide) ?_
  refine a_aload_n (pc := 149) ok dL_act_149 rfl ?_
  refine a_iload (pc := 150) ok dL_act_150 rfl ?_
  refine a_iload (pc := 152) ok dL_act_152 rfl ?_
  refine a_iload_n (pc := 154) ok dL_act_154 rfl ?_
  refine a_bipush (pc := 155) ok dL_act_155 (by decide) ?_
  refine a_idiv (pc := 157) ok dL_act_157 (by first | exact rg_w _ | exact rg_tw (by unfold rg; omega) (by unfold rg; omega) | omega | (unfold rg; omega) | (simp only [rg] at *; omega) | exact bz_rg _ | grind [rg]) (by first | exact rg_w _ | exact rg_tw (by unfold rg; omega) (by unfold rg; omega) | omega | (unfold rg; omega) | (simp only [rg] at *; omega) | exact bz_rg _ | grind [rg]) ?_
  refine a_iload_n (pc := 158) ok dL_act_158 rfl ?_
  refine a_iload (pc := 159) ok dL_act_159 rfl ?_
  refine a_isub (pc := 161) ok dL_act_161 ?_
  refine a_irem (pc := 162) ok dL_act_162 (by first | exact rg_w _ | exact rg_tw (by unfold rg; omega) (by unfold rg; omega) | omega | (unfold rg; omega) | (simp only [rg] at *; omega) | exact bz_rg _ | grind [rg]) (by first | exact rg_w _ | exact rg_tw (by unfold rg; omega) (by unfold rg; omega) | omega | (unfold rg; omega) | (simp only [rg] at *; omega) | exact bz_rg _ | grind [rg]) ?_
  refine a_iadd (pc := 163) ok dL_act_163 ?_
  refine a_iload (pc := 164) ok dL_act_164 rfl ?_
  refine a_iload (pc := 166) ok dL_act_166 rfl ?_
  refine a_iload_n (pc := 168) ok dL_act_168 rfl ?_
  refine a_sipush (pc := 169) ok dL_act_169 (by decide) ?_
  refine a_idiv (pc := 172) ok dL_act_172 (by first | exact rg_w _ | exact rg_tw (by unfold rg; omega) (by unfold rg; omega) | omega | (unfold rg; omega) | (simp only [rg] at *; omega) | exact bz_rg _ | grind [rg]) (by first | exact rg_w _ | exact rg_tw (by unfold rg; omega) (by unfold rg; omega) | omega | (unfold rg; omega) | (simp only [rg] at *; omega) | exact bz_rg _ | grind [rg]) ?_
  refine a_iload (pc := 173) ok dL_act_173 rfl ?_
  refine a_iload (pc := 175) ok dL_act_175 rfl ?_
  refine a_isub (pc := 177) ok dL_act_177 ?_
  refine a_irem (pc := 178) ok dL_act_178 (by first | exact rg_w _ | exact rg_tw (by unfold rg; omega) (by unfold rg; omega) | omega | (unfold rg; omega) | (simp only [rg] at *; omega) | exact bz_rg _ | grind [rg]) (by first | exact rg_w _ | exact rg_tw (by unfold rg; omega) (by unfold rg; omega) | omega | (unfold rg; omega) | (simp only [rg] at *; omega) | exact bz_rg _ | grind [rg]) ?_
  refine a_iadd (pc := 179) ok dL_act_179 ?_
  refine a_iload_n (pc := 180) ok dL_act_180 rfl ?_
  refine a_sipush (pc := 181) ok dL_act_181 (by decide) ?_
  refine a_idiv (pc := 184) ok dL_act_184 (by first | exact rg_w _ | exact rg_tw (by unfold rg; omega) (by unfold rg; omega) | omega | (unfold rg; omega) | (simp only [rg] at *; omega) | exact bz_rg _ | grind [rg]) (by first | exact rg_w _ | exact rg_tw (by unfold rg; omega) (by unfold rg; omega) | omega | (unfold rg; omega) | (simp only [rg] at *; omega) | exact bz_rg _ | grind [rg]) ?_
  refine a_bipush (pc := 185) ok dL_act_185 (by decide) ?_
  refine a_irem (pc := 187) ok dL_act_187 (by first | exact rg_w _ | exact rg_tw (by unfold rg; omega) (by unfold rg; omega) | omega | (unfold rg; omega) | (simp only [rg] at *; omega) | exact bz_rg _ | grind [rg]) (by first | exact rg_w _ | exact rg_tw (by unfold rg; omega) (by unfold rg; omega) | omega | (unfold rg; omega) | (simp only [rg] at *; omega) | exact bz_rg _ | grind [rg]) ?_
  refine w_o (pc := 188) ok ex dL_act_188 (ug4 209 (by decide +kernel) rfl) (ug4 210 (by decide +kernel) rfl) miL_boxes hW (T_boxes hl hA hW (x0 := x / 16 % sC (jS A)) (x1 := x / 16 % sC (jS A) + x / 16 / 64 % (sC (jS A) - x / 16 % sC (jS A))) (y0 := x / 16 / 8 % sR (jS A)) (y1 := x / 16 / 8 % sR (jS A) + x / 16 / 512 % (sR (jS A) - x / 16 / 8 % sR (jS A))) (g := x / 16 / 4096 % 100) (by unfold rg; omega) (by unfold rg; omega) (by unfold rg; omega) (by unfold rg; omega) (by unfold rg; omega)) ⟨by decide, by decide, rfl, rfl⟩ ⟨Nat.le_of_ble_eq_true rfl, Nat.le_of_ble_eq_true rfl⟩ rfl rfl (Nat.le_of_ble_eq_true rfl) ?_
  intro M hW
  refine AW.widen (kc2 := rgL_act.cells) (ks2 := rgL_act.slots) (Nat.le_of_ble_eq_true rfl) (Nat.le_of_ble_eq_true rfl) ?_
  exact a_iret (pc := 191) ok dL_act_191 (⟨rfl, hW⟩)
theorem act_5 (hl : l.stackTraces = false) (hA : VA A) (hW : WO A M) {x : Int} (hx : 0 ≤ x ∧ x < 2147483648) (q0 : x % 16 = 5) : CtV l yL_act cL_act 7 (some .int) rgL_act [.ref 0, iv x] M (po1 (tw (kBox (jS A) (x / 16 % sC (jS A)) (x / 16 % sC (jS A) + x / 16 / 64 % (sC (jS A) - x / 16 % sC (jS A))) (x / 16 / 8 % sR (jS A)) (x / 16 / 8 % sR (jS A) + x / 16 / 512 % (sR (jS A) - x / 16 / 8 % sR (jS A))) (x / 16 / 4096 % 100)) (-9999001) (-9999002) ((boxF (sC (jS A)) (x / 16 / 4096 % 100) (x / 16 % sC (jS A)) ((x / 16 % sC (jS A) + x / 16 / 64 % (sC (jS A) - x / 16 % sC (jS A))) - (x / 16 % sC (jS A)) + 1).toNat (x / 16 / 8 % sR (jS A)) ((x / 16 / 8 % sR (jS A) + x / 16 / 512 % (sR (jS A) - x / 16 / 8 % sR (jS A))) - (x / 16 / 8 % sR (jS A)) + 1).toNat (sG (jS A), 0)).2)) ((if kBox (jS A) (x / 16 % sC (jS A)) (x / 16 % sC (jS A) + x / 16 / 64 % (sC (jS A) - x / 16 % sC (jS A))) (x / 16 / 8 % sR (jS A)) (x / 16 / 8 % sR (jS A) + x / 16 / 512 % (sR (jS A) - x / 16 / 8 % sR (jS A))) (x / 16 / 4096 % 100) = 0 then jAct A (gB (jS A) (x / 16 % sC (jS A)) (x / 16 % sC (jS A) + x / 16 / 64 % (sC (jS A) - x / 16 % sC (jS A))) (x / 16 / 8 % sR (jS A)) (x / 16 / 8 % sR (jS A) + x / 16 / 512 % (sR (jS A) - x / 16 / 8 % sR (jS A))) (x / 16 / 4096 % 100)) else A))) := by
  have f := VA_d hA
  obtain ⟨f1, f2, f3, f4, f5⟩ := f
  have g1 : 0 ≤ x / 16 % sC (jS A) ∧ x / 16 % sC (jS A) < sC (jS A) := ⟨Int.emod_nonneg _ (by omega), Int.emod_lt_of_pos _ (by omega)⟩
  have g2 : 0 ≤ x / 16 / 8 % sR (jS A) ∧ x / 16 / 8 % sR (jS A) < sR (jS A) := ⟨Int.emod_nonneg _ (by omega), Int.emod_lt_of_pos _ (by omega)⟩
  have g3 : 0 ≤ x / 16 / 64 % (sC (jS A) - x / 16 % sC (jS A)) ∧ x / 16 / 64 % (sC (jS A) - x / 16 % sC (jS A)) < sC (jS A) - x / 16 % sC (jS A) := ⟨Int.emod_nonneg _ (by omega), Int.emod_lt_of_pos _ (by omega)⟩
  have g4 : 0 ≤ x / 16 / 512 % (sR (jS A) - x / 16 / 8 % sR (jS A)) ∧ x / 16 / 512 % (sR (jS A) - x / 16 / 8 % sR (jS A)) < sR (jS A) - x / 16 / 8 % sR (jS A) := ⟨Int.emod_nonneg _ (by omega), Int.emod_lt_of_pos _ (by omega)⟩
  refine CtV.of hl miL_act (Nat.le_of_ble_eq_true rfl) (po1_cl hW) ?_
  intro X hXl hN gk ex
  subst hXl
  have ok := gk.ok
  refine AW.cast (L2 := [some (.ref 0), some (iv x), none, none, none, none, none]) ?_ rfl rfl rfl
  refine a_iload_n (pc := 0) ok dL_act_0 rfl ?_
  refine a_bipush (pc := 1) ok dL_act_1 (by decide) ?_
  refine a_idiv (pc := 3) ok dL_act_3 (by first | exact rg_w _ | exact rg_tw (by unfold rg; omega) (by unfold rg; omega) | omega | (unfold rg; omega) | (simp only [rg] at *; omega) | exact bz_rg _ | grind [rg]) (by first | exact rg_w _ | exact rg_tw (by unfold rg; omega) (by unfold rg; omega) | omega | (unfold rg; omega) | (simp only [rg] at *; omega) | exact bz_rg _ | grind [rg]) ?_
  refine a_istore_n (pc := 4) ok dL_act_4 rfl (by rw [hN]; decide) ?_
  refine a_aload_n (pc := 5) ok dL_act_5 rfl ?_
  refine a_iconst (pc := 6) ok dL_act_6 ?_
  refine a_iconst (pc := 7) ok dL_act_7 ?_
  refine a_iconst (pc := 8) ok dL_act_8 ?_
  refine a_iconst (pc := 9) ok dL_act_9 ?_
  refine v_o (pc := 10) ok ex gk.1 dL_act_10 (ug2 16 (by decide +kernel) rfl) (ug2 17 (by decide +kernel) rfl) miL_call hW (AB0 hl hA hW) ⟨by decide, by decide⟩ ⟨Nat.le_of_ble_eq_true rfl, Nat.le_of_ble_eq_true rfl⟩ rfl rfl (Nat.le_of_ble_eq_true rfl) ?_
  intro M hW
  refine a_istore_n (pc := 13) ok dL_act_13 rfl (by rw [hN]; decide) ?_
  refine a_aload_n (pc := 14) ok dL_act_14 rfl ?_
  refine a_iconst (pc := 15) ok dL_act_15 ?_
  refine a_iconst (pc := 16) ok dL_act_16 ?_
  refine a_iconst (pc := 17) ok dL_act_17 ?_
  refine a_iconst (pc := 18) ok dL_act_18 ?_
  refine v_o (pc := 19) ok ex gk.1 dL_act_19 (ug2 16 (by decide +kernel) rfl) (ug2 17 (by decide +kernel) rfl) miL_call hW (AB1 hl hA hW) ⟨by decide, by decide⟩ ⟨Nat.le_of_ble_eq_true rfl, Nat.le_of_ble_eq_true rfl⟩ rfl rfl (Nat.le_of_ble_eq_true rfl) ?_
  intro M hW
  refine a_istore (pc := 22) ok dL_act_22 rfl (by rw [hN]; decide) ?_
  refine a_iload_n (pc := 24) ok dL_act_24 rfl ?_
  refine a_iload_n (pc := 25) ok dL_act_25 rfl ?_
  refine a_irem (pc := 26) ok dL_act_26 (by first | exact rg_w _ | exact rg_tw (by unfold rg; omega) (by unfold rg; omega) | omega | (unfold rg; omega) | (simp only [rg] at *; omega) | exact bz_rg _ | grind [rg]) (by first | exact rg_w _ | exact rg_tw (by unfold rg; omega) (by unfold rg; omega) | omega | (unfold rg; omega) | (simp only [rg] at *; omega) | exact bz_rg _ | grind [rg]) ?_
  refine a_istore (pc := 27) ok dL_act_27 rfl (by rw [hN]; decide) ?_
  refine a_iload_n (pc := 29) ok dL_act_29 rfl ?_
  refine a_bipush (pc := 30) ok dL_act_30 (by decide) ?_
  refine a_idiv (pc := 32) ok dL_act_32 (by first | exact rg_w _ | exact rg_tw (by unfold rg; omega) (by unfold rg; omega) | omega | (unfold rg; omega) | (simp only [rg] at *; omega) | exact bz_rg _ | grind [rg]) (by first | exact rg_w _ | exact rg_tw (by unfold rg; omega) (by unfold rg; omega) | omega | (unfold rg; omega) | (simp only [rg] at *; omega) | exact bz_rg _ | grind [rg]) ?_
  refine a_iload (pc := 33) ok dL_act_33 rfl ?_
  refine a_irem (pc := 35) ok dL_act_35 (by first | exact rg_w _ | exact rg_tw (by unfold rg; omega) (by unfold rg; omega) | omega | (unfold rg; omega) | (simp only [rg] at *; omega) | exact bz_rg _ | grind [rg]) (by first | exact rg_w _ | exact rg_tw (by unfold rg; omega) (by unfold rg; omega) | omega | (unfold rg; omega) | (simp only [rg] at *; omega) | exact bz_rg _ | grind [rg]) ?_
  refine a_istore (pc := 36) ok dL_act_36 rfl (by rw [hN]; decide) ?_
  refine a_iload_n (pc := 38) ok dL_act_38 rfl ?_
  refine a_bipush (pc := 39) ok dL_act_39 (by decide) ?_
  refine a_irem (pc := 41) ok dL_act_41 (by first | exact rg_w _ | exact rg_tw (by unfold rg; omega) (by unfold rg; omega) | omega | (unfold rg; omega) | (simp only [rg] at *; omega) | exact bz_rg _ | grind [rg]) (by first | exact rg_w _ | exact rg_tw (by unfold rg; omega) (by unfold rg; omega) | omega | (unfold rg; omega) | (simp only [rg] at *; omega) | exact bz_rg _ | grind [rg]) ?_
  refine a_tableIn (pc := 42) (off := 107) (tgt := 149) ok dL_act_42 (by unfold rg; omega) (by omega) (by omega) (by rw [q0]; rfl) (by decide) ?_
  refine a_aload_n (pc := 149) ok dL_act_149 rfl ?_
  refine a_iload (pc := 150) ok dL_act_150 rfl ?_
  refine a_iload (pc := 152) ok dL_act_152 rfl ?_
  refine a_iload_n (pc := 154) ok dL_act_154 rfl ?_
  refine a_bipush (pc := 155) ok dL_act_155 (by decide) ?_
  refine a_idiv (pc := 157) ok dL_act_157 (by first | exact rg_w _ | exact rg_tw (by unfold rg; omega) (by unfold rg; omega) | omega | (unfold rg; omega) | (simp only [rg] at *; omega) | exact bz_rg _ | grind [rg]) (by first | exact rg_w _ | exact rg_tw (by unfold rg; omega) (by unfold rg; omega) | omega | (unfold rg; omega) | (simp only [rg] at *; omega) | exact bz_rg _ | grind [rg]) ?_
  refine a_iload_n (pc := 158) ok dL_act_158 rfl ?_
  refine a_iload (pc := 159) ok dL_act_159 rfl ?_
  refine a_isub (pc := 161) ok dL_act_161 ?_
  refine a_irem (pc := 162) ok dL_act_162 (by first | exact rg_w _ | exact rg_tw (by unfold rg; omega) (by unfold rg; omega) | omega | (unfold rg; omega) | (simp only [rg] at *; omega) | exact bz_rg _ | grind [rg]) (by first | exact rg_w _ | exact rg_tw (by unfold rg; omega) (by unfold rg; omega) | omega | (unfold rg; omega) | (simp only [rg] at *; omega) | exact bz_rg _ | grind [rg]) ?_
  refine a_iadd (pc := 163) ok dL_act_163 ?_
  refine a_iload (pc := 164) ok dL_act_164 rfl ?_
  refine a_iload (pc := 166) ok dL_act_166 rfl ?_
  refine a_iload_n (pc := 168) ok dL_act_168 rfl ?_
  refine a_sipush (pc := 169) ok dL_act_169 (by decide) ?_
  refine a_idiv (pc := 172) ok dL_act_172 (by first | exact rg_w _ | exact rg_tw (by unfold rg; omega) (by unfold rg; omega) | omega | (unfold rg; omega) | (simp only [rg] at *; omega) | exact bz_rg _ | grind [rg]) (by first | exact rg_w _ | exact rg_tw (by unfold rg; omega) (by unfold rg; omega) | omega | (unfold rg; omega) | (simp only [rg] at *; omega) | exact bz_rg _ | grind [rg]) ?_
  refine a_iload (pc := 173) ok dL_act_173 rfl ?_
  refine a_iload (pc := 175) ok dL_act_175 rfl ?_
  refine a_isub (pc := 177) ok dL_act_177 ?_
  refine a_irem (pc := 178) ok dL_act_178 (by first | exact rg_w _ | exact rg_tw (by unfold rg; omega) (by unfold rg; omega) | omega | (unfold rg; omega) | (simp only [rg] at *; omega) | exact bz_rg _ | grind [rg]) (by first | exact rg_w _ | exact rg_tw (by unfold rg; omega) (by unfold rg; omega) | omega | (unfold rg; omega) | (simp only [rg] at *; omega) | exact bz_rg _ | grind [rg]) ?_
  refine a_iadd (pc := 179) ok dL_act_179 ?_
  refine a_iload_n (pc := 180) ok dL_act_180 rfl ?_
  refine a_sipush (pc := 181) ok dL_act_181 (by decide) ?_
  refine a_idiv (pc := 184) ok dL_act_184 (by first | exact rg_w _ | exact rg_tw (by unfold rg; omega) (by unfold rg; omega) | omega | (unfold rg; omega) | (simp only [rg] at *; omega) | exact bz_rg _ | grind [rg]) (by first | exact rg_w _ | exact rg_tw (by unfold rg; omega) (by unfold rg; omega) | omega | (unfold rg; omega) | (simp only [rg] at *; omega) | exact bz_rg _ | grind [rg]) ?_
  refine a_bipush (pc := 185) ok dL_act_185 (by decide) ?_
  refine a_irem (pc := 187) ok dL_act_187 (by first | exact rg_w _ | exact rg_tw (by unfold rg; omega) (by unfold rg; omega) | omega | (unfold rg; omega) | (simp only [rg] at *; omega) | exact bz_rg _ | grind [rg]) (by first | exact rg_w _ | exact rg_tw (by unfold rg; omega) (by unfold rg; omega) | omega | (unfold rg; omega) | (simp only [rg] at *; omega) | exact bz_rg _ | grind [rg]) ?_
  refine w_o (pc := 188) ok ex dL_act_188 (ug4 209 (by decide +kernel) rfl) (ug4 210 (by decide +kernel) rfl) miL_boxes hW (T_boxes hl hA hW (x0 := x / 16 % sC (jS A)) (x1 := x / 16 % sC (jS A) + x / 16 / 64 % (sC (jS A) - x / 16 % sC (jS A))) (y0 := x / 16 / 8 % sR (jS A)) (y1 := x / 16 / 8 % sR (jS A) + x / 16 / 512 % (sR (jS A) - x / 16 / 8 % sR (jS A))) (g := x / 16 / 4096 % 100) (by unfold rg; omega) (by unfold rg; omega) (by unfold rg; omega) (by unfold rg; omega) (by unfold rg; omega)) ⟨by decide, by decide, rfl, rfl⟩ ⟨Nat.le_of_ble_eq_true rfl, Nat.le_of_ble_eq_true rfl⟩ rfl rfl (Nat.le_of_ble_eq_true rfl) ?_
  intro M hW
  refine AW.widen (kc2 := rgL_act.cells) (ks2 := rgL_act.slots) (Nat.le_of_ble_eq_true rfl) (Nat.le_of_ble_eq_true rfl) ?_
  exact a_iret (pc := 191) ok dL_act_191 (⟨rfl, hW⟩)
theorem act_6a (hl : l.stackTraces = false) (hA : VA A) (hW : WO A M) {x : Int} (hx : 0 ≤ x ∧ x < 2147483648) (q0 : x % 16 = 6) (q1 : 0 < x / 16 / 99 % 3) : CtV l yL_act cL_act 7 (some .int) rgL_act [.ref 0, iv x] M (po1 (tw (kPart (jS A) (1 + x / 16 % 99) (1)) (-9999002) (-9999003) ((chN (sN (jS A)) (1) : Int))) ((if kPart (jS A) (1 + x / 16 % 99) (1) = 0 then jAct A (gT (jS A) (1 + x / 16 % 99) (1)) else A))) := by
  have f := VA_d hA
  obtain ⟨f1, f2, f3, f4, f5⟩ := f
  have g1 : 0 ≤ x / 16 % sC (jS A) ∧ x / 16 % sC (jS A) < sC (jS A) := ⟨Int.emod_nonneg _ (by omega), Int.emod_lt_of_pos _ (by omega)⟩
  have g2 : 0 ≤ x / 16 / 8 % sR (jS A) ∧ x / 16 / 8 % sR (jS A) < sR (jS A) := ⟨Int.emod_nonneg _ (by omega), Int.emod_lt_of_pos _ (by omega)⟩
  refine CtV.of hl miL_act (Nat.le_of_ble_eq_true rfl) (po1_cl hW) ?_
  intro X hXl hN gk ex
  subst hXl
  have ok := gk.ok
  refine AW.cast (L2 := [some (.ref 0), some (iv x), none, none, none, none, none]) ?_ rfl rfl rfl
  refine a_iload_n (pc := 0) ok dL_act_0 rfl ?_
  refine a_bipush (pc := 1) ok dL_act_1 (by decide) ?_
  refine a_idiv (pc := 3) ok dL_act_3 (by first | exact rg_w _ | exact rg_tw (by unfold rg; omega) (by unfold rg; omega) | omega | (unfold rg; omega) | (simp only [rg] at *; omega) | exact bz_rg _ | grind [rg]) (by first | exact rg_w _ | exact rg_tw (by unfold rg; omega) (by unfold rg; omega) | omega | (unfold rg; omega) | (simp only [rg] at *; omega) | exact bz_rg _ | grind [rg]) ?_
  refine a_istore_n (pc := 4) ok dL_act_4 rfl (by rw [hN]; decide) ?_
  refine a_aload_n (pc := 5) ok dL_act_5 rfl ?_
  refine a_iconst (pc := 6) ok dL_act_6 ?_
  refine a_iconst (pc := 7) ok dL_act_7 ?_
  refine a_iconst (pc := 8) ok dL_act_8 ?_
  refine a_iconst (pc := 9) ok dL_act_9 ?_
  refine v_o (pc := 10) ok ex gk.1 dL_act_10 (ug2 16 (by decide +kernel) rfl) (ug2 17 (by decide +kernel) rfl) miL_call hW (AB0 hl hA hW) ⟨by decide, by decide⟩ ⟨Nat.le_of_ble_eq_true rfl, Nat.le_of_ble_eq_true rfl⟩ rfl rfl (Nat.le_of_ble_eq_true rfl) ?_
  intro M hW
  refine a_istore_n (pc := 13) ok dL_act_13 rfl (by rw [hN]; decide) ?_
  refine a_aload_n (pc := 14) ok dL_act_14 rfl ?_
  refine a_iconst (pc := 15) ok dL_act_15 ?_
  refine a_iconst (pc := 16) ok dL_act_16 ?_
  refine a_iconst (pc := 17) ok dL_act_17 ?_
  refine a_iconst (pc := 18) ok dL_act_18 ?_
  refine v_o (pc := 19) ok ex gk.1 dL_act_19 (ug2 16 (by decide +kernel) rfl) (ug2 17 (by decide +kernel) rfl) miL_call hW (AB1 hl hA hW) ⟨by decide, by decide⟩ ⟨Nat.le_of_ble_eq_true rfl, Nat.le_of_ble_eq_true rfl⟩ rfl rfl (Nat.le_of_ble_eq_true rfl) ?_
  intro M hW
  refine a_istore (pc := 22) ok dL_act_22 rfl (by rw [hN]; decide) ?_
  refine a_iload_n (pc := 24) ok dL_act_24 rfl ?_
  refine a_iload_n (pc := 25) ok dL_act_25 rfl ?_
  refine a_irem (pc := 26) ok dL_act_26 (by first | exact rg_w _ | exact rg_tw (by unfold rg; omega) (by unfold rg; omega) | omega | (unfold rg; omega) | (simp only [rg] at *; omega) | exact bz_rg _ | grind [rg]) (by first | exact rg_w _ | exact rg_tw (by unfold rg; omega) (by unfold rg; omega) | omega | (unfold rg; omega) | (simp only [rg] at *; omega) | exact bz_rg _ | grind [rg]) ?_
  refine a_istore (pc := 27) ok dL_act_27 rfl (by rw [hN]; decide) ?_
  refine a_iload_n (pc := 29) ok dL_act_29 rfl ?_
  refine a_bipush (pc := 30) ok dL_act_30 (by decide) ?_
  refine a_idiv (pc := 32) ok dL_act_32 (by first | exact rg_w _ | exact rg_tw (by unfold rg; omega) (by unfold rg; omega) | omega | (unfold rg; omega) | (simp only [rg] at *; omega) | exact bz_rg _ | grind [rg]) (by first | exact rg_w _ | exact rg_tw (by unfold rg; omega) (by unfold rg; omega) | omega | (unfold rg; omega) | (simp only [rg] at *; omega) | exact bz_rg _ | grind [rg]) ?_
  refine a_iload (pc := 33) ok dL_act_33 rfl ?_
  refine a_irem (pc := 35) ok dL_act_35 (by first | exact rg_w _ | exact rg_tw (by unfold rg; omega) (by unfold rg; omega) | omega | (unfold rg; omega) | (simp only [rg] at *; omega) | exact bz_rg _ | grind [rg]) (by first | exact rg_w _ | exact rg_tw (by unfold rg; omega) (by unfold rg; omega) | omega | (unfold rg; omega) | (simp only [rg] at *; omega) | exact bz_rg _ | grind [rg]) ?_
  refine a_istore (pc := 36) ok dL_act_36 rfl (by rw [hN]; decide) ?_
  refine a_iload_n (pc := 38) ok dL_act_38 rfl ?_
  refine a_bipush (pc := 39) ok dL_act_39 (by decide) ?_
  refine a_irem (pc := 41) ok dL_act_41 (by first | exact rg_w _ | exact rg_tw (by unfold rg; omega) (by unfold rg; omega) | omega | (unfold rg; omega) | (simp only [rg] at *; omega) | exact bz_rg _ | grind [rg]) (by first | exact rg_w _ | exact rg_tw (by unfold rg; omega) (by unfold rg; omega) | omega | (unfold rg; omega) | (simp only [rg] at *; omega) | exact bz_rg _ | grind [rg]) ?_
  refine a_tableIn (pc := 42) (off := 150) (tgt := 192) ok dL_act_42 (by unfold rg; omega) (by omega) (by omega) (by rw [q0]; rfl) (by decide) ?_
  refine a_aload_n (pc := 192) ok dL_act_192 rfl ?_
  refine a_iconst (pc := 193) ok dL_act_193 ?_
  refine a_iload_n (pc := 194) ok dL_act_194 rfl ?_
  refine a_bipush (pc := 195) ok dL_act_195 (by decide) ?_
  refine a_irem (pc := 197) ok dL_act_197 (by first | exact rg_w _ | exact rg_tw (by unfold rg; omega) (by unfold rg; omega) | omega | (unfold rg; omega) | (simp only [rg] at *; omega) | exact bz_rg _ | grind [rg]) (by first | exact rg_w _ | exact rg_tw (by unfold rg; omega) (by unfold rg; omega) | omega | (unfold rg; omega) | (simp only [rg] at *; omega) | exact bz_rg _ | grind [rg]) ?_
  refine a_iadd (pc := 198) ok dL_act_198 ?_
  refine a_iload_n (pc := 199) ok dL_act_199 rfl ?_
  refine a_bipush (pc := 200) ok dL_act_200 (by decide) ?_
  refine a_idiv (pc := 202) ok dL_act_202 (by first | exact rg_w _ | exact rg_tw (by unfold rg; omega) (by unfold rg; omega) | omega | (unfold rg; omega) | (simp only [rg] at *; omega) | exact bz_rg _ | grind [rg]) (by first | exact rg_w _ | exact rg_tw (by unfold rg; omega) (by unfold rg; omega) | omega | (unfold rg; omega) | (simp only [rg] at *; omega) | exact bz_rg _ | grind [rg]) ?_
  refine a_iconst (pc := 203) ok dL_act_203 ?_
  refine a_irem (pc := 204) ok dL_act_204 (by first | exact rg_w _ | exact rg_tw (by unfold rg; omega) (by unfold rg; omega) | omega | (unfold rg; omega) | (simp only [rg] at *; omega) | exact bz_rg _ | grind [rg]) (by first | exact rg_w _ | exact rg_tw (by unfold rg; omega) (by unfold rg; omega) | omega | (unfold rg; omega) | (simp only [rg] at *; omega) | exact bz_rg _ | grind [rg]) ?_
  refine a_if_le (pc := 205) (tgt := 212) ok dL_act_205 (by decide) (by first | exact rg_w _ | exact rg_tw (by unfold rg; omega) (by unfold rg; omega) | omega | (unfold rg; omega) | (simp only [rg] at *; omega) | exact bz_rg _ | grind [rg]) (fun c205 => ?_) (fun c205 => ?_)
  · exfalso; first | omega | grind
  · refine a_iconst (pc := 208) ok dL_act_208 ?_
    refine a_goto (pc := 209) (tgt := 213) ok dL_act_209 (by decide) ?_
    refine w_o (pc := 213) ok ex dL_act_213 (ug4 218 (by decide +kernel) rfl) (ug4 219 (by decide +kernel) rfl) miL_parts hW (T_parts hl hA hW (v := 1 + x / 16 % 99) (b := 1) (by unfold rg; omega) (by unfold rg; omega)) ⟨by decide, by decide, rfl, rfl⟩ ⟨Nat.le_of_ble_eq_true rfl, Nat.le_of_ble_eq_true rfl⟩ rfl rfl (Nat.le_of_ble_eq_true rfl) ?_
    intro M hW
    refine AW.widen (kc2 := rgL_act.cells) (ks2 := rgL_act.slots) (Nat.le_of_ble_eq_true rfl) (Nat.le_of_ble_eq_true rfl) ?_
    exact a_iret (pc := 216) ok dL_act_216 (⟨rfl, hW⟩)
theorem act_6b (hl : l.stackTraces = false) (hA : VA A) (hW : WO A M) {x : Int} (hx : 0 ≤ x ∧ x < 2147483648) (q0 : x % 16 = 6) (q1 : x / 16 / 99 % 3 = 0) : CtV l yL_act cL_act 7 (some .int) rgL_act [.ref 0, iv x] M (po1 (tw (kPart (jS A) (1 + x / 16 % 99) (0)) (-9999002) (-9999003) ((chN (sN (jS A)) (0) : Int))) ((if kPart (jS A) (1 + x / 16 % 99) (0) = 0 then jAct A (gT (jS A) (1 + x / 16 % 99) (0)) else A))) := by
  have f := VA_d hA
  obtain ⟨f1, f2, f3, f4, f5⟩ := f
  have g1 : 0 ≤ x / 16 % sC (jS A) ∧ x / 16 % sC (jS A) < sC (jS A) := ⟨Int.emod_nonneg _ (by omega), Int.emod_lt_of_pos _ (by omega)⟩
  have g2 : 0 ≤ x / 16 / 8 % sR (jS A) ∧ x / 16 / 8 % sR (jS A) < sR (jS A) := ⟨Int.emod_nonneg _ (by omega), Int.emod_lt_of_pos _ (by omega)⟩
  refine CtV.of hl miL_act (Nat.le_of_ble_eq_true rfl) (po1_cl hW) ?_
  intro X hXl hN gk ex
  subst hXl
  have ok := gk.ok
  refine AW.cast (L2 := [some (.ref 0), some (iv x), none, none, none, none, none]) ?_ rfl rfl rfl
  refine a_iload_n (pc := 0) ok dL_act_0 rfl ?_
  refine a_bipush (pc := 1) ok dL_act_1 (by decide) ?_
  refine a_idiv (pc := 3) ok dL_act_3 (by first | exact rg_w _ | exact rg_tw (by unfold rg; omega) (by unfold rg; omega) | omega | (unfold rg; omega) | (simp only [rg] at *; omega) | exact bz_rg _ | grind [rg]) (by first | exact rg_w _ | exact rg_tw (by unfold rg; omega) (by unfold rg; omega) | omega | (unfold rg; omega) | (simp only [rg] at *; omega) | exact bz_rg _ | grind [rg]) ?_
  refine a_istore_n (pc := 4) ok dL_act_4 rfl (by rw [hN]; decide) ?_
  refine a_aload_n (pc := 5) ok dL_act_5 rfl ?_
  refine a_iconst (pc := 6) ok dL_act_6 ?_
  refine a_iconst (pc := 7) ok dL_act_7 ?_
  refine a_iconst (pc := 8) ok dL_act_8 ?_
  refine a_iconst (pc := 9) ok dL_act_9 ?_
  refine v_o (pc := 10) ok ex gk.1 dL_act_10 (ug2 16 (by decide +kernel) rfl) (ug2 17 (by decide +kernel) rfl) miL_call hW (AB0 hl hA hW) ⟨by decide, by decide⟩ ⟨Nat.le_of_ble_eq_true rfl, Nat.le_of_ble_eq_true rfl⟩ rfl rfl (Nat.le_of_ble_eq_true rfl) ?_
  intro M hW
  refine a_istore_n (pc := 13) ok dL_act_13 rfl (by rw [hN]; decide) ?_
  refine a_aload_n (pc := 14) ok dL_act_14 rfl ?_
  refine a_iconst (pc := 15) ok dL_act_15 ?_
  refine a_iconst (pc := 16) ok dL_act_16 ?_
  refine a_iconst (pc := 17) ok dL_act_17 ?_
  refine a_iconst (pc := 18) ok dL_act_18 ?_
  refine v_o (pc := 19) ok ex gk.1 dL_act_19 (ug2 16 (by decide +kernel) rfl) (ug2 17 (by decide +kernel) rfl) miL_call hW (AB1 hl hA hW) ⟨by decide, by decide⟩ ⟨Nat.le_of_ble_eq_true rfl, Nat.le_of_ble_eq_true rfl⟩ rfl rfl (Nat.le_of_ble_eq_true rfl) ?_
  intro M hW
  refine a_istore (pc := 22) ok dL_act_22 rfl (by rw [hN]; decide) ?_
  refine a_iload_n (pc := 24) ok dL_act_24 rfl ?_
  refine a_iload_n (pc := 25) ok dL_act_25 rfl ?_
  refine a_irem (pc := 26) ok dL_act_26 (by first | exact rg_w _ | exact rg_tw (by unfold rg; omega) (by unfold rg; omega) | omega | (unfold rg; omega) | (simp only [rg] at *; omega) | exact bz_rg _ | grind [rg]) (by first | exact rg_w _ | exact rg_tw (by unfold rg; omega) (by unfold rg; omega) | omega | (unfold rg; omega) | (simp only [rg] at *; omega) | exact bz_rg _ | grind [rg]) ?_
  refine a_istore (pc := 27) ok dL_act_27 rfl (by rw [hN]; decide) ?_
  refine a_iload_n (pc := 29) ok dL_act_29 rfl ?_
  refine a_bipush (pc := 30) ok dL_act_30 (by decide) ?_
  refine a_idiv (pc := 32) ok dL_act_32 (by first | exact rg_w _ | exact rg_tw (by unfold rg; omega) (by unfold rg; omega) | omega | (unfold rg; omega) | (simp only [rg] at *; omega) | exact bz_rg _ | grind [rg]) (by first | exact rg_w _ | exact rg_tw (by unfold rg; omega) (by unfold rg; omega) | omega | (unfold rg; omega) | (simp only [rg] at *; omega) | exact bz_rg _ | grind [rg]) ?_
  refine a_iload (pc := 33) ok dL_act_33 rfl ?_
  refine a_irem (pc := 35) ok dL_act_35 (by first | exact rg_w _ | exact rg_tw (by unfold rg; omega) (by unfold rg; omega) | omega | (unfold rg; omega) | (simp only [rg] at *; omega) | exact bz_rg _ | grind [rg]) (by first | exact rg_w _ | exact rg_tw (by unfold rg; omega) (by unfold rg; omega) | omega | (unfold rg; omega) | (simp only [rg] at *; omega) | exact bz_rg _ | grind [rg]) ?_
  refine a_istore (pc := 36) ok dL_act_36 rfl (by rw [hN]; decide) ?_
  refine a_iload_n (pc := 38) ok dL_act_38 rfl ?_
  refine a_bipush (pc := 39) ok dL_act_39 (by decide) ?_
  refine a_irem (pc := 41) ok dL_act_41 (by first | exact rg_w _ | exact rg_tw (by unfold rg; omega) (by unfold rg; omega) | omega | (unfold rg; omega) | (simp only [rg] at *; omega) | exact bz_rg _ | grind [rg]) (by first | exact rg_w _ | exact rg_tw (by unfold rg; omega) (by unfold rg; omega) | omega | (unfold rg; omega) | (simp only [rg] at *; omega) | exact bz_rg _ | grind [rg]) ?_
  refine a_tableIn (pc := 42) (off := 150) (tgt := 192) ok dL_act_42 (by unfold rg; omega) (by omega) (by omega) (by rw [q0]; rfl) (by decide) ?_
  refine a_aload_n (pc := 192) ok dL_act_192 rfl ?_
  refine a_iconst (pc := 193) ok dL_act_193 ?_
  refine a_iload_n (pc := 194) ok dL_act_194 rfl ?_
  refine a_bipush (pc := 195) ok dL_act_195 (by decide) ?_
  refine a_irem (pc := 197) ok dL_act_197 (by first | exact rg_w _ | exact rg_tw (by unfold rg; omega) (by unfold rg; omega) | omega | (unfold rg; omega) | (simp only [rg] at *; omega) | exact bz_rg _ | grind [rg]) (by first | exact rg_w _ | exact rg_tw (by unfold rg; omega) (by unfold rg; omega) | omega | (unfold rg; omega) | (simp only [rg] at *; omega) | exact bz_rg _ | grind [rg]) ?_
  refine a_iadd (pc := 198) ok dL_act_198 ?_
  refine a_iload_n (pc := 199) ok dL_act_199 rfl ?_
  refine a_bipush (pc := 200) ok dL_act_200 (by decide) ?_
  refine a_idiv (pc := 202) ok dL_act_202 (by first | exact rg_w _ | exact rg_tw (by unfold rg; omega) (by unfold rg; omega) | omega | (unfold rg; omega) | (simp only [rg] at *; omega) | exact bz_rg _ | grind [rg]) (by first | exact rg_w _ | exact rg_tw (by unfold rg; omega) (by unfold rg; omega) | omega | (unfold rg; omega) | (simp only [rg] at *; omega) | exact bz_rg _ | grind [rg]) ?_
  refine a_iconst (pc := 203) ok dL_act_203 ?_
  refine a_irem (pc := 204) ok dL_act_204 (by first | exact rg_w _ | exact rg_tw (by unfold rg; omega) (by unfold rg; omega) | omega | (unfold rg; omega) | (simp only [rg] at *; omega) | exact bz_rg _ | grind [rg]) (by first | exact rg_w _ | exact rg_tw (by unfold rg; omega) (by unfold rg; omega) | omega | (unfold rg; omega) | (simp only [rg] at *; omega) | exact bz_rg _ | grind [rg]) ?_
  refine a_if_le (pc := 205) (tgt := 212) ok dL_act_205 (by decide) (by first | exact rg_w _ | exact rg_tw (by unfold rg; omega) (by unfold rg; omega) | omega | (unfold rg; omega) | (simp only [rg] at *; omega) | exact bz_rg _ | grind [rg]) (fun c205 => ?_) (fun c205 => ?_)
  · refine a_iconst (pc := 212) ok dL_act_212 ?_
    refine w_o (pc := 213) ok ex dL_act_213 (ug4 218 (by decide +kernel) rfl) (ug4 219 (by decide +kernel) rfl) miL_parts hW (T_parts hl hA hW (v := 1 + x / 16 % 99) (b := 0) (by unfold rg; omega) (by unfold rg; omega)) ⟨by decide, by decide, rfl, rfl⟩ ⟨Nat.le_of_ble_eq_true rfl, Nat.le_of_ble_eq_true rfl⟩ rfl rfl (Nat.le_of_ble_eq_true rfl) ?_
    intro M hW
    refine AW.widen (kc2 := rgL_act.cells) (ks2 := rgL_act.slots) (Nat.le_of_ble_eq_true rfl) (Nat.le_of_ble_eq_true rfl) ?_
    exact a_iret (pc := 216) ok dL_act_216 (⟨rfl, hW⟩)
  · exfalso; first | omega | grind
theorem act_7 (hl : l.stackTraces = false) (hA : VA A) (hW : WO A M) {x : Int} (hx : 0 ≤ x ∧ x < 2147483648) (q0 : x % 16 = 7) : CtV l yL_act cL_act 7 (some .int) rgL_act [.ref 0, iv x] M (po1 (tw (kIn (1 + x / 16 % 12) 1 30) (-9999002) (-9999002) (sE (jS A))) ((if kIn (1 + x / 16 % 12) 1 30 = 0 then jAct A (setE (jS A) (1 + x / 16 % 12)) else A))) := by
  have f := VA_d hA
  obtain ⟨f1, f2, f3, f4, f5⟩ := f
  have g1 : 0 ≤ x / 16 % sC (jS A) ∧ x / 16 % sC (jS A) < sC (jS A) := ⟨Int.emod_nonneg _ (by omega), Int.emod_lt_of_pos _ (by omega)⟩
  have g2 : 0 ≤ x / 16 / 8 % sR (jS A) ∧ x / 16 / 8 % sR (jS A) < sR (jS A) := ⟨Int.emod_nonneg _ (by omega), Int.emod_lt_of_pos _ (by omega)⟩
  refine CtV.of hl miL_act (Nat.le_of_ble_eq_true rfl) (po1_cl hW) ?_
  intro X hXl hN gk ex
  subst hXl
  have ok := gk.ok
  refine AW.cast (L2 := [some (.ref 0), some (iv x), none, none, none, none, none]) ?_ rfl rfl rfl
  refine a_iload_n (pc := 0) ok dL_act_0 rfl ?_
  refine a_bipush (pc := 1) ok dL_act_1 (by decide) ?_
  refine a_idiv (pc := 3) ok dL_act_3 (by first | exact rg_w _ | exact rg_tw (by unfold rg; omega) (by unfold rg; omega) | omega | (unfold rg; omega) | (simp only [rg] at *; omega) | exact bz_rg _ | grind [rg]) (by first | exact rg_w _ | exact rg_tw (by unfold rg; omega) (by unfold rg; omega) | omega | (unfold rg; omega) | (simp only [rg] at *; omega) | exact bz_rg _ | grind [rg]) ?_
  refine a_istore_n (pc := 4) ok dL_act_4 rfl (by rw [hN]; decide) ?_
  refine a_aload_n (pc := 5) ok dL_act_5 rfl ?_
  refine a_iconst (pc := 6) ok dL_act_6 ?_
  refine a_iconst (pc := 7) ok dL_act_7 ?_
  refine a_iconst (pc := 8) ok dL_act_8 ?_
  refine a_iconst (pc := 9) ok dL_act_9 ?_
  refine v_o (pc := 10) ok ex gk.1 dL_act_10 (ug2 16 (by decide +kernel) rfl) (ug2 17 (by decide +kernel) rfl) miL_call hW (AB0 hl hA hW) ⟨by decide, by decide⟩ ⟨Nat.le_of_ble_eq_true rfl, Nat.le_of_ble_eq_true rfl⟩ rfl rfl (Nat.le_of_ble_eq_true rfl) ?_
  intro M hW
  refine a_istore_n (pc := 13) ok dL_act_13 rfl (by rw [hN]; decide) ?_
  refine a_aload_n (pc := 14) ok dL_act_14 rfl ?_
  refine a_iconst (pc := 15) ok dL_act_15 ?_
  refine a_iconst (pc := 16) ok dL_act_16 ?_
  refine a_iconst (pc := 17) ok dL_act_17 ?_
  refine a_iconst (pc := 18) ok dL_act_18 ?_
  refine v_o (pc := 19) ok ex gk.1 dL_act_19 (ug2 16 (by decide +kernel) rfl) (ug2 17 (by decide +kernel) rfl) miL_call hW (AB1 hl hA hW) ⟨by decide, by decide⟩ ⟨Nat.le_of_ble_eq_true rfl, Nat.le_of_ble_eq_true rfl⟩ rfl rfl (Nat.le_of_ble_eq_true rfl) ?_
  intro M hW
  refine a_istore (pc := 22) ok dL_act_22 rfl (by rw [hN]; decide) ?_
  refine a_iload_n (pc := 24) ok dL_act_24 rfl ?_
  refine a_iload_n (pc := 25) ok dL_act_25 rfl ?_
  refine a_irem (pc := 26) ok dL_act_26 (by first | exact rg_w _ | exact rg_tw (by unfold rg; omega) (by unfold rg; omega) | omega | (unfold rg; omega) | (simp only [rg] at *; omega) | exact bz_rg _ | grind [rg]) (by first | exact rg_w _ | exact rg_tw (by unfold rg; omega) (by unfold rg; omega) | omega | (unfold rg; omega) | (simp only [rg] at *; omega) | exact bz_rg _ | grind [rg]) ?_
  refine a_istore (pc := 27) ok dL_act_27 rfl (by rw [hN]; decide) ?_
  refine a_iload_n (pc := 29) ok dL_act_29 rfl ?_
  refine a_bipush (pc := 30) ok dL_act_30 (by decide) ?_
  refine a_idiv (pc := 32) ok dL_act_32 (by first | exact rg_w _ | exact rg_tw (by unfold rg; omega) (by unfold rg; omega) | omega | (unfold rg; omega) | (simp only [rg] at *; omega) | exact bz_rg _ | grind [rg]) (by first | exact rg_w _ | exact rg_tw (by unfold rg; omega) (by unfold rg; omega) | omega | (unfold rg; omega) | (simp only [rg] at *; omega) | exact bz_rg _ | grind [rg]) ?_
  refine a_iload (pc := 33) ok dL_act_33 rfl ?_
  refine a_irem (pc := 35) ok dL_act_35 (by first | exact rg_w _ | exact rg_tw (by unfold rg; omega) (by unfold rg; omega) | omega | (unfold rg; omega) | (simp only [rg] at *; omega) | exact bz_rg _ | grind [rg]) (by first | exact rg_w _ | exact rg_tw (by unfold rg; omega) (by unfold rg; omega) | omega | (unfold rg; omega) | (simp only [rg] at *; omega) | exact bz_rg _ | grind [rg]) ?_
  refine a_istore (pc := 36) ok dL_act_36 rfl (by rw [hN]; decide) ?_
  refine a_iload_n (pc := 38) ok dL_act_38 rfl ?_
  refine a_bipush (pc := 39) ok dL_act_39 (by decide) ?_
  refine a_irem (pc := 41) ok dL_act_41 (by first | exact rg_w _ | exact rg_tw (by unfold rg; omega) (by unfold rg; omega) | omega | (unfold rg; omega) | (simp only [rg] at *; omega) | exact bz_rg _ | grind [rg]) (by first | exact rg_w _ | exact rg_tw (by unfold rg; omega) (by unfold rg; omega) | omega | (unfold rg; omega) | (simp only [rg] at *; omega) | exact bz_rg _ | grind [rg]) ?_
  refine a_tableIn (pc := 42) (off := 175) (tgt := 217) ok dL_act_42 (by unfold rg; omega) (by omega) (by omega) (by rw [q0]; rfl) (by decide) ?_
  refine a_aload_n (pc := 217) ok dL_act_217 rfl ?_
  refine a_bipush (pc := 218) ok dL_act_218 (by decide) ?_
  refine a_iconst (pc := 220) ok dL_act_220 ?_
  refine a_iload_n (pc := 221) ok dL_act_221 rfl ?_
  refine a_bipush (pc := 222) ok dL_act_222 (by decide) ?_
  refine a_irem (pc := 224) ok dL_act_224 (by first | exact rg_w _ | exact rg_tw (by unfold rg; omega) (by unfold rg; omega) | omega | (unfold rg; omega) | (simp only [rg] at *; omega) | exact bz_rg _ | grind [rg]) (by first | exact rg_w _ | exact rg_tw (by unfold rg; omega) (by unfold rg; omega) | omega | (unfold rg; omega) | (simp only [rg] at *; omega) | exact bz_rg _ | grind [rg]) ?_
  refine a_iadd (pc := 225) ok dL_act_225 ?_
  refine a_iconst (pc := 226) ok dL_act_226 ?_
  refine a_iconst (pc := 227) ok dL_act_227 ?_
  refine v_o (pc := 228) ok ex gk.1 dL_act_228 (ug2 16 (by decide +kernel) rfl) (ug2 17 (by decide +kernel) rfl) miL_call hW (C_13 hl hA hW (v := 1 + x / 16 % 12) (u2 := 0) (u3 := 0) (by unfold rg; omega)) ⟨by decide, by decide⟩ ⟨Nat.le_of_ble_eq_true rfl, Nat.le_of_ble_eq_true rfl⟩ rfl rfl (Nat.le_of_ble_eq_true rfl) ?_
  intro M hW
  refine AW.widen (kc2 := rgL_act.cells) (ks2 := rgL_act.slots) (Nat.le_of_ble_eq_true rfl) (Nat.le_of_ble_eq_true rfl) ?_
  exact a_iret (pc := 231) ok dL_act_231 (⟨rfl, hW⟩)
theorem act_8a (hl : l.stackTraces = false) (hA : VA A) (hW : WO A M) {x : Int} (hx : 0 ≤ x ∧ x < 2147483648) (q0 : x % 16 = 8) (q1 : x / 16 % 2 = 0) : CtV l yL_act cL_act 7 (some .int) rgL_act [.ref 0, iv x] M (po1 (tw (kHatch (x / 16 / 2 % 6) (x / 16 / 12 % 10)) (-9999001) (-9999002) (sH (jS A) (x / 16 / 2 % 6))) ((if kHatch (x / 16 / 2 % 6) (x / 16 / 12 % 10) = 0 then jAct A (setH (jS A) (x / 16 / 2 % 6) (x / 16 / 12 % 10)) else A))) := by
  have f := VA_d hA
  obtain ⟨f1, f2, f3, f4, f5⟩ := f
  have g1 : 0 ≤ x / 16 % sC (jS A) ∧ x / 16 % sC (jS A) < sC (jS A) := ⟨Int.emod_nonneg _ (by omega), Int.emod_lt_of_pos _ (by omega)⟩
  have g2 : 0 ≤ x / 16 / 8 % sR (jS A) ∧ x / 16 / 8 % sR (jS A) < sR (jS A) := ⟨Int.emod_nonneg _ (by omega), Int.emod_lt_of_pos _ (by omega)⟩
  refine CtV.of hl miL_act (Nat.le_of_ble_eq_true rfl) (po1_cl hW) ?_
  intro X hXl hN gk ex
  subst hXl
  have ok := gk.ok
  refine AW.cast (L2 := [some (.ref 0), some (iv x), none, none, none, none, none]) ?_ rfl rfl rfl
  refine a_iload_n (pc := 0) ok dL_act_0 rfl ?_
  refine a_bipush (pc := 1) ok dL_act_1 (by decide) ?_
  refine a_idiv (pc := 3) ok dL_act_3 (by first | exact rg_w _ | exact rg_tw (by unfold rg; omega) (by unfold rg; omega) | omega | (unfold rg; omega) | (simp only [rg] at *; omega) | exact bz_rg _ | grind [rg]) (by first | exact rg_w _ | exact rg_tw (by unfold rg; omega) (by unfold rg; omega) | omega | (unfold rg; omega) | (simp only [rg] at *; omega) | exact bz_rg _ | grind [rg]) ?_
  refine a_istore_n (pc := 4) ok dL_act_4 rfl (by rw [hN]; decide) ?_
  refine a_aload_n (pc := 5) ok dL_act_5 rfl ?_
  refine a_iconst (pc := 6) ok dL_act_6 ?_
  refine a_iconst (pc := 7) ok dL_act_7 ?_
  refine a_iconst (pc := 8) ok dL_act_8 ?_
  refine a_iconst (pc := 9) ok dL_act_9 ?_
  refine v_o (pc := 10) ok ex gk.1 dL_act_10 (ug2 16 (by decide +kernel) rfl) (ug2 17 (by decide +kernel) rfl) miL_call hW (AB0 hl hA hW) ⟨by decide, by decide⟩ ⟨Nat.le_of_ble_eq_true rfl, Nat.le_of_ble_eq_true rfl⟩ rfl rfl (Nat.le_of_ble_eq_true rfl) ?_
  intro M hW
  refine a_istore_n (pc := 13) ok dL_act_13 rfl (by rw [hN]; decide) ?_
  refine a_aload_n (pc := 14) ok dL_act_14 rfl ?_
  refine a_iconst (pc := 15) ok dL_act_15 ?_
  refine a_iconst (pc := 16) ok dL_act_16 ?_
  refine a_iconst (pc := 17) ok dL_act_17 ?_
  refine a_iconst (pc := 18) ok dL_act_18 ?_
  refine v_o (pc := 19) ok ex gk.1 dL_act_19 (ug2 16 (by decide +kernel) rfl) (ug2 17 (by decide +kernel) rfl) miL_call hW (AB1 hl hA hW) ⟨by decide, by decide⟩ ⟨Nat.le_of_ble_eq_true rfl, Nat.le_of_ble_eq_true rfl⟩ rfl rfl (Nat.le_of_ble_eq_true rfl) ?_
  intro M hW
  refine a_istore (pc := 22) ok dL_act_22 rfl (by rw [hN]; decide) ?_
  refine a_iload_n (pc := 24) ok dL_act_24 rfl ?_
  refine a_iload_n (pc := 25) ok dL_act_25 rfl ?_
  refine a_irem (pc := 26) ok dL_act_26 (by first | exact rg_w _ | exact rg_tw (by unfold rg; omega) (by unfold rg; omega) | omega | (unfold rg; omega) | (simp only [rg] at *; omega) | exact bz_rg _ | grind [rg]) (by first | exact rg_w _ | exact rg_tw (by unfold rg; omega) (by unfold rg; omega) | omega | (unfold rg; omega) | (simp only [rg] at *; omega) | exact bz_rg _ | grind [rg]) ?_
  refine a_istore (pc := 27) ok dL_act_27 rfl (by rw [hN]; decide) ?_
  refine a_iload_n (pc := 29) ok dL_act_29 rfl ?_
  refine a_bipush (pc := 30) ok dL_act_30 (by decide) ?_
  refine a_idiv (pc := 32) ok dL_act_32 (by first | exact rg_w _ | exact rg_tw (by unfold rg; omega) (by unfold rg; omega) | omega | (unfold rg; omega) | (simp only [rg] at *; omega) | exact bz_rg _ | grind [rg]) (by first | exact rg_w _ | exact rg_tw (by unfold rg; omega) (by unfold rg; omega) | omega | (unfold rg; omega) | (simp only [rg] at *; omega) | exact bz_rg _ | grind [rg]) ?_
  refine a_iload (pc := 33) ok dL_act_33 rfl ?_
  refine a_irem (pc := 35) ok dL_act_35 (by first | exact rg_w _ | exact rg_tw (by unfold rg; omega) (by unfold rg; omega) | omega | (unfold rg; omega) | (simp only [rg] at *; omega) | exact bz_rg _ | grind [rg]) (by first | exact rg_w _ | exact rg_tw (by unfold rg; omega) (by unfold rg; omega) | omega | (unfold rg; omega) | (simp only [rg] at *; omega) | exact bz_rg _ | grind [rg]) ?_
  refine a_istore (pc := 36) ok dL_act_36 rfl (by rw [hN]; decide) ?_
  refine a_iload_n (pc := 38) ok dL_act_38 rfl ?_
  refine a_bipush (pc := 39) ok dL_act_39 (by decide) ?_
  refine a_irem (pc := 41) ok dL_act_41 (by first | exact rg_w _ | exact rg_tw (by unfold rg; omega) (by unfold rg; omega) | omega | (unfold rg; omega) | (simp only [rg] at *; omega) | exact bz_rg _ | grind [rg]) (by first | exact rg_w _ | exact rg_tw (by unfold rg; omega) (by unfold rg; omega) | omega | (unfold rg; omega) | (simp only [rg] at *; omega) | exact bz_rg _ | grind [rg]) ?_
  refine a_tableIn (pc := 42) (off := 190) (tgt := 232) ok dL_act_42 (by unfold rg; omega) (by omega) (by omega) (by rw [q0]; rfl) (by decide) ?_
  refine a_iload_n (pc := 232) ok dL_act_232 rfl ?_
  refine a_iconst (pc := 233) ok dL_act_233 ?_
  refine a_irem (pc := 234) ok dL_act_234 (by first | exact rg_w _ | exact rg_tw (by unfold rg; omega) (by unfold rg; omega) | omega | (unfold rg; omega) | (simp only [rg] at *; omega) | exact bz_rg _ | grind [rg]) (by first | exact rg_w _ | exact rg_tw (by unfold rg; omega) (by unfold rg; omega) | omega | (unfold rg; omega) | (simp only [rg] at *; omega) | exact bz_rg _ | grind [rg]) ?_
  refine a_if_ne (pc := 235) (tgt := 261) ok dL_act_235 (by decide) (by first | exact rg_w _ | exact rg_tw (by unfold rg; omega) (by unfold rg; omega) | omega | (unfold rg; omega) | (simp only [rg] at *; omega) | exact bz_rg _ | grind [rg]) (fun c235 => ?_) (fun c235 => ?_)
  · exfalso; first | omega | grind
  · refine a_aload_n (pc := 238) ok dL_act_238 rfl ?_
    refine a_bipush (pc := 239) ok dL_act_239 (by decide) ?_
    refine a_iload_n (pc := 241) ok dL_act_241 rfl ?_
    refine a_iconst (pc := 242) ok dL_act_242 ?_
    refine a_idiv (pc := 243) ok dL_act_243 (by first | exact rg_w _ | exact rg_tw (by unfold rg; omega) (by unfold rg; omega) | omega | (unfold rg; omega) | (simp only [rg] at *; omega) | exact bz_rg _ | grind [rg]) (by first | exact rg_w _ | exact rg_tw (by unfold rg; omega) (by unfold rg; omega) | omega | (unfold rg; omega) | (simp only [rg] at *; omega) | exact bz_rg _ | grind [rg]) ?_
    refine a_bipush (pc := 244) ok dL_act_244 (by decide) ?_
    refine a_irem (pc := 246) ok dL_act_246 (by first | exact rg_w _ | exact rg_tw (by unfold rg; omega) (by unfold rg; omega) | omega | (unfold rg; omega) | (simp only [rg] at *; omega) | exact bz_rg _ | grind [rg]) (by first | exact rg_w _ | exact rg_tw (by unfold rg; omega) (by unfold rg; omega) | omega | (unfold rg; omega) | (simp only [rg] at *; omega) | exact bz_rg _ | grind [rg]) ?_
    refine a_iload_n (pc := 247) ok dL_act_247 rfl ?_
    refine a_bipush (pc := 248) ok dL_act_248 (by decide) ?_
    refine a_idiv (pc := 250) ok dL_act_250 (by first | exact rg_w _ | exact rg_tw (by unfold rg; omega) (by unfold rg; omega) | omega | (unfold rg; omega) | (simp only [rg] at *; omega) | exact bz_rg _ | grind [rg]) (by first | exact rg_w _ | exact rg_tw (by unfold rg; omega) (by unfold rg; omega) | omega | (unfold rg; omega) | (simp only [rg] at *; omega) | exact bz_rg _ | grind [rg]) ?_
    refine a_bipush (pc := 251) ok dL_act_251 (by decide) ?_
    refine a_irem (pc := 253) ok dL_act_253 (by first | exact rg_w _ | exact rg_tw (by unfold rg; omega) (by unfold rg; omega) | omega | (unfold rg; omega) | (simp only [rg] at *; omega) | exact bz_rg _ | grind [rg]) (by first | exact rg_w _ | exact rg_tw (by unfold rg; omega) (by unfold rg; omega) | omega | (unfold rg; omega) | (simp only [rg] at *; omega) | exact bz_rg _ | grind [rg]) ?_
    refine a_iconst (pc := 254) ok dL_act_254 ?_
    refine v_o (pc := 255) ok ex gk.1 dL_act_255 (ug2 16 (by decide +kernel) rfl) (ug2 17 (by decide +kernel) rfl) miL_call hW (C_14 hl hA hW (b := x / 16 / 2 % 6) (v := x / 16 / 12 % 10) (u3 := 0) (by unfold rg; omega) (by unfold rg; omega)) ⟨by decide, by decide⟩ ⟨Nat.le_of_ble_eq_true rfl, Nat.le_of_ble_eq_true rfl⟩ rfl rfl (Nat.le_of_ble_eq_true rfl) ?_
    intro M hW
    refine a_goto (pc := 258) (tgt := 275) ok dL_act_258 (by decide) ?_
    refine AW.widen (kc2 := rgL_act.cells) (ks2 := rgL_act.slots) (Nat.le_of_ble_eq_true rfl) (Nat.le_of_ble_eq_true rfl) ?_
    exact a_iret (pc := 275) ok dL_act_275 (⟨rfl, hW⟩)
theorem act_8b (hl : l.stackTraces = false) (hA : VA A) (hW : WO A M) {x : Int} (hx : 0 ≤ x ∧ x < 2147483648) (q0 : x % 16 = 8) (q1 : x / 16 % 2 = 1) : CtV l yL_act cL_act 7 (some .int) rgL_act [.ref 0, iv x] M (po1 (tw (kIn (x / 16 / 2 % 10) 0 9) (-9999002) (-9999002) (sI (jS A))) ((if kIn (x / 16 / 2 % 10) 0 9 = 0 then jAct A (setI (jS A) (x / 16 / 2 % 10)) else A))) := by
  have f := VA_d hA
  obtain ⟨f1, f2, f3, f4, f5⟩ := f
  have g1 : 0 ≤ x / 16 % sC (jS A) ∧ x / 16 % sC (jS A) < sC (jS A) := ⟨Int.emod_nonneg _ (by omega), Int.emod_lt_of_pos _ (by omega)⟩
  have g2 : 0 ≤ x / 16 / 8 % sR (jS A) ∧ x / 16 / 8 % sR (jS A) < sR (jS A) := ⟨Int.emod_nonneg _ (by omega), Int.emod_lt_of_pos _ (by omega)⟩
  refine CtV.of hl miL_act (Nat.le_of_ble_eq_true rfl) (po1_cl hW) ?_
  intro X hXl hN gk ex
  subst hXl
  have ok := gk.ok
  refine AW.cast (L2 := [some (.ref 0), some (iv x), none, none, none, none, none]) ?_ rfl rfl rfl
  refine a_iload_n (pc := 0) ok dL_act_0 rfl ?_
  refine a_bipush (pc := 1) ok dL_act_1 (by decide) ?_
  refine a_idiv (pc := 3) ok dL_act_3 (by first | exact rg_w _ | exact rg_tw (by unfold rg; omega) (by unfold rg; omega) | omega | (unfold rg; omega) | (simp only [rg] at *; omega) | exact bz_rg _ | grind [rg]) (by first | exact rg_w _ | exact rg_tw (by unfold rg; omega) (by unfold rg; omega) | omega | (unfold rg; omega) | (simp only [rg] at *; omega) | exact bz_rg _ | grind [rg]) ?_
  refine a_istore_n (pc := 4) ok dL_act_4 rfl (by rw [hN]; decide) ?_
  refine a_aload_n (pc := 5) ok dL_act_5 rfl ?_
  refine a_iconst (pc := 6) ok dL_act_6 ?_
  refine a_iconst (pc := 7) ok dL_act_7 ?_
  refine a_iconst (pc := 8) ok dL_act_8 ?_
  refine a_iconst (pc := 9) ok dL_act_9 ?_
  refine v_o (pc := 10) ok ex gk.1 dL_act_10 (ug2 16 (by decide +kernel) rfl) (ug2 17 (by decide +kernel) rfl) miL_call hW (AB0 hl hA hW) ⟨by decide, by decide⟩ ⟨Nat.le_of_ble_eq_true rfl, Nat.le_of_ble_eq_true rfl⟩ rfl rfl (Nat.le_of_ble_eq_true rfl) ?_
  intro M hW
  refine a_istore_n (pc := 13) ok dL_act_13 rfl (by rw [hN]; decide) ?_
  refine a_aload_n (pc := 14) ok dL_act_14 rfl ?_
  refine a_iconst (pc := 15) ok dL_act_15 ?_
  refine a_iconst (pc := 16) ok dL_act_16 ?_
  refine a_iconst (pc := 17) ok dL_act_17 ?_
  refine a_iconst (pc := 18) ok dL_act_18 ?_
  refine v_o (pc := 19) ok ex gk.1 dL_act_19 (ug2 16 (by decide +kernel) rfl) (ug2 17 (by decide +kernel) rfl) miL_call hW (AB1 hl hA hW) ⟨by decide, by decide⟩ ⟨Nat.le_of_ble_eq_true rfl, Nat.le_of_ble_eq_true rfl⟩ rfl rfl (Nat.le_of_ble_eq_true rfl) ?_
  intro M hW
  refine a_istore (pc := 22) ok dL_act_22 rfl (by rw [hN]; decide) ?_
  refine a_iload_n (pc := 24) ok dL_act_24 rfl ?_
  refine a_iload_n (pc := 25) ok dL_act_25 rfl ?_
  refine a_irem (pc := 26) ok dL_act_26 (by first | exact rg_w _ | exact rg_tw (by unfold rg; omega) (by unfold rg; omega) | omega | (unfold rg; omega) | (simp only [rg] at *; omega) | exact bz_rg _ | grind [rg]) (by first | exact rg_w _ | exact rg_tw (by unfold rg; omega) (by unfold rg; omega) | omega | (unfold rg; omega) | (simp only [rg] at *; omega) | exact bz_rg _ | grind [rg]) ?_
  refine a_istore (pc := 27) ok dL_act_27 rfl (by rw [hN]; decide) ?_
  refine a_iload_n (pc := 29) ok dL_act_29 rfl ?_
  refine a_bipush (pc := 30) ok dL_act_30 (by decide) ?_
  refine a_idiv (pc := 32) ok dL_act_32 (by first | exact rg_w _ | exact rg_tw (by unfold rg; omega) (by unfold rg; omega) | omega | (unfold rg; omega) | (simp only [rg] at *; omega) | exact bz_rg _ | grind [rg]) (by first | exact rg_w _ | exact rg_tw (by unfold rg; omega) (by unfold rg; omega) | omega | (unfold rg; omega) | (simp only [rg] at *; omega) | exact bz_rg _ | grind [rg]) ?_
  refine a_iload (pc := 33) ok dL_act_33 rfl ?_
  refine a_irem (pc := 35) ok dL_act_35 (by first | exact rg_w _ | exact rg_tw (by unfold rg; omega) (by unfold rg; omega) | omega | (unfold rg; omega) | (simp only [rg] at *; omega) | exact bz_rg _ | grind [rg]) (by first | exact rg_w _ | exact rg_tw (by unfold rg; omega) (by unfold rg; omega) | omega | (unfold rg; omega) | (simp only [rg] at *; omega) | exact bz_rg _ | grind [rg]) ?_
  refine a_istore (pc := 36) ok dL_act_36 rfl (by rw [hN]; decide) ?_
  refine a_iload_n (pc := 38) ok dL_act_38 rfl ?_
  refine a_bipush (pc := 39) ok dL_act_39 (by decide) ?_
  refine a_irem (pc := 41) ok dL_act_41 (by first | exact rg_w _ | exact rg_tw (by unfold rg; omega) (by unfold rg; omega) | omega | (unfold rg; omega) | (simp only [rg] at *; omega) | exact bz_rg _ | grind [rg]) (by first | exact rg_w _ | exact rg_tw (by unfold rg; omega) (by unfold rg; omega) | omega | (unfold rg; omega) | (simp only [rg] at *; omega) | exact bz_rg _ | grind [rg]) ?_
  refine a_tableIn (pc := 42) (off := 190) (tgt := 232) ok dL_act_42 (by unfold rg; omega) (by omega) (by omega) (by rw [q0]; rfl) (by decide) ?_
  refine a_iload_n (pc := 232) ok dL_act_232 rfl ?_
  refine a_iconst (pc := 233) ok dL_act_233 ?_
  refine a_irem (pc := 234) ok dL_act_234 (by first | exact rg_w _ | exact rg_tw (by unfold rg; omega) (by unfold rg; omega) | omega | (unfold rg; omega) | (simp only [rg] at *; omega) | exact bz_rg _ | grind [rg]) (by first | exact rg_w _ | exact rg_tw (by unfold rg; omega) (by unfold rg; omega) | omega | (unfold rg; omega) | (simp only [rg] at *; omega) | exact bz_rg _ | grind [rg]) ?_
  refine a_if_ne (pc := 235) (tgt := 261) ok dL_act_235 (by decide) (by first | exact rg_w _ | exact rg_tw (by unfold rg; omega) (by unfold rg; omega) | omega | (unfold rg; omega) | (simp only [rg] at *; omega) | exact bz_rg _ | grind [rg]) (fun c235 => ?_) (fun c235 => ?_)
  · refine a_aload_n (pc := 261) ok dL_act_261 rfl ?_
    refine a_bipush (pc := 262) ok dL_act_262 (by decide) ?_
    refine a_iload_n (pc := 264) ok dL_act_264 rfl ?_
    refine a_iconst (pc := 265) ok dL_act_265 ?_
    refine a_idiv (pc := 266) ok dL_act_266 (by first | exact rg_w _ | exact rg_tw (by unfold rg; omega) (by unfold rg; omega) | omega | (unfold rg; omega) | (simp only [rg] at *; omega) | exact bz_rg _ | grind [rg]) (by first | exact rg_w _ | exact rg_tw (by unfold rg; omega) (by unfold rg; omega) | omega | (unfold rg; omega) | (simp only [rg] at *; omega) | exact bz_rg _ | grind [rg]) ?_
    refine a_bipush (pc := 267) ok dL_act_267 (by decide) ?_
    refine a_irem (pc := 269) ok dL_act_269 (by first | exact rg_w _ | exact rg_tw (by unfold rg; omega) (by unfold rg; omega) | omega | (unfold rg; omega) | (simp only [rg] at *; omega) | exact bz_rg _ | grind [rg]) (by first | exact rg_w _ | exact rg_tw (by unfold rg; omega) (by unfold rg; omega) | omega | (unfold rg; omega) | (simp only [rg] at *; omega) | exact bz_rg _ | grind [rg]) ?_
    refine a_iconst (pc := 270) ok dL_act_270 ?_
    refine a_iconst (pc := 271) ok dL_act_271 ?_
    refine v_o (pc := 272) ok ex gk.1 dL_act_272 (ug2 16 (by decide +kernel) rfl) (ug2 17 (by decide +kernel) rfl) miL_call hW (C_15 hl hA hW (v := x / 16 / 2 % 10) (u2 := 0) (u3 := 0) (by unfold rg; omega)) ⟨by decide, by decide⟩ ⟨Nat.le_of_ble_eq_true rfl, Nat.le_of_ble_eq_true rfl⟩ rfl rfl (Nat.le_of_ble_eq_true rfl) ?_
    intro M hW
    refine AW.widen (kc2 := rgL_act.cells) (ks2 := rgL_act.slots) (Nat.le_of_ble_eq_true rfl) (Nat.le_of_ble_eq_true rfl) ?_
    exact a_iret (pc := 275) ok dL_act_275 (⟨rfl, hW⟩)
  · exfalso; first | omega | grind
theorem act_9 (hl : l.stackTraces = false) (hA : VA A) (hW : WO A M) {x : Int} (hx : 0 ≤ x ∧ x < 2147483648) (q0 : x % 16 = 9) : CtV l yL_act cL_act 7 (some .int) rgL_act [.ref 0, iv x] M (po1 (tw (kIn (x / 16 % 6) 0 5) (-9999002) (-9999002) (((shK (sG (jS A)) (sC (jS A) * sR (jS A)).toNat (x / 16 % 6) (sT (jS A)) (x / 16 % 6).toNat).2 : Int))) ((if kIn (x / 16 % 6) 0 5 = 0 then jAct A (gH (jS A) (x / 16 % 6)) else A))) := by
  have f := VA_d hA
  obtain ⟨f1, f2, f3, f4, f5⟩ := f
  have g1 : 0 ≤ x / 16 % sC (jS A) ∧ x / 16 % sC (jS A) < sC (jS A) := ⟨Int.emod_nonneg _ (by omega), Int.emod_lt_of_pos _ (by omega)⟩
  have g2 : 0 ≤ x / 16 / 8 % sR (jS A) ∧ x / 16 / 8 % sR (jS A) < sR (jS A) := ⟨Int.emod_nonneg _ (by omega), Int.emod_lt_of_pos _ (by omega)⟩
  refine CtV.of hl miL_act (Nat.le_of_ble_eq_true rfl) (po1_cl hW) ?_
  intro X hXl hN gk ex
  subst hXl
  have ok := gk.ok
  refine AW.cast (L2 := [some (.ref 0), some (iv x), none, none, none, none, none]) ?_ rfl rfl rfl
  refine a_iload_n (pc := 0) ok dL_act_0 rfl ?_
  refine a_bipush (pc := 1) ok dL_act_1 (by decide) ?_
  refine a_idiv (pc := 3) ok dL_act_3 (by first | exact rg_w _ | exact rg_tw (by unfold rg; omega) (by unfold rg; omega) | omega | (unfold rg; omega) | (simp only [rg] at *; omega) | exact bz_rg _ | grind [rg]) (by first | exact rg_w _ | exact rg_tw (by unfold rg; omega) (by unfold rg; omega) | omega | (unfold rg; omega) | (simp only [rg] at *; omega) | exact bz_rg _ | grind [rg]) ?_
  refine a_istore_n (pc := 4) ok dL_act_4 rfl (by rw [hN]; decide) ?_
  refine a_aload_n (pc := 5) ok dL_act_5 rfl ?_
  refine a_iconst (pc := 6) ok dL_act_6 ?_
  refine a_iconst (pc := 7) ok dL_act_7 ?_
  refine a_iconst (pc := 8) ok dL_act_8 ?_
  refine a_iconst (pc := 9) ok dL_act_9 ?_
  refine v_o (pc := 10) ok ex gk.1 dL_act_10 (ug2 16 (by decide +kernel) rfl) (ug2 17 (by decide +kernel) rfl) miL_call hW (AB0 hl hA hW) ⟨by decide, by decide⟩ ⟨Nat.le_of_ble_eq_true rfl, Nat.le_of_ble_eq_true rfl⟩ rfl rfl (Nat.le_of_ble_eq_true rfl) ?_
  intro M hW
  refine a_istore_n (pc := 13) ok dL_act_13 rfl (by rw [hN]; decide) ?_
  refine a_aload_n (pc := 14) ok dL_act_14 rfl ?_
  refine a_iconst (pc := 15) ok dL_act_15 ?_
  refine a_iconst (pc := 16) ok dL_act_16 ?_
  refine a_iconst (pc := 17) ok dL_act_17 ?_
  refine a_iconst (pc := 18) ok dL_act_18 ?_
  refine v_o (pc := 19) ok ex gk.1 dL_act_19 (ug2 16 (by decide +kernel) rfl) (ug2 17 (by decide +kernel) rfl) miL_call hW (AB1 hl hA hW) ⟨by decide, by decide⟩ ⟨Nat.le_of_ble_eq_true rfl, Nat.le_of_ble_eq_true rfl⟩ rfl rfl (Nat.le_of_ble_eq_true rfl) ?_
  intro M hW
  refine a_istore (pc := 22) ok dL_act_22 rfl (by rw [hN]; decide) ?_
  refine a_iload_n (pc := 24) ok dL_act_24 rfl ?_
  refine a_iload_n (pc := 25) ok dL_act_25 rfl ?_
  refine a_irem (pc := 26) ok dL_act_26 (by first | exact rg_w _ | exact rg_tw (by unfold rg; omega) (by unfold rg; omega) | omega | (unfold rg; omega) | (simp only [rg] at *; omega) | exact bz_rg _ | grind [rg]) (by first | exact rg_w _ | exact rg_tw (by unfold rg; omega) (by unfold rg; omega) | omega | (unfold rg; omega) | (simp only [rg] at *; omega) | exact bz_rg _ | grind [rg]) ?_
  refine a_istore (pc := 27) ok dL_act_27 rfl (by rw [hN]; decide) ?_
  refine a_iload_n (pc := 29) ok dL_act_29 rfl ?_
  refine a_bipush (pc := 30) ok dL_act_30 (by decide) ?_
  refine a_idiv (pc := 32) ok dL_act_32 (by first | exact rg_w _ | exact rg_tw (by unfold rg; omega) (by unfold rg; omega) | omega | (unfold rg; omega) | (simp only [rg] at *; omega) | exact bz_rg _ | grind [rg]) (by first | exact rg_w _ | exact rg_tw (by unfold rg; omega) (by unfold rg; omega) | omega | (unfold rg; omega) | (simp only [rg] at *; omega) | exact bz_rg _ | grind [rg]) ?_
  refine a_iload (pc := 33) ok dL_act_33 rfl ?_
  refine a_irem (pc := 35) ok dL_act_35 (by first | exact rg_w _ | exact rg_tw (by unfold rg; omega) (by unfold rg; omega) | omega | (unfold rg; omega) | (simp only [rg] at *; omega) | exact bz_rg _ | grind [rg]) (by first | exact rg_w _ | exact rg_tw (by unfold rg; omega) (by unfold rg; omega) | omega | (unfold rg; omega) | (simp only [rg] at *; omega) | exact bz_rg _ | grind [rg]) ?_
  refine a_istore (pc := 36) ok dL_act_36 rfl (by rw [hN]; decide) ?_
  refine a_iload_n (pc := 38) ok dL_act_38 rfl ?_
  refine a_bipush (pc := 39) ok dL_act_39 (by decide) ?_
  refine a_irem (pc := 41) ok dL_act_41 (by first | exact rg_w _ | exact rg_tw (by unfold rg; omega) (by unfold rg; omega) | omega | (unfold rg; omega) | (simp only [rg] at *; omega) | exact bz_rg _ | grind [rg]) (by first | exact rg_w _ | exact rg_tw (by unfold rg; omega) (by unfold rg; omega) | omega | (unfold rg; omega) | (simp only [rg] at *; omega) | exact bz_rg _ | grind [rg]) ?_
  refine a_tableIn (pc := 42) (off := 234) (tgt := 276) ok dL_act_42 (by unfold rg; omega) (by omega) (by omega) (by rw [q0]; rfl) (by decide) ?_
  refine a_aload_n (pc := 276) ok dL_act_276 rfl ?_
  refine a_bipush (pc := 277) ok dL_act_277 (by decide) ?_
  refine a_iload_n (pc := 279) ok dL_act_279 rfl ?_
  refine a_bipush (pc := 280) ok dL_act_280 (by decide) ?_
  refine a_irem (pc := 282) ok dL_act_282 (by first | exact rg_w _ | exact rg_tw (by unfold rg; omega) (by unfold rg; omega) | omega | (unfold rg; omega) | (simp only [rg] at *; omega) | exact bz_rg _ | grind [rg]) (by first | exact rg_w _ | exact rg_tw (by unfold rg; omega) (by unfold rg; omega) | omega | (unfold rg; omega) | (simp only [rg] at *; omega) | exact bz_rg _ | grind [rg]) ?_
  refine a_iconst (pc := 283) ok dL_act_283 ?_
  refine a_iconst (pc := 284) ok dL_act_284 ?_
  refine v_o (pc := 285) ok ex gk.1 dL_act_285 (ug2 16 (by decide +kernel) rfl) (ug2 17 (by decide +kernel) rfl) miL_call hW (C_12 hl hA hW (v := x / 16 % 6) (u2 := 0) (u3 := 0) (by unfold rg; omega)) ⟨by decide, by decide⟩ ⟨Nat.le_of_ble_eq_true rfl, Nat.le_of_ble_eq_true rfl⟩ rfl rfl (Nat.le_of_ble_eq_true rfl) ?_
  intro M hW
  refine AW.widen (kc2 := rgL_act.cells) (ks2 := rgL_act.slots) (Nat.le_of_ble_eq_true rfl) (Nat.le_of_ble_eq_true rfl) ?_
  exact a_iret (pc := 288) ok dL_act_288 (⟨rfl, hW⟩)
theorem act_10a (hl : l.stackTraces = false) (hA : VA A) (hW : WO A M) {x : Int} (hx : 0 ≤ x ∧ x < 2147483648) (q0 : x % 16 = 10) (q1 : x / 16 % 3 = 0) : CtV l yL_act cL_act 7 (some .int) rgL_act [.ref 0, iv x] M (po1 (w32 (aBlur (jS A))) (jAct A (gU (jS A)))) := by
  have f := VA_d hA
  obtain ⟨f1, f2, f3, f4, f5⟩ := f
  have g1 : 0 ≤ x / 16 % sC (jS A) ∧ x / 16 % sC (jS A) < sC (jS A) := ⟨Int.emod_nonneg _ (by omega), Int.emod_lt_of_pos _ (by omega)⟩
  have g2 : 0 ≤ x / 16 / 8 % sR (jS A) ∧ x / 16 / 8 % sR (jS A) < sR (jS A) := ⟨Int.emod_nonneg _ (by omega), Int.emod_lt_of_pos _ (by omega)⟩
  refine CtV.of hl miL_act (Nat.le_of_ble_eq_true rfl) (po1_cl hW) ?_
  intro X hXl hN gk ex
  subst hXl
  have ok := gk.ok
  refine AW.cast (L2 := [some (.ref 0), some (iv x), none, none, none, none, none]) ?_ rfl rfl rfl
  refine a_iload_n (pc := 0) ok dL_act_0 rfl ?_
  refine a_bipush (pc := 1) ok dL_act_1 (by decide) ?_
  refine a_idiv (pc := 3) ok dL_act_3 (by first | exact rg_w _ | exact rg_tw (by unfold rg; omega) (by unfold rg; omega) | omega | (unfold rg; omega) | (simp only [rg] at *; omega) | exact bz_rg _ | grind [rg]) (by first | exact rg_w _ | exact rg_tw (by unfold rg; omega) (by unfold rg; omega) | omega | (unfold rg; omega) | (simp only [rg] at *; omega) | exact bz_rg _ | grind [rg]) ?_
  refine a_istore_n (pc := 4) ok dL_act_4 rfl (by rw [hN]; decide) ?_
  refine a_aload_n (pc := 5) ok dL_act_5 rfl ?_
  refine a_iconst (pc := 6) ok dL_act_6 ?_
  refine a_iconst (pc := 7) ok dL_act_7 ?_
  refine a_iconst (pc := 8) ok dL_act_8 ?_
  refine a_iconst (pc := 9) ok dL_act_9 ?_
  refine v_o (pc := 10) ok ex gk.1 dL_act_10 (ug2 16 (by decide +kernel) rfl) (ug2 17 (by decide +kernel) rfl) miL_call hW (AB0 hl hA hW) ⟨by decide, by decide⟩ ⟨Nat.le_of_ble_eq_true rfl, Nat.le_of_ble_eq_true rfl⟩ rfl rfl (Nat.le_of_ble_eq_true rfl) ?_
  intro M hW
  refine a_istore_n (pc := 13) ok dL_act_13 rfl (by rw [hN]; decide) ?_
  refine a_aload_n (pc := 14) ok dL_act_14 rfl ?_
  refine a_iconst (pc := 15) ok dL_act_15 ?_
  refine a_iconst (pc := 16) ok dL_act_16 ?_
  refine a_iconst (pc := 17) ok dL_act_17 ?_
  refine a_iconst (pc := 18) ok dL_act_18 ?_
  refine v_o (pc := 19) ok ex gk.1 dL_act_19 (ug2 16 (by decide +kernel) rfl) (ug2 17 (by decide +kernel) rfl) miL_call hW (AB1 hl hA hW) ⟨by decide, by decide⟩ ⟨Nat.le_of_ble_eq_true rfl, Nat.le_of_ble_eq_true rfl⟩ rfl rfl (Nat.le_of_ble_eq_true rfl) ?_
  intro M hW
  refine a_istore (pc := 22) ok dL_act_22 rfl (by rw [hN]; decide) ?_
  refine a_iload_n (pc := 24) ok dL_act_24 rfl ?_
  refine a_iload_n (pc := 25) ok dL_act_25 rfl ?_
  refine a_irem (pc := 26) ok dL_act_26 (by first | exact rg_w _ | exact rg_tw (by unfold rg; omega) (by unfold rg; omega) | omega | (unfold rg; omega) | (simp only [rg] at *; omega) | exact bz_rg _ | grind [rg]) (by first | exact rg_w _ | exact rg_tw (by unfold rg; omega) (by unfold rg; omega) | omega | (unfold rg; omega) | (simp only [rg] at *; omega) | exact bz_rg _ | grind [rg]) ?_
  refine a_istore (pc := 27) ok dL_act_27 rfl (by rw [hN]; decide) ?_
  refine a_iload_n (pc := 29) ok dL_act_29 rfl ?_
  refine a_bipush (pc := 30) ok dL_act_30 (by decide) ?_
  refine a_idiv (pc := 32) ok dL_act_32 (by first | exact rg_w _ | exact rg_tw (by unfold rg; omega) (by unfold rg; omega) | omega | (unfold rg; omega) | (simp only [rg] at *; omega) | exact bz_rg _ | grind [rg]) (by first | exact rg_w _ | exact rg_tw (by unfold rg; omega) (by unfold rg; omega) | omega | (unfold rg; omega) | (simp only [rg] at *; omega) | exact bz_rg _ | grind [rg]) ?_
  refine a_iload (pc := 33) ok dL_act_33 rfl ?_
  refine a_irem (pc := 35) ok dL_act_35 (by first | exact rg_w _ | exact rg_tw (by unfold rg; omega) (by unfold rg; omega) | omega | (unfold rg; omega) | (simp only [rg] at *; omega) | exact bz_rg _ | grind [rg]) (by first | exact rg_w _ | exact rg_tw (by unfold rg; omega) (by unfold rg; omega) | omega | (unfold rg; omega) | (simp only [rg] at *; omega) | exact bz_rg _ | grind [rg]) ?_
  refine a_istore (pc := 36) ok dL_act_36 rfl (by rw [hN]; decide) ?_
  refine a_iload_n (pc := 38) ok dL_act_38 rfl ?_
  refine a_bipush (pc := 39) ok dL_act_39 (by decide) ?_
  refine a_irem (pc := 41) ok dL_act_41 (by first | exact rg_w _ | exact rg_tw (by unfold rg; omega) (by unfold rg; omega) | omega | (unfold rg; omega) | (simp only [rg] at *; omega) | exact bz_rg _ | grind [rg]) (by first | exact rg_w _ | exact rg_tw (by unfold rg; omega) (by unfold rg; omega) | omega | (unfold rg; omega) | (simp only [rg] at *; omega) | exact bz_rg _ | grind [rg]) ?_
  refine a_tableIn (pc := 42) (off := 247) (tgt := 289) ok dL_act_42 (by unfold rg; omega) (by omega) (by omega) (by rw [q0]; rfl) (by decide) ?_
  refine a_iload_n (pc := 289) ok dL_act_289 rfl ?_
  refine a_iconst (pc := 290) ok dL_act_290 ?_
  refine a_irem (pc := 291) ok dL_act_291 (by first | exact rg_w _ | exact rg_tw (by unfold rg; omega) (by unfold rg; omega) | omega | (unfold rg; omega) | (simp only [rg] at *; omega) | exact bz_rg _ | grind [rg]) (by first | exact rg_w _ | exact rg_tw (by unfold rg; omega) (by unfold rg; omega) | omega | (unfold rg; omega) | (simp only [rg] at *; omega) | exact bz_rg _ | grind [rg]) ?_
  refine a_if_ne (pc := 292) (tgt := 302) ok dL_act_292 (by decide) (by first | exact rg_w _ | exact rg_tw (by unfold rg; omega) (by unfold rg; omega) | omega | (unfold rg; omega) | (simp only [rg] at *; omega) | exact bz_rg _ | grind [rg]) (fun c292 => ?_) (fun c292 => ?_)
  · exfalso; first | omega | grind
  · refine a_aload_n (pc := 295) ok dL_act_295 rfl ?_
    refine c_o (pc := 296) ok dL_act_296 mvL_226 miX6_blur rfl hW (KN_blur hA hW) ⟨by decide, by decide, rfl, rfl, Nat.le_of_ble_eq_true rfl, Nat.le_of_ble_eq_true rfl⟩ rfl rfl (Nat.le_of_ble_eq_true rfl) ?_
    intro M hW
    refine a_goto (pc := 299) (tgt := 332) ok dL_act_299 (by decide) ?_
    refine AW.widen (kc2 := rgL_act.cells) (ks2 := rgL_act.slots) (Nat.le_of_ble_eq_true rfl) (Nat.le_of_ble_eq_true rfl) ?_
    exact a_iret (pc := 332) ok dL_act_332 (⟨rfl, hW⟩)
theorem act_10b (hl : l.stackTraces = false) (hA : VA A) (hW : WO A M) {x : Int} (hx : 0 ≤ x ∧ x < 2147483648) (q0 : x % 16 = 10) (q1 : x / 16 % 3 = 1) : CtV l yL_act cL_act 7 (some .int) rgL_act [.ref 0, iv x] M (po1 (w32 (aInv (jS A))) (jAct A (gI (jS A)))) := by
  have f := VA_d hA
  obtain ⟨f1, f2, f3, f4, f5⟩ := f
  have g1 : 0 ≤ x / 16 % sC (jS A) ∧ x / 16 % sC (jS A) < sC (jS A) := ⟨Int.emod_nonneg _ (by omega), Int.emod_lt_of_pos _ (by omega)⟩
  have g2 : 0 ≤ x / 16 / 8 % sR (jS A) ∧ x / 16 / 8 % sR (jS A) < sR (jS A) := ⟨Int.emod_nonneg _ (by omega), Int.emod_lt_of_pos _ (by omega)⟩
  refine CtV.of hl miL_act (Nat.le_of_ble_eq_true rfl) (po1_cl hW) ?_
  intro X hXl hN gk ex
  subst hXl
  have ok := gk.ok
  refine AW.cast (L2 := [some (.ref 0), some (iv x), none, none, none, none, none]) ?_ rfl rfl rfl
  refine a_iload_n (pc := 0) ok dL_act_0 rfl ?_
  refine a_bipush (pc := 1) ok dL_act_1 (by decide) ?_
  refine a_idiv (pc := 3) ok dL_act_3 (by first | exact rg_w _ | exact rg_tw (by unfold rg; omega) (by unfold rg; omega) | omega | (unfold rg; omega) | (simp only [rg] at *; omega) | exact bz_rg _ | grind [rg]) (by first | exact rg_w _ | exact rg_tw (by unfold rg; omega) (by unfold rg; omega) | omega | (unfold rg; omega) | (simp only [rg] at *; omega) | exact bz_rg _ | grind [rg]) ?_
  refine a_istore_n (pc := 4) ok dL_act_4 rfl (by rw [hN]; decide) ?_
  refine a_aload_n (pc := 5) ok dL_act_5 rfl ?_
  refine a_iconst (pc := 6) ok dL_act_6 ?_
  refine a_iconst (pc := 7) ok dL_act_7 ?_
  refine a_iconst (pc := 8) ok dL_act_8 ?_
  refine a_iconst (pc := 9) ok dL_act_9 ?_
  refine v_o (pc := 10) ok ex gk.1 dL_act_10 (ug2 16 (by decide +kernel) rfl) (ug2 17 (by decide +kernel) rfl) miL_call hW (AB0 hl hA hW) ⟨by decide, by decide⟩ ⟨Nat.le_of_ble_eq_true rfl, Nat.le_of_ble_eq_true rfl⟩ rfl rfl (Nat.le_of_ble_eq_true rfl) ?_
  intro M hW
  refine a_istore_n (pc := 13) ok dL_act_13 rfl (by rw [hN]; decide) ?_
  refine a_aload_n (pc := 14) ok dL_act_14 rfl ?_
  refine a_iconst (pc := 15) ok dL_act_15 ?_
  refine a_iconst (pc := 16) ok dL_act_16 ?_
  refine a_iconst (pc := 17) ok dL_act_17 ?_
  refine a_iconst (pc := 18) ok dL_act_18 ?_
  refine v_o (pc := 19) ok ex gk.1 dL_act_19 (ug2 16 (by decide +kernel) rfl) (ug2 17 (by decide +kernel) rfl) miL_call hW (AB1 hl hA hW) ⟨by decide, by decide⟩ ⟨Nat.le_of_ble_eq_true rfl, Nat.le_of_ble_eq_true rfl⟩ rfl rfl (Nat.le_of_ble_eq_true rfl) ?_
  intro M hW
  refine a_istore (pc := 22) ok dL_act_22 rfl (by rw [hN]; decide) ?_
  refine a_iload_n (pc := 24) ok dL_act_24 rfl ?_
  refine a_iload_n (pc := 25) ok dL_act_25 rfl ?_
  refine a_irem (pc := 26) ok dL_act_26 (by first | exact rg_w _ | exact rg_tw (by unfold rg; omega) (by unfold rg; omega) | omega | (unfold rg; omega) | (simp only [rg] at *; omega) | exact bz_rg _ | grind [rg]) (by first | exact rg_w _ | exact rg_tw (by unfold rg; omega) (by unfold rg; omega) | omega | (unfold rg; omega) | (simp only [rg] at *; omega) | exact bz_rg _ | grind [rg]) ?_
  refine a_istore (pc := 27) ok dL_act_27 rfl (by rw [hN]; decide) ?_
  refine a_iload_n (pc := 29) ok dL_act_29 rfl ?_
  refine a_bipush (pc := 30) ok dL_act_30 (by decide) ?_
  refine a_idiv (pc := 32) ok dL_act_32 (by first | exact rg_w _ | exact rg_tw (by unfold rg; omega) (by unfold rg; omega) | omega | (unfold rg; omega) | (simp only [rg] at *; omega) | exact bz_rg _ | grind [rg]) (by first | exact rg_w _ | exact rg_tw (by unfold rg; omega) (by unfold rg; omega) | omega | (unfold rg; omega) | (simp only [rg] at *; omega) | exact bz_rg _ | grind [rg]) ?_
  refine a_iload (pc := 33) ok dL_act_33 rfl ?_
  refine a_irem (pc := 35) ok dL_act_35 (by first | exact rg_w _ | exact rg_tw (by unfold rg; omega) (by unfold rg; omega) | omega | (unfold rg; omega) | (simp only [rg] at *; omega) | exact bz_rg _ | grind [rg]) (by first | exact rg_w _ | exact rg_tw (by unfold rg; omega) (by unfold rg; omega) | omega | (unfold rg; omega) | (simp only [rg] at *; omega) | exact bz_rg _ | grind [rg]) ?_
  refine a_istore (pc := 36) ok dL_act_36 rfl (by rw [hN]; decide) ?_
  refine a_iload_n (pc := 38) ok dL_act_38 rfl ?_
  refine a_bipush (pc := 39) ok dL_act_39 (by decide) ?_
  refine a_irem (pc := 41) ok dL_act_41 (by first | exact rg_w _ | exact rg_tw (by unfold rg; omega) (by unfold rg; omega) | omega | (unfold rg; omega) | (simp only [rg] at *; omega) | exact bz_rg _ | grind [rg]) (by first | exact rg_w _ | exact rg_tw (by unfold rg; omega) (by unfold rg; omega) | omega | (unfold rg; omega) | (simp only [rg] at *; omega) | exact bz_rg _ | grind [rg]) ?_
  refine a_tableIn (pc := 42) (off := 247) (tgt := 289) ok dL_act_42 (by unfold rg; omega) (by omega) (by omega) (by rw [q0]; rfl) (by decide) ?_
  refine a_iload_n (pc := 289) ok dL_act_289 rfl ?_
  refine a_iconst (pc := 290) ok dL_act_290 ?_
  refine a_irem (pc := 291) ok dL_act_291 (by first | exact rg_w _ | exact rg_tw (by unfold rg; omega) (by unfold rg; omega) | omega | (unfold rg; omega) | (simp only [rg] at *; omega) | exact bz_rg _ | grind [rg]) (by first | exact rg_w _ | exact rg_tw (by unfold rg; omega) (by unfold rg; omega) | omega | (unfold rg; omega) | (simp only [rg] at *; omega) | exact bz_rg _ | grind [rg]) ?_
  refine a_if_ne (pc := 292) (tgt := 302) ok dL_act_292 (by decide) (by first | exact rg_w _ | exact rg_tw (by unfold rg; omega) (by unfold rg; omega) | omega | (unfold rg; omega) | (simp only [rg] at *; omega) | exact bz_rg _ | grind [rg]) (fun c292 => ?_) (fun c292 => ?_)
  · refine a_iload_n (pc := 302) ok dL_act_302 rfl ?_
    refine a_iconst (pc := 303) ok dL_act_303 ?_
    refine a_irem (pc := 304) ok dL_act_304 (by first | exact rg_w _ | exact rg_tw (by unfold rg; omega) (by unfold rg; omega) | omega | (unfold rg; omega) | (simp only [rg] at *; omega) | exact bz_rg _ | grind [rg]) (by first | exact rg_w _ | exact rg_tw (by unfold rg; omega) (by unfold rg; omega) | omega | (unfold rg; omega) | (simp only [rg] at *; omega) | exact bz_rg _ | grind [rg]) ?_
    refine a_iconst (pc := 305) ok dL_act_305 ?_
    refine a_icmp_ne (pc := 306) (tgt := 316) ok dL_act_306 (by decide) (by first | exact rg_w _ | exact rg_tw (by unfold rg; omega) (by unfold rg; omega) | omega | (unfold rg; omega) | (simp only [rg] at *; omega) | exact bz_rg _ | grind [rg]) (by first | exact rg_w _ | exact rg_tw (by unfold rg; omega) (by unfold rg; omega) | omega | (unfold rg; omega) | (simp only [rg] at *; omega) | exact bz_rg _ | grind [rg]) (fun c306 => ?_) (fun c306 => ?_)
    · exfalso; first | omega | grind
    · refine a_aload_n (pc := 309) ok dL_act_309 rfl ?_
      refine c_o (pc := 310) ok dL_act_310 mvL_229 miX6_invert rfl hW (KN_invert hA hW) ⟨by decide, by decide, rfl, rfl, Nat.le_of_ble_eq_true rfl, Nat.le_of_ble_eq_true rfl⟩ rfl rfl (Nat.le_of_ble_eq_true rfl) ?_
      intro M hW
      refine a_goto (pc := 313) (tgt := 332) ok dL_act_313 (by decide) ?_
      refine AW.widen (kc2 := rgL_act.cells) (ks2 := rgL_act.slots) (Nat.le_of_ble_eq_true rfl) (Nat.le_of_ble_eq_true rfl) ?_
      exact a_iret (pc := 332) ok dL_act_332 (⟨rfl, hW⟩)
  · exfalso; first | omega | grind
theorem act_10c (hl : l.stackTraces = false) (hA : VA A) (hW : WO A M) {x : Int} (hx : 0 ≤ x ∧ x < 2147483648) (q0 : x % 16 = 10) (q1 : x / 16 % 3 = 2) : CtV l yL_act cL_act 7 (some .int) rgL_act [.ref 0, iv x] M (po1 (tw (kIn (1 + x / 16 / 3 % 49) 1 49) (-9999002) (-9999002) (cntK (fun j => decide (spF (1 + x / 16 / 3 % 49) (sG (jS A) j) ≠ sG (jS A) j)) (sC (jS A) * sR (jS A)).toNat)) ((if kIn (1 + x / 16 / 3 % 49) 1 49 = 0 then jAct A (gQ (jS A) (1 + x / 16 / 3 % 49)) else A))) := by
  have f := VA_d hA
  obtain ⟨f1, f2, f3, f4, f5⟩ := f
  have g1 : 0 ≤ x / 16 % sC (jS A) ∧ x / 16 % sC (jS A) < sC (jS A) := ⟨Int.emod_nonneg _ (by omega), Int.emod_lt_of_pos _ (by omega)⟩
  have g2 : 0 ≤ x / 16 / 8 % sR (jS A) ∧ x / 16 / 8 % sR (jS A) < sR (jS A) := ⟨Int.emod_nonneg _ (by omega), Int.emod_lt_of_pos _ (by omega)⟩
  refine CtV.of hl miL_act (Nat.le_of_ble_eq_true rfl) (po1_cl hW) ?_
  intro X hXl hN gk ex
  subst hXl
  have ok := gk.ok
  refine AW.cast (L2 := [some (.ref 0), some (iv x), none, none, none, none, none]) ?_ rfl rfl rfl
  refine a_iload_n (pc := 0) ok dL_act_0 rfl ?_
  refine a_bipush (pc := 1) ok dL_act_1 (by decide) ?_
  refine a_idiv (pc := 3) ok dL_act_3 (by first | exact rg_w _ | exact rg_tw (by unfold rg; omega) (by unfold rg; omega) | omega | (unfold rg; omega) | (simp only [rg] at *; omega) | exact bz_rg _ | grind [rg]) (by first | exact rg_w _ | exact rg_tw (by unfold rg; omega) (by unfold rg; omega) | omega | (unfold rg; omega) | (simp only [rg] at *; omega) | exact bz_rg _ | grind [rg]) ?_
  refine a_istore_n (pc := 4) ok dL_act_4 rfl (by rw [hN]; decide) ?_
  refine a_aload_n (pc := 5) ok dL_act_5 rfl ?_
  refine a_iconst (pc := 6) ok dL_act_6 ?_
  refine a_iconst (pc := 7) ok dL_act_7 ?_
  refine a_iconst (pc := 8) ok dL_act_8 ?_
  refine a_iconst (pc := 9) ok dL_act_9 ?_
  refine v_o (pc := 10) ok ex gk.1 dL_act_10 (ug2 16 (by decide +kernel) rfl) (ug2 17 (by decide +kernel) rfl) miL_call hW (AB0 hl hA hW) ⟨by decide, by decide⟩ ⟨Nat.le_of_ble_eq_true rfl, Nat.le_of_ble_eq_true rfl⟩ rfl rfl (Nat.le_of_ble_eq_true rfl) ?_
  intro M hW
  refine a_istore_n (pc := 13) ok dL_act_13 rfl (by rw [hN]; decide) ?_
  refine a_aload_n (pc := 14) ok dL_act_14 rfl ?_
  refine a_iconst (pc := 15) ok dL_act_15 ?_
  refine a_iconst (pc := 16) ok dL_act_16 ?_
  refine a_iconst (pc := 17) ok dL_act_17 ?_
  refine a_iconst (pc := 18) ok dL_act_18 ?_
  refine v_o (pc := 19) ok ex gk.1 dL_act_19 (ug2 16 (by decide +kernel) rfl) (ug2 17 (by decide +kernel) rfl) miL_call hW (AB1 hl hA hW) ⟨by decide, by decide⟩ ⟨Nat.le_of_ble_eq_true rfl, Nat.le_of_ble_eq_true rfl⟩ rfl rfl (Nat.le_of_ble_eq_true rfl) ?_
  intro M hW
  refine a_istore (pc := 22) ok dL_act_22 rfl (by rw [hN]; decide) ?_
  refine a_iload_n (pc := 24) ok dL_act_24 rfl ?_
  refine a_iload_n (pc := 25) ok dL_act_25 rfl ?_
  refine a_irem (pc := 26) ok dL_act_26 (by first | exact rg_w _ | exact rg_tw (by unfold rg; omega) (by unfold rg; omega) | omega | (unfold rg; omega) | (simp only [rg] at *; omega) | exact bz_rg _ | grind [rg]) (by first | exact rg_w _ | exact rg_tw (by unfold rg; omega) (by unfold rg; omega) | omega | (unfold rg; omega) | (simp only [rg] at *; omega) | exact bz_rg _ | grind [rg]) ?_
  refine a_istore (pc := 27) ok dL_act_27 rfl (by rw [hN]; decide) ?_
  refine a_iload_n (pc := 29) ok dL_act_29 rfl ?_
  refine a_bipush (pc := 30) ok dL_act_30 (by decide) ?_
  refine a_idiv (pc := 32) ok dL_act_32 (by first | exact rg_w _ | exact rg_tw (by unfold rg; omega) (by unfold rg; omega) | omega | (unfold rg; omega) | (simp only [rg] at *; omega) | exact bz_rg _ | grind [rg]) (by first | exact rg_w _ | exact rg_tw (by unfold rg; omega) (by unfold rg; omega) | omega | (unfold rg; omega) | (simp only [rg] at *; omega) | exact bz_rg _ | grind [rg]) ?_
  refine a_iload (pc := 33) ok dL_act_33 rfl ?_
  refine a_irem (pc := 35) ok dL_act_35 (by first | exact rg_w _ | exact rg_tw (by unfold rg; omega) (by unfold rg; omega) | omega | (unfold rg; omega) | (simp only [rg] at *; omega) | exact bz_rg _ | grind [rg]) (by first | exact rg_w _ | exact rg_tw (by unfold rg; omega) (by unfold rg; omega) | omega | (unfold rg; omega) | (simp only [rg] at *; omega) | exact bz_rg _ | grind [rg]) ?_
  refine a_istore (pc := 36) ok dL_act_36 rfl (by rw [hN]; decide) ?_
  refine a_iload_n (pc := 38) ok dL_act_38 rfl ?_
  refine a_bipush (pc := 39) ok dL_act_39 (by decide) ?_
  refine a_irem (pc := 41) ok dL_act_41 (by first | exact rg_w _ | exact rg_tw (by unfold rg; omega) (by unfold rg; omega) | omega | (unfold rg; omega) | (simp only [rg] at *; omega) | exact bz_rg _ | grind [rg]) (by first | exact rg_w _ | exact rg_tw (by unfold rg; omega) (by unfold rg; omega) | omega | (unfold rg; omega) | (simp only [rg] at *; omega) | exact bz_rg _ | grind [rg]) ?_
  refine a_tableIn (pc := 42) (off := 247) (tgt := 289) ok dL_act_42 (by unfold rg; omega) (by omega) (by omega) (by rw [q0]; rfl) (by decide) ?_
  refine a_iload_n (pc := 289) ok dL_act_289 rfl ?_
  refine a_iconst (pc := 290) ok dL_act_290 ?_
  refine a_irem (pc := 291) ok dL_act_291 (by first | exact rg_w _ | exact rg_tw (by unfold rg; omega) (by unfold rg; omega) | omega | (unfold rg; omega) | (simp only [rg] at *; omega) | exact bz_rg _ | grind [rg]) (by first | exact rg_w _ | exact rg_tw (by unfold rg; omega) (by unfold rg; omega) | omega | (unfold rg; omega) | (simp only [rg] at *; omega) | exact bz_rg _ | grind [rg]) ?_
  refine a_if_ne (pc := 292) (tgt := 302) ok dL_act_292 (by decide) (by first | exact rg_w _ | exact rg_tw (by unfold rg; omega) (by unfold rg; omega) | omega | (unfold rg; omega) | (simp only [rg] at *; omega) | exact bz_rg _ | grind [rg]) (fun c292 => ?_) (fun c292 => ?_)
  · refine a_iload_n (pc := 302) ok dL_act_302 rfl ?_
    refine a_iconst (pc := 303) ok dL_act_303 ?_
    refine a_irem (pc := 304) ok dL_act_304 (by first | exact rg_w _ | exact rg_tw (by unfold rg; omega) (by unfold rg; omega) | omega | (unfold rg; omega) | (simp only [rg] at *; omega) | exact bz_rg _ | grind [rg]) (by first | exact rg_w _ | exact rg_tw (by unfold rg; omega) (by unfold rg; omega) | omega | (unfold rg; omega) | (simp only [rg] at *; omega) | exact bz_rg _ | grind [rg]) ?_
    refine a_iconst (pc := 305) ok dL_act_305 ?_
    refine a_icmp_ne (pc := 306) (tgt := 316) ok dL_act_306 (by decide) (by first | exact rg_w _ | exact rg_tw (by unfold rg; omega) (by unfold rg; omega) | omega | (unfold rg; omega) | (simp only [rg] at *; omega) | exact bz_rg _ | grind [rg]) (by first | exact rg_w _ | exact rg_tw (by unfold rg; omega) (by unfold rg; omega) | omega | (unfold rg; omega) | (simp only [rg] at *; omega) | exact bz_rg _ | grind [rg]) (fun c306 => ?_) (fun c306 => ?_)
    · refine a_aload_n (pc := 316) ok dL_act_316 rfl ?_
      refine a_bipush (pc := 317) ok dL_act_317 (by decide) ?_
      refine a_iconst (pc := 319) ok dL_act_319 ?_
      refine a_iload_n (pc := 320) ok dL_act_320 rfl ?_
      refine a_iconst (pc := 321) ok dL_act_321 ?_
      refine a_idiv (pc := 322) ok dL_act_322 (by first | exact rg_w _ | exact rg_tw (by unfold rg; omega) (by unfold rg; omega) | omega | (unfold rg; omega) | (simp only [rg] at *; omega) | exact bz_rg _ | grind [rg]) (by first | exact rg_w _ | exact rg_tw (by unfold rg; omega) (by unfold rg; omega) | omega | (unfold rg; omega) | (simp only [rg] at *; omega) | exact bz_rg _ | grind [rg]) ?_
      refine a_bipush (pc := 323) ok dL_act_323 (by decide) ?_
      refine a_irem (pc := 325) ok dL_act_325 (by first | exact rg_w _ | exact rg_tw (by unfold rg; omega) (by unfold rg; omega) | omega | (unfold rg; omega) | (simp only [rg] at *; omega) | exact bz_rg _ | grind [rg]) (by first | exact rg_w _ | exact rg_tw (by unfold rg; omega) (by unfold rg; omega) | omega | (unfold rg; omega) | (simp only [rg] at *; omega) | exact bz_rg _ | grind [rg]) ?_
      refine a_iadd (pc := 326) ok dL_act_326 ?_
      refine a_iconst (pc := 327) ok dL_act_327 ?_
      refine a_iconst (pc := 328) ok dL_act_328 ?_
      refine v_o (pc := 329) ok ex gk.1 dL_act_329 (ug2 16 (by decide +kernel) rfl) (ug2 17 (by decide +kernel) rfl) miL_call hW (C_16 hl hA hW (v := 1 + x / 16 / 3 % 49) (u2 := 0) (u3 := 0) (by unfold rg; omega)) ⟨by decide, by decide⟩ ⟨Nat.le_of_ble_eq_true rfl, Nat.le_of_ble_eq_true rfl⟩ rfl rfl (Nat.le_of_ble_eq_true rfl) ?_
      intro M hW
      refine AW.widen (kc2 := rgL_act.cells) (ks2 := rgL_act.slots) (Nat.le_of_ble_eq_true rfl) (Nat.le_of_ble_eq_true rfl) ?_
      exact a_iret (pc := 332) ok dL_act_332 (⟨rfl, hW⟩)
    · exfalso; first | omega | grind
  · exfalso; first | omega | grind
theorem act_11 (hl : l.stackTraces = false) (hA : VA A) (hW : WO A M) {x : Int} (hx : 0 ≤ x ∧ x < 2147483648) (q0 : x % 16 = 11) : CtV l yL_act cL_act 7 (some .int) rgL_act [.ref 0, iv x] M (po1 (tw (kUndo (jC A)) (-9999003) (-9999003) ((jC A) - 1)) ((if kUndo (jC A) = 0 then jUndo A else A))) := by
  have f := VA_d hA
  obtain ⟨f1, f2, f3, f4, f5⟩ := f
  have g1 : 0 ≤ x / 16 % sC (jS A) ∧ x / 16 % sC (jS A) < sC (jS A) := ⟨Int.emod_nonneg _ (by omega), Int.emod_lt_of_pos _ (by omega)⟩
  have g2 : 0 ≤ x / 16 / 8 % sR (jS A) ∧ x / 16 / 8 % sR (jS A) < sR (jS A) := ⟨Int.emod_nonneg _ (by omega), Int.emod_lt_of_pos _ (by omega)⟩
  refine CtV.of hl miL_act (Nat.le_of_ble_eq_true rfl) (po1_cl hW) ?_
  intro X hXl hN gk ex
  subst hXl
  have ok := gk.ok
  refine AW.cast (L2 := [some (.ref 0), some (iv x), none, none, none, none, none]) ?_ rfl rfl rfl
  refine a_iload_n (pc := 0) ok dL_act_0 rfl ?_
  refine a_bipush (pc := 1) ok dL_act_1 (by decide) ?_
  refine a_idiv (pc := 3) ok dL_act_3 (by first | exact rg_w _ | exact rg_tw (by unfold rg; omega) (by unfold rg; omega) | omega | (unfold rg; omega) | (simp only [rg] at *; omega) | exact bz_rg _ | grind [rg]) (by first | exact rg_w _ | exact rg_tw (by unfold rg; omega) (by unfold rg; omega) | omega | (unfold rg; omega) | (simp only [rg] at *; omega) | exact bz_rg _ | grind [rg]) ?_
  refine a_istore_n (pc := 4) ok dL_act_4 rfl (by rw [hN]; decide) ?_
  refine a_aload_n (pc := 5) ok dL_act_5 rfl ?_
  refine a_iconst (pc := 6) ok dL_act_6 ?_
  refine a_iconst (pc := 7) ok dL_act_7 ?_
  refine a_iconst (pc := 8) ok dL_act_8 ?_
  refine a_iconst (pc := 9) ok dL_act_9 ?_
  refine v_o (pc := 10) ok ex gk.1 dL_act_10 (ug2 16 (by decide +kernel) rfl) (ug2 17 (by decide +kernel) rfl) miL_call hW (AB0 hl hA hW) ⟨by decide, by decide⟩ ⟨Nat.le_of_ble_eq_true rfl, Nat.le_of_ble_eq_true rfl⟩ rfl rfl (Nat.le_of_ble_eq_true rfl) ?_
  intro M hW
  refine a_istore_n (pc := 13) ok dL_act_13 rfl (by rw [hN]; decide) ?_
  refine a_aload_n (pc := 14) ok dL_act_14 rfl ?_
  refine a_iconst (pc := 15) ok dL_act_15 ?_
  refine a_iconst (pc := 16) ok dL_act_16 ?_
  refine a_iconst (pc := 17) ok dL_act_17 ?_
  refine a_iconst (pc := 18) ok dL_act_18 ?_
  refine v_o (pc := 19) ok ex gk.1 dL_act_19 (ug2 16 (by decide +kernel) rfl) (ug2 17 (by decide +kernel) rfl) miL_call hW (AB1 hl hA hW) ⟨by decide, by decide⟩ ⟨Nat.le_of_ble_eq_true rfl, Nat.le_of_ble_eq_true rfl⟩ rfl rfl (Nat.le_of_ble_eq_true rfl) ?_
  intro M hW
  refine a_istore (pc := 22) ok dL_act_22 rfl (by rw [hN]; decide) ?_
  refine a_iload_n (pc := 24) ok dL_act_24 rfl ?_
  refine a_iload_n (pc := 25) ok dL_act_25 rfl ?_
  refine a_irem (pc := 26) ok dL_act_26 (by first | exact rg_w _ | exact rg_tw (by unfold rg; omega) (by unfold rg; omega) | omega | (unfold rg; omega) | (simp only [rg] at *; omega) | exact bz_rg _ | grind [rg]) (by first | exact rg_w _ | exact rg_tw (by unfold rg; omega) (by unfold rg; omega) | omega | (unfold rg; omega) | (simp only [rg] at *; omega) | exact bz_rg _ | grind [rg]) ?_
  refine a_istore (pc := 27) ok dL_act_27 rfl (by rw [hN]; decide) ?_
  refine a_iload_n (pc := 29) ok dL_act_29 rfl ?_
  refine a_bipush (pc := 30) ok dL_act_30 (by decide) ?_
  refine a_idiv (pc := 32) ok dL_act_32 (by first | exact rg_w _ | exact rg_tw (by unfold rg; omega) (by unfold rg; omega) | omega | (unfold rg; omega) | (simp only [rg] at *; omega) | exact bz_rg _ | grind [rg]) (by first | exact rg_w _ | exact rg_tw (by unfold rg; omega) (by unfold rg; omega) | omega | (unfold rg; omega) | (simp only [rg] at *; omega) | exact bz_rg _ | grind [rg]) ?_
  refine a_iload (pc := 33) ok dL_act_33 rfl ?_
  refine a_irem (pc := 35) ok dL_act_35 (by first | exact rg_w _ | exact rg_tw (by unfold rg; omega) (by unfold rg; omega) | omega | (unfold rg; omega) | (simp only [rg] at *; omega) | exact bz_rg _ | grind [rg]) (by first | exact rg_w _ | exact rg_tw (by unfold rg; omega) (by unfold rg; omega) | omega | (unfold rg; omega) | (simp only [rg] at *; omega) | exact bz_rg _ | grind [rg]) ?_
  refine a_istore (pc := 36) ok dL_act_36 rfl (by rw [hN]; decide) ?_
  refine a_iload_n (pc := 38) ok dL_act_38 rfl ?_
  refine a_bipush (pc := 39) ok dL_act_39 (by decide) ?_
  refine a_irem (pc := 41) ok dL_act_41 (by first | exact rg_w _ | exact rg_tw (by unfold rg; omega) (by unfold rg; omega) | omega | (unfold rg; omega) | (simp only [rg] at *; omega) | exact bz_rg _ | grind [rg]) (by first | exact rg_w _ | exact rg_tw (by unfold rg; omega) (by unfold rg; omega) | omega | (unfold rg; omega) | (simp only [rg] at *; omega) | exact bz_rg _ | grind [rg]) ?_
  refine a_tableIn (pc := 42) (off := 291) (tgt := 333) ok dL_act_42 (by unfold rg; omega) (by omega) (by omega) (by rw [q0]; rfl) (by decide) ?_
  refine a_aload_n (pc := 333) ok dL_act_333 rfl ?_
  refine a_bipush (pc := 334) ok dL_act_334 (by decide) ?_
  refine a_iconst (pc := 336) ok dL_act_336 ?_
  refine a_iconst (pc := 337) ok dL_act_337 ?_
  refine a_iconst (pc := 338) ok dL_act_338 ?_
  refine v_o (pc := 339) ok ex gk.1 dL_act_339 (ug2 16 (by decide +kernel) rfl) (ug2 17 (by decide +kernel) rfl) miL_call hW (C_17 hl hA hW (u1 := 0) (u2 := 0) (u3 := 0)) ⟨by decide, by decide⟩ ⟨Nat.le_of_ble_eq_true rfl, Nat.le_of_ble_eq_true rfl⟩ rfl rfl (Nat.le_of_ble_eq_true rfl) ?_
  intro M hW
  refine AW.widen (kc2 := rgL_act.cells) (ks2 := rgL_act.slots) (Nat.le_of_ble_eq_true rfl) (Nat.le_of_ble_eq_true rfl) ?_
  exact a_iret (pc := 342) ok dL_act_342 (⟨rfl, hW⟩)
theorem act_12a (hl : l.stackTraces = false) (hA : VA A) (hW : WO A M) {x : Int} (hx : 0 ≤ x ∧ x < 2147483648) (q0 : x % 16 = 12) (q1 : x / 16 % 2 = 0) : CtV l yL_act cL_act 7 (some .int) rgL_act [.ref 0, iv x] M (po1 (tw (kIn (x / 16 / 2 % 2) 0 1) (-9999001) (-9999001) (sumK (sG (jS A)) (sC (jS A) * sR (jS A)).toNat)) ((if kIn (x / 16 / 2 % 2) 0 1 = 0 then jSave A (x / 16 / 2 % 2) else A))) := by
  have f := VA_d hA
  obtain ⟨f1, f2, f3, f4, f5⟩ := f
  have g1 : 0 ≤ x / 16 % sC (jS A) ∧ x / 16 % sC (jS A) < sC (jS A) := ⟨Int.emod_nonneg _ (by omega), Int.emod_lt_of_pos _ (by omega)⟩
  have g2 : 0 ≤ x / 16 / 8 % sR (jS A) ∧ x / 16 / 8 % sR (jS A) < sR (jS A) := ⟨Int.emod_nonneg _ (by omega), Int.emod_lt_of_pos _ (by omega)⟩
  refine CtV.of hl miL_act (Nat.le_of_ble_eq_true rfl) (po1_cl hW) ?_
  intro X hXl hN gk ex
  subst hXl
  have ok := gk.ok
  refine AW.cast (L2 := [some (.ref 0), some (iv x), none, none, none, none, none]) ?_ rfl rfl rfl
  refine a_iload_n (pc := 0) ok dL_act_0 rfl ?_
  refine a_bipush (pc := 1) ok dL_act_1 (by decide) ?_
  refine a_idiv (pc := 3) ok dL_act_3 (by first | exact rg_w _ | exact rg_tw (by unfold rg; omega) (by unfold rg; omega) | omega | (unfold rg; omega) | (simp only [rg] at *; omega) | exact bz_rg _ | grind [rg]) (by first | exact rg_w _ | exact rg_tw (by unfold rg; omega) (by unfold rg; omega) | omega | (unfold rg; omega) | (simp only [rg] at *; omega) | exact bz_rg _ | grind [rg]) ?_
  refine a_istore_n (pc := 4) ok dL_act_4 rfl (by rw [hN]; decide) ?_
  refine a_aload_n (pc := 5) ok dL_act_5 rfl ?_
  refine a_iconst (pc := 6) ok dL_act_6 ?_
  refine a_iconst (pc := 7) ok dL_act_7 ?_
  refine a_iconst (pc := 8) ok dL_act_8 ?_
  refine a_iconst (pc := 9) ok dL_act_9 ?_
  refine v_o (pc := 10) ok ex gk.1 dL_act_10 (ug2 16 (by decide +kernel) rfl) (ug2 17 (by decide +kernel) rfl) miL_call hW (AB0 hl hA hW) ⟨by decide, by decide⟩ ⟨Nat.le_of_ble_eq_true rfl, Nat.le_of_ble_eq_true rfl⟩ rfl rfl (Nat.le_of_ble_eq_true rfl) ?_
  intro M hW
  refine a_istore_n (pc := 13) ok dL_act_13 rfl (by rw [hN]; decide) ?_
  refine a_aload_n (pc := 14) ok dL_act_14 rfl ?_
  refine a_iconst (pc := 15) ok dL_act_15 ?_
  refine a_iconst (pc := 16) ok dL_act_16 ?_
  refine a_iconst (pc := 17) ok dL_act_17 ?_
  refine a_iconst (pc := 18) ok dL_act_18 ?_
  refine v_o (pc := 19) ok ex gk.1 dL_act_19 (ug2 16 (by decide +kernel) rfl) (ug2 17 (by decide +kernel) rfl) miL_call hW (AB1 hl hA hW) ⟨by decide, by decide⟩ ⟨Nat.le_of_ble_eq_true rfl, Nat.le_of_ble_eq_true rfl⟩ rfl rfl (Nat.le_of_ble_eq_true rfl) ?_
  intro M hW
  refine a_istore (pc := 22) ok dL_act_22 rfl (by rw [hN]; decide) ?_
  refine a_iload_n (pc := 24) ok dL_act_24 rfl ?_
  refine a_iload_n (pc := 25) ok dL_act_25 rfl ?_
  refine a_irem (pc := 26) ok dL_act_26 (by first | exact rg_w _ | exact rg_tw (by unfold rg; omega) (by unfold rg; omega) | omega | (unfold rg; omega) | (simp only [rg] at *; omega) | exact bz_rg _ | grind [rg]) (by first | exact rg_w _ | exact rg_tw (by unfold rg; omega) (by unfold rg; omega) | omega | (unfold rg; omega) | (simp only [rg] at *; omega) | exact bz_rg _ | grind [rg]) ?_
  refine a_istore (pc := 27) ok dL_act_27 rfl (by rw [hN]; decide) ?_
  refine a_iload_n (pc := 29) ok dL_act_29 rfl ?_
  refine a_bipush (pc := 30) ok dL_act_30 (by decide) ?_
  refine a_idiv (pc := 32) ok dL_act_32 (by first | exact rg_w _ | exact rg_tw (by unfold rg; omega) (by unfold rg; omega) | omega | (unfold rg; omega) | (simp only [rg] at *; omega) | exact bz_rg _ | grind [rg]) (by first | exact rg_w _ | exact rg_tw (by unfold rg; omega) (by unfold rg; omega) | omega | (unfold rg; omega) | (simp only [rg] at *; omega) | exact bz_rg _ | grind [rg]) ?_
  refine a_iload (pc := 33) ok dL_act_33 rfl ?_
  refine a_irem (pc := 35) ok dL_act_35 (by first | exact rg_w _ | exact rg_tw (by unfold rg; omega) (by unfold rg; omega) | omega | (unfold rg; omega) | (simp only [rg] at *; omega) | exact bz_rg _ | grind [rg]) (by first | exact rg_w _ | exact rg_tw (by unfold rg; omega) (by unfold rg; omega) | omega | (unfold rg; omega) | (simp only [rg] at *; omega) | exact bz_rg _ | grind [rg]) ?_
  refine a_istore (pc := 36) ok dL_act_36 rfl (by rw [hN]; decide) ?_
  refine a_iload_n (pc := 38) ok dL_act_38 rfl ?_
  refine a_bipush (pc := 39) ok dL_act_39 (by decide) ?_
  refine a_irem (pc := 41) ok dL_act_41 (by first | exact rg_w _ | exact rg_tw (by unfold rg; omega) (by unfold rg; omega) | omega | (unfold rg; omega) | (simp only [rg] at *; omega) | exact bz_rg _ | grind [rg]) (by first | exact rg_w _ | exact rg_tw (by unfold rg; omega) (by unfold rg; omega) | omega | (unfold rg; omega) | (simp only [rg] at *; omega) | exact bz_rg _ | grind [rg]) ?_
  refine a_tableIn (pc := 42) (off := 301) (tgt := 343) ok dL_act_42 (by unfold rg; omega) (by omega) (by omega) (by rw [q0]; rfl) (by decide) ?_
  refine a_iload_n (pc := 343) ok dL_act_343 rfl ?_
  refine a_iconst (pc := 344) ok dL_act_344 ?_
  refine a_irem (pc := 345) ok dL_act_345 (by first | exact rg_w _ | exact rg_tw (by unfold rg; omega) (by unfold rg; omega) | omega | (unfold rg; omega) | (simp only [rg] at *; omega) | exact bz_rg _ | grind [rg]) (by first | exact rg_w _ | exact rg_tw (by unfold rg; omega) (by unfold rg; omega) | omega | (unfold rg; omega) | (simp only [rg] at *; omega) | exact bz_rg _ | grind [rg]) ?_
  refine a_if_ne (pc := 346) (tgt := 365) ok dL_act_346 (by decide) (by first | exact rg_w _ | exact rg_tw (by unfold rg; omega) (by unfold rg; omega) | omega | (unfold rg; omega) | (simp only [rg] at *; omega) | exact bz_rg _ | grind [rg]) (fun c346 => ?_) (fun c346 => ?_)
  · exfalso; first | omega | grind
  · refine a_aload_n (pc := 349) ok dL_act_349 rfl ?_
    refine a_bipush (pc := 350) ok dL_act_350 (by decide) ?_
    refine a_iload_n (pc := 352) ok dL_act_352 rfl ?_
    refine a_iconst (pc := 353) ok dL_act_353 ?_
    refine a_idiv (pc := 354) ok dL_act_354 (by first | exact rg_w _ | exact rg_tw (by unfold rg; omega) (by unfold rg; omega) | omega | (unfold rg; omega) | (simp only [rg] at *; omega) | exact bz_rg _ | grind [rg]) (by first | exact rg_w _ | exact rg_tw (by unfold rg; omega) (by unfold rg; omega) | omega | (unfold rg; omega) | (simp only [rg] at *; omega) | exact bz_rg _ | grind [rg]) ?_
    refine a_iconst (pc := 355) ok dL_act_355 ?_
    refine a_irem (pc := 356) ok dL_act_356 (by first | exact rg_w _ | exact rg_tw (by unfold rg; omega) (by unfold rg; omega) | omega | (unfold rg; omega) | (simp only [rg] at *; omega) | exact bz_rg _ | grind [rg]) (by first | exact rg_w _ | exact rg_tw (by unfold rg; omega) (by unfold rg; omega) | omega | (unfold rg; omega) | (simp only [rg] at *; omega) | exact bz_rg _ | grind [rg]) ?_
    refine a_iconst (pc := 357) ok dL_act_357 ?_
    refine a_iconst (pc := 358) ok dL_act_358 ?_
    refine v_o (pc := 359) ok ex gk.1 dL_act_359 (ug2 16 (by decide +kernel) rfl) (ug2 17 (by decide +kernel) rfl) miL_call hW (C_21 hl hA hW (v := x / 16 / 2 % 2) (u2 := 0) (u3 := 0) (by unfold rg; omega)) ⟨by decide, by decide⟩ ⟨Nat.le_of_ble_eq_true rfl, Nat.le_of_ble_eq_true rfl⟩ rfl rfl (Nat.le_of_ble_eq_true rfl) ?_
    intro M hW
    refine a_goto (pc := 362) (tgt := 378) ok dL_act_362 (by decide) ?_
    refine AW.widen (kc2 := rgL_act.cells) (ks2 := rgL_act.slots) (Nat.le_of_ble_eq_true rfl) (Nat.le_of_ble_eq_true rfl) ?_
    exact a_iret (pc := 378) ok dL_act_378 (⟨rfl, hW⟩)
theorem act_12b (hl : l.stackTraces = false) (hA : VA A) (hW : WO A M) {x : Int} (hx : 0 ≤ x ∧ x < 2147483648) (q0 : x % 16 = 12) (q1 : x / 16 % 2 = 1) : CtV l yL_act cL_act 7 (some .int) rgL_act [.ref 0, iv x] M (po1 (tw (kRes (jV A) (x / 16 / 2 % 2)) (-9999001) (-9999003) (sumK (sG (if (x / 16 / 2 % 2) = 0 then (j0 A) else (j1 A))) (sC (if (x / 16 / 2 % 2) = 0 then (j0 A) else (j1 A)) * sR (if (x / 16 / 2 % 2) = 0 then (j0 A) else (j1 A))).toNat)) ((if kRes (jV A) (x / 16 / 2 % 2) = 0 then jRest A (x / 16 / 2 % 2) else A))) := by
  have f := VA_d hA
  obtain ⟨f1, f2, f3, f4, f5⟩ := f
  have g1 : 0 ≤ x / 16 % sC (jS A) ∧ x / 16 % sC (jS A) < sC (jS A) := ⟨Int.emod_nonneg _ (by omega), Int.emod_lt_of_pos _ (by omega)⟩
  have g2 : 0 ≤ x / 16 / 8 % sR (jS A) ∧ x / 16 / 8 % sR (jS A) < sR (jS A) := ⟨Int.emod_nonneg _ (by omega), Int.emod_lt_of_pos _ (by omega)⟩
  refine CtV.of hl miL_act (Nat.le_of_ble_eq_true rfl) (po1_cl hW) ?_
  intro X hXl hN gk ex
  subst hXl
  have ok := gk.ok
  refine AW.cast (L2 := [some (.ref 0), some (iv x), none, none, none, none, none]) ?_ rfl rfl rfl
  refine a_iload_n (pc := 0) ok dL_act_0 rfl ?_
  refine a_bipush (pc := 1) ok dL_act_1 (by decide) ?_
  refine a_idiv (pc := 3) ok dL_act_3 (by first | exact rg_w _ | exact rg_tw (by unfold rg; omega) (by unfold rg; omega) | omega | (unfold rg; omega) | (simp only [rg] at *; omega) | exact bz_rg _ | grind [rg]) (by first | exact rg_w _ | exact rg_tw (by unfold rg; omega) (by unfold rg; omega) | omega | (unfold rg; omega) | (simp only [rg] at *; omega) | exact bz_rg _ | grind [rg]) ?_
  refine a_istore_n (pc := 4) ok dL_act_4 rfl (by rw [hN]; decide) ?_
  refine a_aload_n (pc := 5) ok dL_act_5 rfl ?_
  refine a_iconst (pc := 6) ok dL_act_6 ?_
  refine a_iconst (pc := 7) ok dL_act_7 ?_
  refine a_iconst (pc := 8) ok dL_act_8 ?_
  refine a_iconst (pc := 9) ok dL_act_9 ?_
  refine v_o (pc := 10) ok ex gk.1 dL_act_10 (ug2 16 (by decide +kernel) rfl) (ug2 17 (by decide +kernel) rfl) miL_call hW (AB0 hl hA hW) ⟨by decide, by decide⟩ ⟨Nat.le_of_ble_eq_true rfl, Nat.le_of_ble_eq_true rfl⟩ rfl rfl (Nat.le_of_ble_eq_true rfl) ?_
  intro M hW
  refine a_istore_n (pc := 13) ok dL_act_13 rfl (by rw [hN]; decide) ?_
  refine a_aload_n (pc := 14) ok dL_act_14 rfl ?_
  refine a_iconst (pc := 15) ok dL_act_15 ?_
  refine a_iconst (pc := 16) ok dL_act_16 ?_
  refine a_iconst (pc := 17) ok dL_act_17 ?_
  refine a_iconst (pc := 18) ok dL_act_18 ?_
  refine v_o (pc := 19) ok ex gk.1 dL_act_19 (ug2 16 (by decide +kernel) rfl) (ug2 17 (by decide +kernel) rfl) miL_call hW (AB1 hl hA hW) ⟨by decide, by decide⟩ ⟨Nat.le_of_ble_eq_true rfl, Nat.le_of_ble_eq_true rfl⟩ rfl rfl (Nat.le_of_ble_eq_true rfl) ?_
  intro M hW
  refine a_istore (pc := 22) ok dL_act_22 rfl (by rw [hN]; decide) ?_
  refine a_iload_n (pc := 24) ok dL_act_24 rfl ?_
  refine a_iload_n (pc := 25) ok dL_act_25 rfl ?_
  refine a_irem (pc := 26) ok dL_act_26 (by first | exact rg_w _ | exact rg_tw (by unfold rg; omega) (by unfold rg; omega) | omega | (unfold rg; omega) | (simp only [rg] at *; omega) | exact bz_rg _ | grind [rg]) (by first | exact rg_w _ | exact rg_tw (by unfold rg; omega) (by unfold rg; omega) | omega | (unfold rg; omega) | (simp only [rg] at *; omega) | exact bz_rg _ | grind [rg]) ?_
  refine a_istore (pc := 27) ok dL_act_27 rfl (by rw [hN]; decide) ?_
  refine a_iload_n (pc := 29) ok dL_act_29 rfl ?_
  refine a_bipush (pc := 30) ok dL_act_30 (by decide) ?_
  refine a_idiv (pc := 32) ok dL_act_32 (by first | exact rg_w _ | exact rg_tw (by unfold rg; omega) (by unfold rg; omega) | omega | (unfold rg; omega) | (simp only [rg] at *; omega) | exact bz_rg _ | grind [rg]) (by first | exact rg_w _ | exact rg_tw (by unfold rg; omega) (by unfold rg; omega) | omega | (unfold rg; omega) | (simp only [rg] at *; omega) | exact bz_rg _ | grind [rg]) ?_
  refine a_iload (pc := 33) ok dL_act_33 rfl ?_
  refine a_irem (pc := 35) ok dL_act_35 (by first | exact rg_w _ | exact rg_tw (by unfold rg; omega) (by unfold rg; omega) | omega | (unfold rg; omega) | (simp only [rg] at *; omega) | exact bz_rg _ | grind [rg]) (by first | exact rg_w _ | exact rg_tw (by unfold rg; omega) (by unfold rg; omega) | omega | (unfold rg; omega) | (simp only [rg] at *; omega) | exact bz_rg _ | grind [rg]) ?_
  refine a_istore (pc := 36) ok dL_act_36 rfl (by rw [hN]; decide) ?_
  refine a_iload_n (pc := 38) ok dL_act_38 rfl ?_
  refine a_bipush (pc := 39) ok dL_act_39 (by decide) ?_
  refine a_irem (pc := 41) ok dL_act_41 (by first | exact rg_w _ | exact rg_tw (by unfold rg; omega) (by unfold rg; omega) | omega | (unfold rg; omega) | (simp only [rg] at *; omega) | exact bz_rg _ | grind [rg]) (by first | exact rg_w _ | exact rg_tw (by unfold rg; omega) (by unfold rg; omega) | omega | (unfold rg; omega) | (simp only [rg] at *; omega) | exact bz_rg _ | grind [rg]) ?_
  refine a_tableIn (pc := 42) (off := 301) (tgt := 343) ok dL_act_42 (by unfold rg; omega) (by omega) (by omega) (by rw [q0]; rfl) (by decide) ?_
  refine a_iload_n (pc := 343) ok dL_act_343 rfl ?_
  refine a_iconst (pc := 344) ok dL_act_344 ?_
  refine a_irem (pc := 345) ok dL_act_345 (by first | exact rg_w _ | exact rg_tw (by unfold rg; omega) (by unfold rg; omega) | omega | (unfold rg; omega) | (simp only [rg] at *; omega) | exact bz_rg _ | grind [rg]) (by first | exact rg_w _ | exact rg_tw (by unfold rg; omega) (by unfold rg; omega) | omega | (unfold rg; omega) | (simp only [rg] at *; omega) | exact bz_rg _ | grind [rg]) ?_
  refine a_if_ne (pc := 346) (tgt := 365) ok dL_act_346 (by decide) (by first | exact rg_w _ | exact rg_tw (by unfold rg; omega) (by unfold rg; omega) | omega | (unfold rg; omega) | (simp only [rg] at *; omega) | exact bz_rg _ | grind [rg]) (fun c346 => ?_) (fun c346 => ?_)
  · refine a_aload_n (pc := 365) ok dL_act_365 rfl ?_
    refine a_bipush (pc := 366) ok dL_act_366 (by decide) ?_
    refine a_iload_n (pc := 368) ok dL_act_368 rfl ?_
    refine a_iconst (pc := 369) ok dL_act_369 ?_
    refine a_idiv (pc := 370) ok dL_act_370 (by first | exact rg_w _ | exact rg_tw (by unfold rg; omega) (by unfold rg; omega) | omega | (unfold rg; omega) | (simp only [rg] at *; omega) | exact bz_rg _ | grind [rg]) (by first | exact rg_w _ | exact rg_tw (by unfold rg; omega) (by unfold rg; omega) | omega | (unfold rg; omega) | (simp only [rg] at *; omega) | exact bz_rg _ | grind [rg]) ?_
    refine a_iconst (pc := 371) ok dL_act_371 ?_
    refine a_irem (pc := 372) ok dL_act_372 (by first | exact rg_w _ | exact rg_tw (by unfold rg; omega) (by unfold rg; omega) | omega | (unfold rg; omega) | (simp only [rg] at *; omega) | exact bz_rg _ | grind [rg]) (by first | exact rg_w _ | exact rg_tw (by unfold rg; omega) (by unfold rg; omega) | omega | (unfold rg; omega) | (simp only [rg] at *; omega) | exact bz_rg _ | grind [rg]) ?_
    refine a_iconst (pc := 373) ok dL_act_373 ?_
    refine a_iconst (pc := 374) ok dL_act_374 ?_
    refine v_o (pc := 375) ok ex gk.1 dL_act_375 (ug2 16 (by decide +kernel) rfl) (ug2 17 (by decide +kernel) rfl) miL_call hW (C_22 hl hA hW (v := x / 16 / 2 % 2) (u2 := 0) (u3 := 0) (by unfold rg; omega)) ⟨by decide, by decide⟩ ⟨Nat.le_of_ble_eq_true rfl, Nat.le_of_ble_eq_true rfl⟩ rfl rfl (Nat.le_of_ble_eq_true rfl) ?_
    intro M hW
    refine AW.widen (kc2 := rgL_act.cells) (ks2 := rgL_act.slots) (Nat.le_of_ble_eq_true rfl) (Nat.le_of_ble_eq_true rfl) ?_
    exact a_iret (pc := 378) ok dL_act_378 (⟨rfl, hW⟩)
  · exfalso; first | omega | grind
theorem act_13 (hl : l.stackTraces = false) (hA : VA A) (hW : WO A M) {x : Int} (hx : 0 ≤ x ∧ x < 2147483648) (q0 : 12 < x % 16) : CtV l yL_act cL_act 7 (some .int) rgL_act [.ref 0, iv x] M (po1 (tw (kIn (1 + x / 16 % 50) 1 50) (-9999002) (-9999002) (cntK (fun j => decide (noF (sG (jS A)) (x / 16) (1 + x / 16 % 50) j ≠ sG (jS A) j)) (sC (jS A) * sR (jS A)).toNat)) ((if kIn (1 + x / 16 % 50) 1 50 = 0 then jAct A (gO (jS A) (x / 16) (1 + x / 16 % 50)) else A))) := by
  have f := VA_d hA
  obtain ⟨f1, f2, f3, f4, f5⟩ := f
  have g1 : 0 ≤ x / 16 % sC (jS A) ∧ x / 16 % sC (jS A) < sC (jS A) := ⟨Int.emod_nonneg _ (by omega), Int.emod_lt_of_pos _ (by omega)⟩
  have g2 : 0 ≤ x / 16 / 8 % sR (jS A) ∧ x / 16 / 8 % sR (jS A) < sR (jS A) := ⟨Int.emod_nonneg _ (by omega), Int.emod_lt_of_pos _ (by omega)⟩
  refine CtV.of hl miL_act (Nat.le_of_ble_eq_true rfl) (po1_cl hW) ?_
  intro X hXl hN gk ex
  subst hXl
  have ok := gk.ok
  refine AW.cast (L2 := [some (.ref 0), some (iv x), none, none, none, none, none]) ?_ rfl rfl rfl
  refine a_iload_n (pc := 0) ok dL_act_0 rfl ?_
  refine a_bipush (pc := 1) ok dL_act_1 (by decide) ?_
  refine a_idiv (pc := 3) ok dL_act_3 (by first | exact rg_w _ | exact rg_tw (by unfold rg; omega) (by unfold rg; omega) | omega | (unfold rg; omega) | (simp only [rg] at *; omega) | exact bz_rg _ | grind [rg]) (by first | exact rg_w _ | exact rg_tw (by unfold rg; omega) (by unfold rg; omega) | omega | (unfold rg; omega) | (simp only [rg] at *; omega) | exact bz_rg _ | grind [rg]) ?_
  refine a_istore_n (pc := 4) ok dL_act_4 rfl (by rw [hN]; decide) ?_
  refine a_aload_n (pc := 5) ok dL_act_5 rfl ?_
  refine a_iconst (pc := 6) ok dL_act_6 ?_
  refine a_iconst (pc := 7) ok dL_act_7 ?_
  refine a_iconst (pc := 8) ok dL_act_8 ?_
  refine a_iconst (pc := 9) ok dL_act_9 ?_
  refine v_o (pc := 10) ok ex gk.1 dL_act_10 (ug2 16 (by decide +kernel) rfl) (ug2 17 (by decide +kernel) rfl) miL_call hW (AB0 hl hA hW) ⟨by decide, by decide⟩ ⟨Nat.le_of_ble_eq_true rfl, Nat.le_of_ble_eq_true rfl⟩ rfl rfl (Nat.le_of_ble_eq_true rfl) ?_
  intro M hW
  refine a_istore_n (pc := 13) ok dL_act_13 rfl (by rw [hN]; decide) ?_
  refine a_aload_n (pc := 14) ok dL_act_14 rfl ?_
  refine a_iconst (pc := 15) ok dL_act_15 ?_
  refine a_iconst (pc := 16) ok dL_act_16 ?_
  refine a_iconst (pc := 17) ok dL_act_17 ?_
  refine a_iconst (pc := 18) ok dL_act_18 ?_
  refine v_o (pc := 19) ok ex gk.1 dL_act_19 (ug2 16 (by decide +kernel) rfl) (ug2 17 (by decide +kernel) rfl) miL_call hW (AB1 hl hA hW) ⟨by decide, by decide⟩ ⟨Nat.le_of_ble_eq_true rfl, Nat.le_of_ble_eq_true rfl⟩ rfl rfl (Nat.le_of_ble_eq_true rfl) ?_
  intro M hW
  refine a_istore (pc := 22) ok dL_act_22 rfl (by rw [hN]; decide) ?_
  refine a_iload_n (pc := 24) ok dL_act_24 rfl ?_
  refine a_iload_n (pc := 25) ok dL_act_25 rfl ?_
  refine a_irem (pc := 26) ok dL_act_26 (by first | exact rg_w _ | exact rg_tw (by unfold rg; omega) (by unfold rg; omega) | omega | (unfold rg; omega) | (simp only [rg] at *; omega) | exact bz_rg _ | grind [rg]) (by first | exact rg_w _ | exact rg_tw (by unfold rg; omega) (by unfold rg; omega) | omega | (unfold rg; omega) | (simp only [rg] at *; omega) | exact bz_rg _ | grind [rg]) ?_
  refine a_istore (pc := 27) ok dL_act_27 rfl (by rw [hN]; decide) ?_
  refine a_iload_n (pc := 29) ok dL_act_29 rfl ?_
  refine a_bipush (pc := 30) ok dL_act_30 (by decide) ?_
  refine a_idiv (pc := 32) ok dL_act_32 (by first | exact rg_w _ | exact rg_tw (by unfold rg; omega) (by unfold rg; omega) | omega | (unfold rg; omega) | (simp only [rg] at *; omega) | exact bz_rg _ | grind [rg]) (by first | exact rg_w _ | exact rg_tw (by unfold rg; omega) (by unfold rg; omega) | omega | (unfold rg; omega) | (simp only [rg] at *; omega) | exact bz_rg _ | grind [rg]) ?_
  refine a_iload (pc := 33) ok dL_act_33 rfl ?_
  refine a_irem (pc := 35) ok dL_act_35 (by first | exact rg_w _ | exact rg_tw (by unfold rg; omega) (by unfold rg; omega) | omega | (unfold rg; omega) | (simp only [rg] at *; omega) | exact bz_rg _ | grind [rg]) (by first | exact rg_w _ | exact rg_tw (by unfold rg; omega) (by unfold rg; omega) | omega | (unfold rg; omega) | (simp only [rg] at *; omega) | exact bz_rg _ | grind [rg]) ?_
  refine a_istore (pc := 36) ok dL_act_36 rfl (by rw [hN]; decide) ?_
  refine a_iload_n (pc := 38) ok dL_act_38 rfl ?_
  refine a_bipush (pc := 39) ok dL_act_39 (by decide) ?_
  refine a_irem (pc := 41) ok dL_act_41 (by first | exact rg_w _ | exact rg_tw (by unfold rg; omega) (by unfold rg; omega) | omega | (unfold rg; omega) | (simp only [rg] at *; omega) | exact bz_rg _ | grind [rg]) (by first | exact rg_w _ | exact rg_tw (by unfold rg; omega) (by unfold rg; omega) | omega | (unfold rg; omega) | (simp only [rg] at *; omega) | exact bz_rg _ | grind [rg]) ?_
  refine a_tableOut (pc := 42) (tgt := 379) ok dL_act_42 (by unfold rg; omega) (Or.inr (by omega)) (by decide) ?_
  refine a_aload_n (pc := 379) ok dL_act_379 rfl ?_
  refine a_iload_n (pc := 380) ok dL_act_380 rfl ?_
  refine a_i2l (pc := 381) ok dL_act_381 (by first | exact rg_w _ | exact rg_tw (by unfold rg; omega) (by unfold rg; omega) | omega | (unfold rg; omega) | (simp only [rg] at *; omega) | exact bz_rg _ | grind [rg]) ?_
  refine a_iconst (pc := 382) ok dL_act_382 ?_
  refine a_iload_n (pc := 383) ok dL_act_383 rfl ?_
  refine a_bipush (pc := 384) ok dL_act_384 (by decide) ?_
  refine a_irem (pc := 386) ok dL_act_386 (by first | exact rg_w _ | exact rg_tw (by unfold rg; omega) (by unfold rg; omega) | omega | (unfold rg; omega) | (simp only [rg] at *; omega) | exact bz_rg _ | grind [rg]) (by first | exact rg_w _ | exact rg_tw (by unfold rg; omega) (by unfold rg; omega) | omega | (unfold rg; omega) | (simp only [rg] at *; omega) | exact bz_rg _ | grind [rg]) ?_
  refine a_iadd (pc := 387) ok dL_act_387 ?_
  refine w_o (pc := 388) ok ex dL_act_388 (ug4 228 (by decide +kernel) rfl) (ug4 229 (by decide +kernel) rfl) miL_noises hW (T_noises hl hA hW (x := x / 16) (v := 1 + x / 16 % 50) (by unfold rg; omega)) ⟨by decide, by decide, rfl, rfl⟩ ⟨Nat.le_of_ble_eq_true rfl, Nat.le_of_ble_eq_true rfl⟩ rfl rfl (Nat.le_of_ble_eq_true rfl) ?_
  intro M hW
  refine AW.widen (kc2 := rgL_act.cells) (ks2 := rgL_act.slots) (Nat.le_of_ble_eq_true rfl) (Nat.le_of_ble_eq_true rfl) ?_
  exact a_iret (pc := 391) ok dL_act_391 (⟨rfl, hW⟩)
theorem VA_if {K : Int} {A' : Ob} (hA : VA A) (h : K = 0 → VA A') : VA (if K = 0 then A' else A) := by
  split
  · rename_i z; exact h z
  · exact hA
theorem VB_if {K : Int} {A' : Ob} (hB : VB A) (h : K = 0 → VB A') : VB (if K = 0 then A' else A) := by
  split
  · rename_i z; exact h z
  · exact hB
theorem VB_act (h : VB A) {T : St} (hT : SB T) : VB (jAct A T) := by
  refine ⟨hT, fun i => ?_, h.2.2⟩
  show SB (σP (jS A) (jX A) (jG A) i)
  unfold σP; split; exact h.1; exact h.2.1 i
theorem VB_undo (h : VB A) : VB (jUndo A) := ⟨h.2.1 _, h.2.1, h.2.2⟩
theorem VB_save (h : VB A) {v : Int} : VB (jSave A v) := by
  refine ⟨h.1, h.2.1, ?_, ?_⟩
  · show SB (if v = 0 then jS A else j0 A); split; exact h.1; exact h.2.2.1
  · show SB (if v = 0 then j1 A else jS A); split; exact h.2.2.2; exact h.1
theorem VB_rest (h : VB A) {v : Int} : VB (jRest A v) := by
  refine ⟨?_, h.2.1, h.2.2⟩
  show SB (if v = 0 then j0 A else j1 A); split; exact h.2.2.1; exact h.2.2.2
theorem kPart_T {S : St} {v b : Int} (h : kPart S v b = 0) : kT S v b := by
  unfold kPart at h
  split at h
  · omega
  · split at h
    · rename_i z z2
      have z : 1 ≤ v ∧ v ≤ 99 := Classical.not_not.mp z
      exact ⟨z.1, z.2, z2⟩
    · omega
theorem H_act (hA : VA A) (hB : VB A) {x : Int} (hx : 0 ≤ x ∧ x < 2147483648) : ∃ (z : Int) (A' : Ob), rg z ∧ VA A' ∧ VB A' ∧ ∀ {l : Launch} {M : List va_E}, l.stackTraces = false → WO A M → CtV l yL_act cL_act 7 (some .int) rgL_act [.ref 0, iv x] M (po1 z A') := by
  have e1 : rg (-9999001) := by unfold rg; omega
  have e2 : rg (-9999002) := by unfold rg; omega
  have e3 : rg (-9999003) := by unfold rg; omega
  rcases (show x % 16 = 0 ∨ x % 16 = 1 ∨ x % 16 = 2 ∨ x % 16 = 3 ∨ x % 16 = 4 ∨ x % 16 = 5 ∨ x % 16 = 6 ∨ x % 16 = 7 ∨ x % 16 = 8 ∨ x % 16 = 9 ∨ x % 16 = 10 ∨ x % 16 = 11 ∨ x % 16 = 12 ∨ 12 < x % 16 by omega) with q0 | q0 | q0 | q0 | q0 | q0 | q0 | q0 | q0 | q0 | q0 | q0 | q0 | q0
  · exact ⟨_, _, rg_tw e2 e2, VA_if hA (fun h => VA_act hA (SV_stN hA.1 (by unfold dim; omega))), VB_if hB (fun h => VB_act hB (SB_stN hB.1 (by omega) (by omega))), fun hl hW => act_0 hl hA hW hx q0⟩
  · exact ⟨_, _, rg_tw e1 e2, VA_if hA (fun h => VA_act hA (SV_gP hA.1 (by omega))), VB_if hB (fun h => VB_act hB (SB_setG hB.1)), fun hl hW => act_1 hl hA hW hx q0⟩
  · exact ⟨_, _, rg_tw e1 e2, VA_if hA (fun h => VA_act hA (SV_gP hA.1 (by omega))), VB_if hB (fun h => VB_act hB (SB_setG hB.1)), fun hl hW => act_2 hl hA hW hx q0⟩
  · exact ⟨_, _, rg_tw e1 e2, VA_if hA (fun h => VA_act hA (SV_gB hA.1 (by omega))), VB_if hB (fun h => VB_act hB (SB_setG hB.1)), fun hl hW => act_3 hl hA hW hx q0⟩
  · exact ⟨_, _, rg_tw e1 e2, VA_if hA (fun h => VA_act hA (SV_gB hA.1 (by omega))), VB_if hB (fun h => VB_act hB (SB_setG hB.1)), fun hl hW => act_4 hl hA hW hx q0⟩
  · exact ⟨_, _, rg_tw e1 e2, VA_if hA (fun h => VA_act hA (SV_gB hA.1 (by omega))), VB_if hB (fun h => VB_act hB (SB_setG hB.1)), fun hl hW => act_5 hl hA hW hx q0⟩
  · rcases (show 0 < x / 16 / 99 % 3 ∨ x / 16 / 99 % 3 = 0 by omega) with q1 | q1
    · exact ⟨_, _, rg_tw e2 e3, VA_if hA (fun h => VA_act hA (SV_gT hA.1 (kPart_T h))), VB_if hB (fun h => VB_act hB (SB_gT hB.1 (by omega))), fun hl hW => act_6a hl hA hW hx q0 q1⟩
    · exact ⟨_, _, rg_tw e2 e3, VA_if hA (fun h => VA_act hA (SV_gT hA.1 (kPart_T h))), VB_if hB (fun h => VB_act hB (SB_gT hB.1 (by omega))), fun hl hW => act_6b hl hA hW hx q0 q1⟩
  · exact ⟨_, _, rg_tw e2 e2, VA_if hA (fun h => VA_act hA (SV_setE hA.1 (by omega))), VB_if hB (fun h => VB_act hB (SB_setE hB.1)), fun hl hW => act_7 hl hA hW hx q0⟩
  · rcases (show x / 16 % 2 = 0 ∨ x / 16 % 2 = 1 by omega) with q1 | q1
    · exact ⟨_, _, rg_tw e1 e2, VA_if hA (fun h => VA_act hA (SV_setH hA.1)), VB_if hB (fun h => VB_act hB (SB_setH hB.1 (by omega))), fun hl hW => act_8a hl hA hW hx q0 q1⟩
    · exact ⟨_, _, rg_tw e2 e2, VA_if hA (fun h => VA_act hA (SV_setI hA.1)), VB_if hB (fun h => VB_act hB (SB_setI hB.1 (by omega))), fun hl hW => act_8b hl hA hW hx q0 q1⟩
  · exact ⟨_, _, rg_tw e2 e2, VA_if hA (fun h => VA_act hA (SV_gH hA.1 (by omega))), VB_if hB (fun h => VB_act hB (SB_gH hB.1)), fun hl hW => act_9 hl hA hW hx q0⟩
  · rcases (show x / 16 % 3 = 0 ∨ x / 16 % 3 = 1 ∨ x / 16 % 3 = 2 by omega) with q1 | q1 | q1
    · exact ⟨_, _, rg_w _, VA_act hA (SV_gU hA.1), VB_act hB (SB_setG hB.1), fun hl hW => act_10a hl hA hW hx q0 q1⟩
    · exact ⟨_, _, rg_w _, VA_act hA (SV_gI hA.1), VB_act hB (SB_setG hB.1), fun hl hW => act_10b hl hA hW hx q0 q1⟩
    · exact ⟨_, _, rg_tw e2 e2, VA_if hA (fun h => VA_act hA (SV_gQ hA.1 (by omega))), VB_if hB (fun h => VB_act hB (SB_setG hB.1)), fun hl hW => act_10c hl hA hW hx q0 q1⟩
  · exact ⟨_, _, rg_tw e3 e3, VA_if hA (fun h => VA_undo hA (kUndo_0 h)), VB_if hB (fun h => VB_undo hB), fun hl hW => act_11 hl hA hW hx q0⟩
  · rcases (show x / 16 % 2 = 0 ∨ x / 16 % 2 = 1 by omega) with q1 | q1
    · exact ⟨_, _, rg_tw e1 e1, VA_if hA (fun h => VA_save hA), VB_if hB (fun h => VB_save hB), fun hl hW => act_12a hl hA hW hx q0 q1⟩
    · exact ⟨_, _, rg_tw e1 e3, VA_if hA (fun h => VA_rest hA), VB_if hB (fun h => VB_rest hB), fun hl hW => act_12b hl hA hW hx q0 q1⟩
  · exact ⟨_, _, rg_tw e2 e2, VA_if hA (fun h => VA_act hA (SV_gO hA.1)), VB_if hB (fun h => VB_act hB (SB_setG hB.1)), fun hl hW => act_13 hl hA hW hx q0⟩
end AC9
