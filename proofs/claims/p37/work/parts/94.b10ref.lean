/-! THE LAW: calls that are refused. Printed by wip/p37/gen/mkref.py. -/
abbrev rgL_refuses : Room := { frames := 11, cells := 60, slots := 360, locals := 268 }
theorem miL_refuses : MI yL_refuses cL_refuses 8 (some .boolean) 2 := ⟨ug2 15 (by exact rfl) rfl, by decide +kernel, by decide +kernel, ug1 0 (by decide +kernel) rfl⟩
theorem dL_refuses_0 : decode cL_refuses 0 = .ok (.aload_n 0, 1) := by decide +kernel
theorem dL_refuses_1 : decode cL_refuses 1 = .ok (.iconst 2, 1) := by decide +kernel
theorem dL_refuses_2 : decode cL_refuses 2 = .ok (.iconst 0, 1) := by decide +kernel
theorem dL_refuses_3 : decode cL_refuses 3 = .ok (.iconst 0, 1) := by decide +kernel
theorem dL_refuses_4 : decode cL_refuses 4 = .ok (.iconst 0, 1) := by decide +kernel
theorem dL_refuses_5 : decode cL_refuses 5 = .ok (.invokestatic 191, 3) := by decide +kernel
theorem dL_refuses_8 : decode cL_refuses 8 = .ok (.istore_n 2, 1) := by decide +kernel
theorem dL_refuses_9 : decode cL_refuses 9 = .ok (.aload_n 0, 1) := by decide +kernel
theorem dL_refuses_10 : decode cL_refuses 10 = .ok (.iconst 2, 1) := by decide +kernel
theorem dL_refuses_11 : decode cL_refuses 11 = .ok (.iconst 1, 1) := by decide +kernel
theorem dL_refuses_12 : decode cL_refuses 12 = .ok (.iconst 0, 1) := by decide +kernel
theorem dL_refuses_13 : decode cL_refuses 13 = .ok (.iconst 0, 1) := by decide +kernel
theorem dL_refuses_14 : decode cL_refuses 14 = .ok (.invokestatic 191, 3) := by decide +kernel
theorem dL_refuses_17 : decode cL_refuses 17 = .ok (.istore_n 3, 1) := by decide +kernel
theorem dL_refuses_18 : decode cL_refuses 18 = .ok (.iload_n 1, 1) := by decide +kernel
theorem dL_refuses_19 : decode cL_refuses 19 = .ok (.iconst 2, 1) := by decide +kernel
theorem dL_refuses_20 : decode cL_refuses 20 = .ok (.irem, 1) := by decide +kernel
theorem dL_refuses_21 : decode cL_refuses 21 = .ok (.ifCond .ne 12, 3) := by decide +kernel
theorem dL_refuses_24 : decode cL_refuses 24 = .ok (.iconst (-1), 1) := by decide +kernel
theorem dL_refuses_25 : decode cL_refuses 25 = .ok (.iload_n 1, 1) := by decide +kernel
theorem dL_refuses_26 : decode cL_refuses 26 = .ok (.bipush 99, 2) := by decide +kernel
theorem dL_refuses_28 : decode cL_refuses 28 = .ok (.irem, 1) := by decide +kernel
theorem dL_refuses_29 : decode cL_refuses 29 = .ok (.isub, 1) := by decide +kernel
theorem dL_refuses_30 : decode cL_refuses 30 = .ok (.goto 9, 3) := by decide +kernel
theorem dL_refuses_33 : decode cL_refuses 33 = .ok (.iload_n 2, 1) := by decide +kernel
theorem dL_refuses_34 : decode cL_refuses 34 = .ok (.iload_n 1, 1) := by decide +kernel
theorem dL_refuses_35 : decode cL_refuses 35 = .ok (.bipush 99, 2) := by decide +kernel
theorem dL_refuses_37 : decode cL_refuses 37 = .ok (.irem, 1) := by decide +kernel
theorem dL_refuses_38 : decode cL_refuses 38 = .ok (.iadd, 1) := by decide +kernel
theorem dL_refuses_39 : decode cL_refuses 39 = .ok (.istore 4, 2) := by decide +kernel
theorem dL_refuses_41 : decode cL_refuses 41 = .ok (.iload_n 1, 1) := by decide +kernel
theorem dL_refuses_42 : decode cL_refuses 42 = .ok (.iconst 2, 1) := by decide +kernel
theorem dL_refuses_43 : decode cL_refuses 43 = .ok (.irem, 1) := by decide +kernel
theorem dL_refuses_44 : decode cL_refuses 44 = .ok (.ifCond .ne 12, 3) := by decide +kernel
theorem dL_refuses_47 : decode cL_refuses 47 = .ok (.iconst (-1), 1) := by decide +kernel
theorem dL_refuses_48 : decode cL_refuses 48 = .ok (.iload_n 1, 1) := by decide +kernel
theorem dL_refuses_49 : decode cL_refuses 49 = .ok (.bipush 99, 2) := by decide +kernel
theorem dL_refuses_51 : decode cL_refuses 51 = .ok (.irem, 1) := by decide +kernel
theorem dL_refuses_52 : decode cL_refuses 52 = .ok (.isub, 1) := by decide +kernel
theorem dL_refuses_53 : decode cL_refuses 53 = .ok (.goto 9, 3) := by decide +kernel
theorem dL_refuses_56 : decode cL_refuses 56 = .ok (.iload_n 3, 1) := by decide +kernel
theorem dL_refuses_57 : decode cL_refuses 57 = .ok (.iload_n 1, 1) := by decide +kernel
theorem dL_refuses_58 : decode cL_refuses 58 = .ok (.bipush 99, 2) := by decide +kernel
theorem dL_refuses_60 : decode cL_refuses 60 = .ok (.irem, 1) := by decide +kernel
theorem dL_refuses_61 : decode cL_refuses 61 = .ok (.iadd, 1) := by decide +kernel
theorem dL_refuses_62 : decode cL_refuses 62 = .ok (.istore 5, 2) := by decide +kernel
theorem dL_refuses_64 : decode cL_refuses 64 = .ok (.iload_n 1, 1) := by decide +kernel
theorem dL_refuses_65 : decode cL_refuses 65 = .ok (.iconst 2, 1) := by decide +kernel
theorem dL_refuses_66 : decode cL_refuses 66 = .ok (.irem, 1) := by decide +kernel
theorem dL_refuses_67 : decode cL_refuses 67 = .ok (.ifCond .ne 12, 3) := by decide +kernel
theorem dL_refuses_70 : decode cL_refuses 70 = .ok (.iconst (-1), 1) := by decide +kernel
theorem dL_refuses_71 : decode cL_refuses 71 = .ok (.iload_n 1, 1) := by decide +kernel
theorem dL_refuses_72 : decode cL_refuses 72 = .ok (.bipush 9, 2) := by decide +kernel
theorem dL_refuses_74 : decode cL_refuses 74 = .ok (.irem, 1) := by decide +kernel
theorem dL_refuses_75 : decode cL_refuses 75 = .ok (.isub, 1) := by decide +kernel
theorem dL_refuses_76 : decode cL_refuses 76 = .ok (.goto 11, 3) := by decide +kernel
theorem dL_refuses_79 : decode cL_refuses 79 = .ok (.sipush 144, 3) := by decide +kernel
theorem dL_refuses_82 : decode cL_refuses 82 = .ok (.iload_n 1, 1) := by decide +kernel
theorem dL_refuses_83 : decode cL_refuses 83 = .ok (.bipush 9, 2) := by decide +kernel
theorem dL_refuses_85 : decode cL_refuses 85 = .ok (.irem, 1) := by decide +kernel
theorem dL_refuses_86 : decode cL_refuses 86 = .ok (.iadd, 1) := by decide +kernel
theorem dL_refuses_87 : decode cL_refuses 87 = .ok (.istore 6, 2) := by decide +kernel
theorem dL_refuses_89 : decode cL_refuses 89 = .ok (.iload_n 1, 1) := by decide +kernel
theorem dL_refuses_90 : decode cL_refuses 90 = .ok (.iconst 2, 1) := by decide +kernel
theorem dL_refuses_91 : decode cL_refuses 91 = .ok (.irem, 1) := by decide +kernel
theorem dL_refuses_92 : decode cL_refuses 92 = .ok (.ifCond .ne 12, 3) := by decide +kernel
theorem dL_refuses_95 : decode cL_refuses 95 = .ok (.iconst (-1), 1) := by decide +kernel
theorem dL_refuses_96 : decode cL_refuses 96 = .ok (.iload_n 1, 1) := by decide +kernel
theorem dL_refuses_97 : decode cL_refuses 97 = .ok (.bipush 99, 2) := by decide +kernel
theorem dL_refuses_99 : decode cL_refuses 99 = .ok (.irem, 1) := by decide +kernel
theorem dL_refuses_100 : decode cL_refuses 100 = .ok (.isub, 1) := by decide +kernel
theorem dL_refuses_101 : decode cL_refuses 101 = .ok (.goto 10, 3) := by decide +kernel
theorem dL_refuses_104 : decode cL_refuses 104 = .ok (.bipush 100, 2) := by decide +kernel
theorem dL_refuses_106 : decode cL_refuses 106 = .ok (.iload_n 1, 1) := by decide +kernel
theorem dL_refuses_107 : decode cL_refuses 107 = .ok (.bipush 99, 2) := by decide +kernel
theorem dL_refuses_109 : decode cL_refuses 109 = .ok (.irem, 1) := by decide +kernel
theorem dL_refuses_110 : decode cL_refuses 110 = .ok (.iadd, 1) := by decide +kernel
theorem dL_refuses_111 : decode cL_refuses 111 = .ok (.istore 7, 2) := by decide +kernel
theorem dL_refuses_113 : decode cL_refuses 113 = .ok (.aload_n 0, 1) := by decide +kernel
theorem dL_refuses_114 : decode cL_refuses 114 = .ok (.iconst 0, 1) := by decide +kernel
theorem dL_refuses_115 : decode cL_refuses 115 = .ok (.iload_n 1, 1) := by decide +kernel
theorem dL_refuses_116 : decode cL_refuses 116 = .ok (.iconst 2, 1) := by decide +kernel
theorem dL_refuses_117 : decode cL_refuses 117 = .ok (.irem, 1) := by decide +kernel
theorem dL_refuses_118 : decode cL_refuses 118 = .ok (.ifCond .ne 12, 3) := by decide +kernel
theorem dL_refuses_121 : decode cL_refuses 121 = .ok (.iconst (-1), 1) := by decide +kernel
theorem dL_refuses_122 : decode cL_refuses 122 = .ok (.iload_n 1, 1) := by decide +kernel
theorem dL_refuses_123 : decode cL_refuses 123 = .ok (.bipush 9, 2) := by decide +kernel
theorem dL_refuses_125 : decode cL_refuses 125 = .ok (.irem, 1) := by decide +kernel
theorem dL_refuses_126 : decode cL_refuses 126 = .ok (.isub, 1) := by decide +kernel
theorem dL_refuses_127 : decode cL_refuses 127 = .ok (.goto 11, 3) := by decide +kernel
theorem dL_refuses_130 : decode cL_refuses 130 = .ok (.sipush 256, 3) := by decide +kernel
theorem dL_refuses_133 : decode cL_refuses 133 = .ok (.iload_n 1, 1) := by decide +kernel
theorem dL_refuses_134 : decode cL_refuses 134 = .ok (.bipush 9, 2) := by decide +kernel
theorem dL_refuses_136 : decode cL_refuses 136 = .ok (.irem, 1) := by decide +kernel
theorem dL_refuses_137 : decode cL_refuses 137 = .ok (.iadd, 1) := by decide +kernel
theorem dL_refuses_138 : decode cL_refuses 138 = .ok (.iconst 0, 1) := by decide +kernel
theorem dL_refuses_139 : decode cL_refuses 139 = .ok (.iconst 0, 1) := by decide +kernel
theorem dL_refuses_140 : decode cL_refuses 140 = .ok (.invokestatic 191, 3) := by decide +kernel
theorem dL_refuses_143 : decode cL_refuses 143 = .ok (.ldc 15, 2) := by decide +kernel
theorem dL_refuses_145 : decode cL_refuses 145 = .ok (.if_icmp .ne 843, 3) := by decide +kernel
theorem dL_refuses_148 : decode cL_refuses 148 = .ok (.aload_n 0, 1) := by decide +kernel
theorem dL_refuses_149 : decode cL_refuses 149 = .ok (.iconst 2, 1) := by decide +kernel
theorem dL_refuses_150 : decode cL_refuses 150 = .ok (.bipush 11, 2) := by decide +kernel
theorem dL_refuses_152 : decode cL_refuses 152 = .ok (.iload_n 1, 1) := by decide +kernel
theorem dL_refuses_153 : decode cL_refuses 153 = .ok (.bipush 50, 2) := by decide +kernel
theorem dL_refuses_155 : decode cL_refuses 155 = .ok (.irem, 1) := by decide +kernel
theorem dL_refuses_156 : decode cL_refuses 156 = .ok (.iadd, 1) := by decide +kernel
theorem dL_refuses_157 : decode cL_refuses 157 = .ok (.iconst 0, 1) := by decide +kernel
theorem dL_refuses_158 : decode cL_refuses 158 = .ok (.iconst 0, 1) := by decide +kernel
theorem dL_refuses_159 : decode cL_refuses 159 = .ok (.invokestatic 191, 3) := by decide +kernel
theorem dL_refuses_162 : decode cL_refuses 162 = .ok (.ldc 15, 2) := by decide +kernel
theorem dL_refuses_164 : decode cL_refuses 164 = .ok (.if_icmp .ne 824, 3) := by decide +kernel
theorem dL_refuses_167 : decode cL_refuses 167 = .ok (.aload_n 0, 1) := by decide +kernel
theorem dL_refuses_168 : decode cL_refuses 168 = .ok (.iconst 3, 1) := by decide +kernel
theorem dL_refuses_169 : decode cL_refuses 169 = .ok (.iload 4, 2) := by decide +kernel
theorem dL_refuses_171 : decode cL_refuses 171 = .ok (.iconst 0, 1) := by decide +kernel
theorem dL_refuses_172 : decode cL_refuses 172 = .ok (.bipush 9, 2) := by decide +kernel
theorem dL_refuses_174 : decode cL_refuses 174 = .ok (.invokestatic 191, 3) := by decide +kernel
theorem dL_refuses_177 : decode cL_refuses 177 = .ok (.ldc 25, 2) := by decide +kernel
theorem dL_refuses_179 : decode cL_refuses 179 = .ok (.if_icmp .ne 809, 3) := by decide +kernel
theorem dL_refuses_182 : decode cL_refuses 182 = .ok (.aload_n 0, 1) := by decide +kernel
theorem dL_refuses_183 : decode cL_refuses 183 = .ok (.iconst 3, 1) := by decide +kernel
theorem dL_refuses_184 : decode cL_refuses 184 = .ok (.iconst 0, 1) := by decide +kernel
theorem dL_refuses_185 : decode cL_refuses 185 = .ok (.iload 5, 2) := by decide +kernel
theorem dL_refuses_187 : decode cL_refuses 187 = .ok (.bipush 9, 2) := by decide +kernel
theorem dL_refuses_189 : decode cL_refuses 189 = .ok (.invokestatic 191, 3) := by decide +kernel
theorem dL_refuses_192 : decode cL_refuses 192 = .ok (.ldc 25, 2) := by decide +kernel
theorem dL_refuses_194 : decode cL_refuses 194 = .ok (.if_icmp .ne 794, 3) := by decide +kernel
theorem dL_refuses_197 : decode cL_refuses 197 = .ok (.aload_n 0, 1) := by decide +kernel
theorem dL_refuses_198 : decode cL_refuses 198 = .ok (.iconst 3, 1) := by decide +kernel
theorem dL_refuses_199 : decode cL_refuses 199 = .ok (.iload_n 1, 1) := by decide +kernel
theorem dL_refuses_200 : decode cL_refuses 200 = .ok (.iload_n 2, 1) := by decide +kernel
theorem dL_refuses_201 : decode cL_refuses 201 = .ok (.irem, 1) := by decide +kernel
theorem dL_refuses_202 : decode cL_refuses 202 = .ok (.iload_n 1, 1) := by decide +kernel
theorem dL_refuses_203 : decode cL_refuses 203 = .ok (.iload_n 3, 1) := by decide +kernel
theorem dL_refuses_204 : decode cL_refuses 204 = .ok (.irem, 1) := by decide +kernel
theorem dL_refuses_205 : decode cL_refuses 205 = .ok (.bipush 6, 2) := by decide +kernel
theorem dL_refuses_207 : decode cL_refuses 207 = .ok (.iload_n 1, 1) := by decide +kernel
theorem dL_refuses_208 : decode cL_refuses 208 = .ok (.bipush 9, 2) := by decide +kernel
theorem dL_refuses_210 : decode cL_refuses 210 = .ok (.irem, 1) := by decide +kernel
theorem dL_refuses_211 : decode cL_refuses 211 = .ok (.iadd, 1) := by decide +kernel
theorem dL_refuses_212 : decode cL_refuses 212 = .ok (.invokestatic 191, 3) := by decide +kernel
theorem dL_refuses_215 : decode cL_refuses 215 = .ok (.ldc 15, 2) := by decide +kernel
theorem dL_refuses_217 : decode cL_refuses 217 = .ok (.if_icmp .ne 771, 3) := by decide +kernel
theorem dL_refuses_220 : decode cL_refuses 220 = .ok (.aload_n 0, 1) := by decide +kernel
theorem dL_refuses_221 : decode cL_refuses 221 = .ok (.iconst 4, 1) := by decide +kernel
theorem dL_refuses_222 : decode cL_refuses 222 = .ok (.iload_n 1, 1) := by decide +kernel
theorem dL_refuses_223 : decode cL_refuses 223 = .ok (.iconst 2, 1) := by decide +kernel
theorem dL_refuses_224 : decode cL_refuses 224 = .ok (.irem, 1) := by decide +kernel
theorem dL_refuses_225 : decode cL_refuses 225 = .ok (.ifCond .ne 7, 3) := by decide +kernel
theorem dL_refuses_228 : decode cL_refuses 228 = .ok (.iconst (-1), 1) := by decide +kernel
theorem dL_refuses_229 : decode cL_refuses 229 = .ok (.goto 9, 3) := by decide +kernel
theorem dL_refuses_232 : decode cL_refuses 232 = .ok (.iconst 5, 1) := by decide +kernel
theorem dL_refuses_233 : decode cL_refuses 233 = .ok (.iload_n 1, 1) := by decide +kernel
theorem dL_refuses_234 : decode cL_refuses 234 = .ok (.bipush 9, 2) := by decide +kernel
theorem dL_refuses_236 : decode cL_refuses 236 = .ok (.irem, 1) := by decide +kernel
theorem dL_refuses_237 : decode cL_refuses 237 = .ok (.iadd, 1) := by decide +kernel
theorem dL_refuses_238 : decode cL_refuses 238 = .ok (.iconst 0, 1) := by decide +kernel
theorem dL_refuses_239 : decode cL_refuses 239 = .ok (.iconst 0, 1) := by decide +kernel
theorem dL_refuses_240 : decode cL_refuses 240 = .ok (.invokestatic 191, 3) := by decide +kernel
theorem dL_refuses_243 : decode cL_refuses 243 = .ok (.ldc 25, 2) := by decide +kernel
theorem dL_refuses_245 : decode cL_refuses 245 = .ok (.if_icmp .ne 743, 3) := by decide +kernel
theorem dL_refuses_248 : decode cL_refuses 248 = .ok (.aload_n 0, 1) := by decide +kernel
theorem dL_refuses_249 : decode cL_refuses 249 = .ok (.iconst 5, 1) := by decide +kernel
theorem dL_refuses_250 : decode cL_refuses 250 = .ok (.iload 6, 2) := by decide +kernel
theorem dL_refuses_252 : decode cL_refuses 252 = .ok (.bipush 9, 2) := by decide +kernel
theorem dL_refuses_254 : decode cL_refuses 254 = .ok (.iconst 0, 1) := by decide +kernel
theorem dL_refuses_255 : decode cL_refuses 255 = .ok (.invokestatic 191, 3) := by decide +kernel
theorem dL_refuses_258 : decode cL_refuses 258 = .ok (.ldc 25, 2) := by decide +kernel
theorem dL_refuses_260 : decode cL_refuses 260 = .ok (.if_icmp .ne 728, 3) := by decide +kernel
theorem dL_refuses_263 : decode cL_refuses 263 = .ok (.aload_n 0, 1) := by decide +kernel
theorem dL_refuses_264 : decode cL_refuses 264 = .ok (.bipush 6, 2) := by decide +kernel
theorem dL_refuses_266 : decode cL_refuses 266 = .ok (.iload 6, 2) := by decide +kernel
theorem dL_refuses_268 : decode cL_refuses 268 = .ok (.iconst 0, 1) := by decide +kernel
theorem dL_refuses_269 : decode cL_refuses 269 = .ok (.iconst 0, 1) := by decide +kernel
theorem dL_refuses_270 : decode cL_refuses 270 = .ok (.invokestatic 191, 3) := by decide +kernel
theorem dL_refuses_273 : decode cL_refuses 273 = .ok (.ldc 25, 2) := by decide +kernel
theorem dL_refuses_275 : decode cL_refuses 275 = .ok (.if_icmp .ne 713, 3) := by decide +kernel
theorem dL_refuses_278 : decode cL_refuses 278 = .ok (.aload_n 0, 1) := by decide +kernel
theorem dL_refuses_279 : decode cL_refuses 279 = .ok (.bipush 7, 2) := by decide +kernel
theorem dL_refuses_281 : decode cL_refuses 281 = .ok (.iconst 0, 1) := by decide +kernel
theorem dL_refuses_282 : decode cL_refuses 282 = .ok (.iconst 3, 1) := by decide +kernel
theorem dL_refuses_283 : decode cL_refuses 283 = .ok (.iload_n 1, 1) := by decide +kernel
theorem dL_refuses_284 : decode cL_refuses 284 = .ok (.bipush 9, 2) := by decide +kernel
theorem dL_refuses_286 : decode cL_refuses 286 = .ok (.irem, 1) := by decide +kernel
theorem dL_refuses_287 : decode cL_refuses 287 = .ok (.iadd, 1) := by decide +kernel
theorem dL_refuses_288 : decode cL_refuses 288 = .ok (.iconst 0, 1) := by decide +kernel
theorem dL_refuses_289 : decode cL_refuses 289 = .ok (.invokestatic 191, 3) := by decide +kernel
theorem dL_refuses_292 : decode cL_refuses 292 = .ok (.ldc 15, 2) := by decide +kernel
theorem dL_refuses_294 : decode cL_refuses 294 = .ok (.if_icmp .ne 694, 3) := by decide +kernel
theorem dL_refuses_297 : decode cL_refuses 297 = .ok (.aload_n 0, 1) := by decide +kernel
theorem dL_refuses_298 : decode cL_refuses 298 = .ok (.bipush 8, 2) := by decide +kernel
theorem dL_refuses_300 : decode cL_refuses 300 = .ok (.iconst 0, 1) := by decide +kernel
theorem dL_refuses_301 : decode cL_refuses 301 = .ok (.iconst (-1), 1) := by decide +kernel
theorem dL_refuses_302 : decode cL_refuses 302 = .ok (.iload_n 1, 1) := by decide +kernel
theorem dL_refuses_303 : decode cL_refuses 303 = .ok (.bipush 9, 2) := by decide +kernel
theorem dL_refuses_305 : decode cL_refuses 305 = .ok (.irem, 1) := by decide +kernel
theorem dL_refuses_306 : decode cL_refuses 306 = .ok (.isub, 1) := by decide +kernel
theorem dL_refuses_307 : decode cL_refuses 307 = .ok (.iconst 0, 1) := by decide +kernel
theorem dL_refuses_308 : decode cL_refuses 308 = .ok (.invokestatic 191, 3) := by decide +kernel
theorem dL_refuses_311 : decode cL_refuses 311 = .ok (.ldc 25, 2) := by decide +kernel
theorem dL_refuses_313 : decode cL_refuses 313 = .ok (.if_icmp .ne 675, 3) := by decide +kernel
theorem dL_refuses_316 : decode cL_refuses 316 = .ok (.aload_n 0, 1) := by decide +kernel
theorem dL_refuses_317 : decode cL_refuses 317 = .ok (.bipush 9, 2) := by decide +kernel
theorem dL_refuses_319 : decode cL_refuses 319 = .ok (.bipush 6, 2) := by decide +kernel
theorem dL_refuses_321 : decode cL_refuses 321 = .ok (.iload_n 1, 1) := by decide +kernel
theorem dL_refuses_322 : decode cL_refuses 322 = .ok (.bipush 9, 2) := by decide +kernel
theorem dL_refuses_324 : decode cL_refuses 324 = .ok (.irem, 1) := by decide +kernel
theorem dL_refuses_325 : decode cL_refuses 325 = .ok (.iadd, 1) := by decide +kernel
theorem dL_refuses_326 : decode cL_refuses 326 = .ok (.bipush 9, 2) := by decide +kernel
theorem dL_refuses_328 : decode cL_refuses 328 = .ok (.iconst 0, 1) := by decide +kernel
theorem dL_refuses_329 : decode cL_refuses 329 = .ok (.invokestatic 191, 3) := by decide +kernel
theorem dL_refuses_332 : decode cL_refuses 332 = .ok (.ldc 25, 2) := by decide +kernel
theorem dL_refuses_334 : decode cL_refuses 334 = .ok (.if_icmp .ne 654, 3) := by decide +kernel
theorem dL_refuses_337 : decode cL_refuses 337 = .ok (.aload_n 0, 1) := by decide +kernel
theorem dL_refuses_338 : decode cL_refuses 338 = .ok (.bipush 9, 2) := by decide +kernel
theorem dL_refuses_340 : decode cL_refuses 340 = .ok (.iconst 0, 1) := by decide +kernel
theorem dL_refuses_341 : decode cL_refuses 341 = .ok (.iconst 4, 1) := by decide +kernel
theorem dL_refuses_342 : decode cL_refuses 342 = .ok (.iload_n 1, 1) := by decide +kernel
theorem dL_refuses_343 : decode cL_refuses 343 = .ok (.bipush 9, 2) := by decide +kernel
theorem dL_refuses_345 : decode cL_refuses 345 = .ok (.irem, 1) := by decide +kernel
theorem dL_refuses_346 : decode cL_refuses 346 = .ok (.iadd, 1) := by decide +kernel
theorem dL_refuses_347 : decode cL_refuses 347 = .ok (.iconst 0, 1) := by decide +kernel
theorem dL_refuses_348 : decode cL_refuses 348 = .ok (.invokestatic 191, 3) := by decide +kernel
theorem dL_refuses_351 : decode cL_refuses 351 = .ok (.ldc 15, 2) := by decide +kernel
theorem dL_refuses_353 : decode cL_refuses 353 = .ok (.if_icmp .ne 635, 3) := by decide +kernel
theorem dL_refuses_356 : decode cL_refuses 356 = .ok (.aload_n 0, 1) := by decide +kernel
theorem dL_refuses_357 : decode cL_refuses 357 = .ok (.bipush 10, 2) := by decide +kernel
theorem dL_refuses_359 : decode cL_refuses 359 = .ok (.iload_n 1, 1) := by decide +kernel
theorem dL_refuses_360 : decode cL_refuses 360 = .ok (.iconst 2, 1) := by decide +kernel
theorem dL_refuses_361 : decode cL_refuses 361 = .ok (.irem, 1) := by decide +kernel
theorem dL_refuses_362 : decode cL_refuses 362 = .ok (.ifCond .ne 7, 3) := by decide +kernel
theorem dL_refuses_365 : decode cL_refuses 365 = .ok (.iconst 0, 1) := by decide +kernel
theorem dL_refuses_366 : decode cL_refuses 366 = .ok (.goto 10, 3) := by decide +kernel
theorem dL_refuses_369 : decode cL_refuses 369 = .ok (.bipush 13, 2) := by decide +kernel
theorem dL_refuses_371 : decode cL_refuses 371 = .ok (.iload_n 1, 1) := by decide +kernel
theorem dL_refuses_372 : decode cL_refuses 372 = .ok (.bipush 9, 2) := by decide +kernel
theorem dL_refuses_374 : decode cL_refuses 374 = .ok (.irem, 1) := by decide +kernel
theorem dL_refuses_375 : decode cL_refuses 375 = .ok (.iadd, 1) := by decide +kernel
theorem dL_refuses_376 : decode cL_refuses 376 = .ok (.iconst 1, 1) := by decide +kernel
theorem dL_refuses_377 : decode cL_refuses 377 = .ok (.iconst 0, 1) := by decide +kernel
theorem dL_refuses_378 : decode cL_refuses 378 = .ok (.invokestatic 191, 3) := by decide +kernel
theorem dL_refuses_381 : decode cL_refuses 381 = .ok (.ldc 15, 2) := by decide +kernel
theorem dL_refuses_383 : decode cL_refuses 383 = .ok (.if_icmp .ne 605, 3) := by decide +kernel
theorem dL_refuses_386 : decode cL_refuses 386 = .ok (.aload_n 0, 1) := by decide +kernel
theorem dL_refuses_387 : decode cL_refuses 387 = .ok (.bipush 10, 2) := by decide +kernel
theorem dL_refuses_389 : decode cL_refuses 389 = .ok (.iconst 1, 1) := by decide +kernel
theorem dL_refuses_390 : decode cL_refuses 390 = .ok (.iload_n 1, 1) := by decide +kernel
theorem dL_refuses_391 : decode cL_refuses 391 = .ok (.iconst 2, 1) := by decide +kernel
theorem dL_refuses_392 : decode cL_refuses 392 = .ok (.irem, 1) := by decide +kernel
theorem dL_refuses_393 : decode cL_refuses 393 = .ok (.ifCond .ne 7, 3) := by decide +kernel
theorem dL_refuses_396 : decode cL_refuses 396 = .ok (.iconst 0, 1) := by decide +kernel
theorem dL_refuses_397 : decode cL_refuses 397 = .ok (.goto 10, 3) := by decide +kernel
theorem dL_refuses_400 : decode cL_refuses 400 = .ok (.bipush 13, 2) := by decide +kernel
theorem dL_refuses_402 : decode cL_refuses 402 = .ok (.iload_n 1, 1) := by decide +kernel
theorem dL_refuses_403 : decode cL_refuses 403 = .ok (.bipush 9, 2) := by decide +kernel
theorem dL_refuses_405 : decode cL_refuses 405 = .ok (.irem, 1) := by decide +kernel
theorem dL_refuses_406 : decode cL_refuses 406 = .ok (.iadd, 1) := by decide +kernel
theorem dL_refuses_407 : decode cL_refuses 407 = .ok (.iconst 0, 1) := by decide +kernel
theorem dL_refuses_408 : decode cL_refuses 408 = .ok (.invokestatic 191, 3) := by decide +kernel
theorem dL_refuses_411 : decode cL_refuses 411 = .ok (.ldc 15, 2) := by decide +kernel
theorem dL_refuses_413 : decode cL_refuses 413 = .ok (.if_icmp .ne 575, 3) := by decide +kernel
theorem dL_refuses_416 : decode cL_refuses 416 = .ok (.aload_n 0, 1) := by decide +kernel
theorem dL_refuses_417 : decode cL_refuses 417 = .ok (.bipush 11, 2) := by decide +kernel
theorem dL_refuses_419 : decode cL_refuses 419 = .ok (.iload 4, 2) := by decide +kernel
theorem dL_refuses_421 : decode cL_refuses 421 = .ok (.iconst 0, 1) := by decide +kernel
theorem dL_refuses_422 : decode cL_refuses 422 = .ok (.sipush 200, 3) := by decide +kernel
theorem dL_refuses_425 : decode cL_refuses 425 = .ok (.invokestatic 191, 3) := by decide +kernel
theorem dL_refuses_428 : decode cL_refuses 428 = .ok (.ldc 25, 2) := by decide +kernel
theorem dL_refuses_430 : decode cL_refuses 430 = .ok (.if_icmp .ne 558, 3) := by decide +kernel
theorem dL_refuses_433 : decode cL_refuses 433 = .ok (.aload_n 0, 1) := by decide +kernel
theorem dL_refuses_434 : decode cL_refuses 434 = .ok (.bipush 11, 2) := by decide +kernel
theorem dL_refuses_436 : decode cL_refuses 436 = .ok (.iconst 0, 1) := by decide +kernel
theorem dL_refuses_437 : decode cL_refuses 437 = .ok (.iload 5, 2) := by decide +kernel
theorem dL_refuses_439 : decode cL_refuses 439 = .ok (.sipush 200, 3) := by decide +kernel
theorem dL_refuses_442 : decode cL_refuses 442 = .ok (.invokestatic 191, 3) := by decide +kernel
theorem dL_refuses_445 : decode cL_refuses 445 = .ok (.ldc 25, 2) := by decide +kernel
theorem dL_refuses_447 : decode cL_refuses 447 = .ok (.if_icmp .ne 541, 3) := by decide +kernel
theorem dL_refuses_450 : decode cL_refuses 450 = .ok (.aload_n 0, 1) := by decide +kernel
theorem dL_refuses_451 : decode cL_refuses 451 = .ok (.bipush 11, 2) := by decide +kernel
theorem dL_refuses_453 : decode cL_refuses 453 = .ok (.iload_n 1, 1) := by decide +kernel
theorem dL_refuses_454 : decode cL_refuses 454 = .ok (.iload_n 2, 1) := by decide +kernel
theorem dL_refuses_455 : decode cL_refuses 455 = .ok (.irem, 1) := by decide +kernel
theorem dL_refuses_456 : decode cL_refuses 456 = .ok (.iload_n 1, 1) := by decide +kernel
theorem dL_refuses_457 : decode cL_refuses 457 = .ok (.iload_n 3, 1) := by decide +kernel
theorem dL_refuses_458 : decode cL_refuses 458 = .ok (.irem, 1) := by decide +kernel
theorem dL_refuses_459 : decode cL_refuses 459 = .ok (.iload 7, 2) := by decide +kernel
theorem dL_refuses_461 : decode cL_refuses 461 = .ok (.invokestatic 191, 3) := by decide +kernel
theorem dL_refuses_464 : decode cL_refuses 464 = .ok (.ldc 15, 2) := by decide +kernel
theorem dL_refuses_466 : decode cL_refuses 466 = .ok (.if_icmp .ne 522, 3) := by decide +kernel
theorem dL_refuses_469 : decode cL_refuses 469 = .ok (.aload_n 0, 1) := by decide +kernel
theorem dL_refuses_470 : decode cL_refuses 470 = .ok (.iload 4, 2) := by decide +kernel
theorem dL_refuses_472 : decode cL_refuses 472 = .ok (.iconst 0, 1) := by decide +kernel
theorem dL_refuses_473 : decode cL_refuses 473 = .ok (.iconst 0, 1) := by decide +kernel
theorem dL_refuses_474 : decode cL_refuses 474 = .ok (.iconst 0, 1) := by decide +kernel
theorem dL_refuses_475 : decode cL_refuses 475 = .ok (.sipush 200, 3) := by decide +kernel
theorem dL_refuses_478 : decode cL_refuses 478 = .ok (.invokestatic 195, 3) := by decide +kernel
theorem dL_refuses_481 : decode cL_refuses 481 = .ok (.ldc 25, 2) := by decide +kernel
theorem dL_refuses_483 : decode cL_refuses 483 = .ok (.if_icmp .ne 505, 3) := by decide +kernel
theorem dL_refuses_486 : decode cL_refuses 486 = .ok (.aload_n 0, 1) := by decide +kernel
theorem dL_refuses_487 : decode cL_refuses 487 = .ok (.iconst 0, 1) := by decide +kernel
theorem dL_refuses_488 : decode cL_refuses 488 = .ok (.iload_n 2, 1) := by decide +kernel
theorem dL_refuses_489 : decode cL_refuses 489 = .ok (.iconst 1, 1) := by decide +kernel
theorem dL_refuses_490 : decode cL_refuses 490 = .ok (.isub, 1) := by decide +kernel
theorem dL_refuses_491 : decode cL_refuses 491 = .ok (.iconst 0, 1) := by decide +kernel
theorem dL_refuses_492 : decode cL_refuses 492 = .ok (.iload_n 3, 1) := by decide +kernel
theorem dL_refuses_493 : decode cL_refuses 493 = .ok (.iconst 1, 1) := by decide +kernel
theorem dL_refuses_494 : decode cL_refuses 494 = .ok (.isub, 1) := by decide +kernel
theorem dL_refuses_495 : decode cL_refuses 495 = .ok (.iload 7, 2) := by decide +kernel
theorem dL_refuses_497 : decode cL_refuses 497 = .ok (.invokestatic 195, 3) := by decide +kernel
theorem dL_refuses_500 : decode cL_refuses 500 = .ok (.ldc 15, 2) := by decide +kernel
theorem dL_refuses_502 : decode cL_refuses 502 = .ok (.if_icmp .ne 486, 3) := by decide +kernel
theorem dL_refuses_505 : decode cL_refuses 505 = .ok (.iload_n 2, 1) := by decide +kernel
theorem dL_refuses_506 : decode cL_refuses 506 = .ok (.iconst 1, 1) := by decide +kernel
theorem dL_refuses_507 : decode cL_refuses 507 = .ok (.if_icmp .eq 17, 3) := by decide +kernel
theorem dL_refuses_510 : decode cL_refuses 510 = .ok (.aload_n 0, 1) := by decide +kernel
theorem dL_refuses_511 : decode cL_refuses 511 = .ok (.iconst 1, 1) := by decide +kernel
theorem dL_refuses_512 : decode cL_refuses 512 = .ok (.iconst 0, 1) := by decide +kernel
theorem dL_refuses_513 : decode cL_refuses 513 = .ok (.iconst 0, 1) := by decide +kernel
theorem dL_refuses_514 : decode cL_refuses 514 = .ok (.iconst 0, 1) := by decide +kernel
theorem dL_refuses_515 : decode cL_refuses 515 = .ok (.iconst 5, 1) := by decide +kernel
theorem dL_refuses_516 : decode cL_refuses 516 = .ok (.invokestatic 195, 3) := by decide +kernel
theorem dL_refuses_519 : decode cL_refuses 519 = .ok (.ldc 15, 2) := by decide +kernel
theorem dL_refuses_521 : decode cL_refuses 521 = .ok (.if_icmp .ne 467, 3) := by decide +kernel
theorem dL_refuses_524 : decode cL_refuses 524 = .ok (.aload_n 0, 1) := by decide +kernel
theorem dL_refuses_525 : decode cL_refuses 525 = .ok (.iload_n 1, 1) := by decide +kernel
theorem dL_refuses_526 : decode cL_refuses 526 = .ok (.iconst 2, 1) := by decide +kernel
theorem dL_refuses_527 : decode cL_refuses 527 = .ok (.irem, 1) := by decide +kernel
theorem dL_refuses_528 : decode cL_refuses 528 = .ok (.ifCond .ne 7, 3) := by decide +kernel
theorem dL_refuses_531 : decode cL_refuses 531 = .ok (.iconst 0, 1) := by decide +kernel
theorem dL_refuses_532 : decode cL_refuses 532 = .ok (.goto 10, 3) := by decide +kernel
theorem dL_refuses_535 : decode cL_refuses 535 = .ok (.bipush 100, 2) := by decide +kernel
theorem dL_refuses_537 : decode cL_refuses 537 = .ok (.iload_n 1, 1) := by decide +kernel
theorem dL_refuses_538 : decode cL_refuses 538 = .ok (.bipush 9, 2) := by decide +kernel
theorem dL_refuses_540 : decode cL_refuses 540 = .ok (.irem, 1) := by decide +kernel
theorem dL_refuses_541 : decode cL_refuses 541 = .ok (.iadd, 1) := by decide +kernel
theorem dL_refuses_542 : decode cL_refuses 542 = .ok (.iconst 1, 1) := by decide +kernel
theorem dL_refuses_543 : decode cL_refuses 543 = .ok (.invokestatic 199, 3) := by decide +kernel
theorem dL_refuses_546 : decode cL_refuses 546 = .ok (.ldc 15, 2) := by decide +kernel
theorem dL_refuses_548 : decode cL_refuses 548 = .ok (.if_icmp .ne 440, 3) := by decide +kernel
theorem dL_refuses_551 : decode cL_refuses 551 = .ok (.aload_n 0, 1) := by decide +kernel
theorem dL_refuses_552 : decode cL_refuses 552 = .ok (.bipush 12, 2) := by decide +kernel
theorem dL_refuses_554 : decode cL_refuses 554 = .ok (.iload_n 1, 1) := by decide +kernel
theorem dL_refuses_555 : decode cL_refuses 555 = .ok (.iconst 2, 1) := by decide +kernel
theorem dL_refuses_556 : decode cL_refuses 556 = .ok (.irem, 1) := by decide +kernel
theorem dL_refuses_557 : decode cL_refuses 557 = .ok (.ifCond .ne 7, 3) := by decide +kernel
theorem dL_refuses_560 : decode cL_refuses 560 = .ok (.iconst (-1), 1) := by decide +kernel
theorem dL_refuses_561 : decode cL_refuses 561 = .ok (.goto 10, 3) := by decide +kernel
theorem dL_refuses_564 : decode cL_refuses 564 = .ok (.bipush 6, 2) := by decide +kernel
theorem dL_refuses_566 : decode cL_refuses 566 = .ok (.iload_n 1, 1) := by decide +kernel
theorem dL_refuses_567 : decode cL_refuses 567 = .ok (.bipush 9, 2) := by decide +kernel
theorem dL_refuses_569 : decode cL_refuses 569 = .ok (.irem, 1) := by decide +kernel
theorem dL_refuses_570 : decode cL_refuses 570 = .ok (.iadd, 1) := by decide +kernel
theorem dL_refuses_571 : decode cL_refuses 571 = .ok (.iconst 0, 1) := by decide +kernel
theorem dL_refuses_572 : decode cL_refuses 572 = .ok (.iconst 0, 1) := by decide +kernel
theorem dL_refuses_573 : decode cL_refuses 573 = .ok (.invokestatic 191, 3) := by decide +kernel
theorem dL_refuses_576 : decode cL_refuses 576 = .ok (.ldc 15, 2) := by decide +kernel
theorem dL_refuses_578 : decode cL_refuses 578 = .ok (.if_icmp .ne 410, 3) := by decide +kernel
theorem dL_refuses_581 : decode cL_refuses 581 = .ok (.aload_n 0, 1) := by decide +kernel
theorem dL_refuses_582 : decode cL_refuses 582 = .ok (.bipush 13, 2) := by decide +kernel
theorem dL_refuses_584 : decode cL_refuses 584 = .ok (.iload_n 1, 1) := by decide +kernel
theorem dL_refuses_585 : decode cL_refuses 585 = .ok (.iconst 2, 1) := by decide +kernel
theorem dL_refuses_586 : decode cL_refuses 586 = .ok (.irem, 1) := by decide +kernel
theorem dL_refuses_587 : decode cL_refuses 587 = .ok (.ifCond .ne 7, 3) := by decide +kernel
theorem dL_refuses_590 : decode cL_refuses 590 = .ok (.iconst 0, 1) := by decide +kernel
theorem dL_refuses_591 : decode cL_refuses 591 = .ok (.goto 10, 3) := by decide +kernel
theorem dL_refuses_594 : decode cL_refuses 594 = .ok (.bipush 31, 2) := by decide +kernel
theorem dL_refuses_596 : decode cL_refuses 596 = .ok (.iload_n 1, 1) := by decide +kernel
theorem dL_refuses_597 : decode cL_refuses 597 = .ok (.bipush 9, 2) := by decide +kernel
theorem dL_refuses_599 : decode cL_refuses 599 = .ok (.irem, 1) := by decide +kernel
theorem dL_refuses_600 : decode cL_refuses 600 = .ok (.iadd, 1) := by decide +kernel
theorem dL_refuses_601 : decode cL_refuses 601 = .ok (.iconst 0, 1) := by decide +kernel
theorem dL_refuses_602 : decode cL_refuses 602 = .ok (.iconst 0, 1) := by decide +kernel
theorem dL_refuses_603 : decode cL_refuses 603 = .ok (.invokestatic 191, 3) := by decide +kernel
theorem dL_refuses_606 : decode cL_refuses 606 = .ok (.ldc 15, 2) := by decide +kernel
theorem dL_refuses_608 : decode cL_refuses 608 = .ok (.if_icmp .ne 380, 3) := by decide +kernel
theorem dL_refuses_611 : decode cL_refuses 611 = .ok (.aload_n 0, 1) := by decide +kernel
theorem dL_refuses_612 : decode cL_refuses 612 = .ok (.bipush 14, 2) := by decide +kernel
theorem dL_refuses_614 : decode cL_refuses 614 = .ok (.bipush 6, 2) := by decide +kernel
theorem dL_refuses_616 : decode cL_refuses 616 = .ok (.iload_n 1, 1) := by decide +kernel
theorem dL_refuses_617 : decode cL_refuses 617 = .ok (.bipush 9, 2) := by decide +kernel
theorem dL_refuses_619 : decode cL_refuses 619 = .ok (.irem, 1) := by decide +kernel
theorem dL_refuses_620 : decode cL_refuses 620 = .ok (.iadd, 1) := by decide +kernel
theorem dL_refuses_621 : decode cL_refuses 621 = .ok (.bipush 99, 2) := by decide +kernel
theorem dL_refuses_623 : decode cL_refuses 623 = .ok (.iconst 0, 1) := by decide +kernel
theorem dL_refuses_624 : decode cL_refuses 624 = .ok (.invokestatic 191, 3) := by decide +kernel
theorem dL_refuses_627 : decode cL_refuses 627 = .ok (.ldc 25, 2) := by decide +kernel
theorem dL_refuses_629 : decode cL_refuses 629 = .ok (.if_icmp .ne 359, 3) := by decide +kernel
theorem dL_refuses_632 : decode cL_refuses 632 = .ok (.aload_n 0, 1) := by decide +kernel
theorem dL_refuses_633 : decode cL_refuses 633 = .ok (.bipush 14, 2) := by decide +kernel
theorem dL_refuses_635 : decode cL_refuses 635 = .ok (.iload_n 1, 1) := by decide +kernel
theorem dL_refuses_636 : decode cL_refuses 636 = .ok (.bipush 6, 2) := by decide +kernel
theorem dL_refuses_638 : decode cL_refuses 638 = .ok (.irem, 1) := by decide +kernel
theorem dL_refuses_639 : decode cL_refuses 639 = .ok (.bipush 10, 2) := by decide +kernel
theorem dL_refuses_641 : decode cL_refuses 641 = .ok (.iload_n 1, 1) := by decide +kernel
theorem dL_refuses_642 : decode cL_refuses 642 = .ok (.bipush 9, 2) := by decide +kernel
theorem dL_refuses_644 : decode cL_refuses 644 = .ok (.irem, 1) := by decide +kernel
theorem dL_refuses_645 : decode cL_refuses 645 = .ok (.iadd, 1) := by decide +kernel
theorem dL_refuses_646 : decode cL_refuses 646 = .ok (.iconst 0, 1) := by decide +kernel
theorem dL_refuses_647 : decode cL_refuses 647 = .ok (.invokestatic 191, 3) := by decide +kernel
theorem dL_refuses_650 : decode cL_refuses 650 = .ok (.ldc 15, 2) := by decide +kernel
theorem dL_refuses_652 : decode cL_refuses 652 = .ok (.if_icmp .ne 336, 3) := by decide +kernel
theorem dL_refuses_655 : decode cL_refuses 655 = .ok (.aload_n 0, 1) := by decide +kernel
theorem dL_refuses_656 : decode cL_refuses 656 = .ok (.bipush 15, 2) := by decide +kernel
theorem dL_refuses_658 : decode cL_refuses 658 = .ok (.iload_n 1, 1) := by decide +kernel
theorem dL_refuses_659 : decode cL_refuses 659 = .ok (.iconst 2, 1) := by decide +kernel
theorem dL_refuses_660 : decode cL_refuses 660 = .ok (.irem, 1) := by decide +kernel
theorem dL_refuses_661 : decode cL_refuses 661 = .ok (.ifCond .ne 7, 3) := by decide +kernel
theorem dL_refuses_664 : decode cL_refuses 664 = .ok (.iconst (-1), 1) := by decide +kernel
theorem dL_refuses_665 : decode cL_refuses 665 = .ok (.goto 10, 3) := by decide +kernel
theorem dL_refuses_668 : decode cL_refuses 668 = .ok (.bipush 10, 2) := by decide +kernel
theorem dL_refuses_670 : decode cL_refuses 670 = .ok (.iload_n 1, 1) := by decide +kernel
theorem dL_refuses_671 : decode cL_refuses 671 = .ok (.bipush 9, 2) := by decide +kernel
theorem dL_refuses_673 : decode cL_refuses 673 = .ok (.irem, 1) := by decide +kernel
theorem dL_refuses_674 : decode cL_refuses 674 = .ok (.iadd, 1) := by decide +kernel
theorem dL_refuses_675 : decode cL_refuses 675 = .ok (.iconst 0, 1) := by decide +kernel
theorem dL_refuses_676 : decode cL_refuses 676 = .ok (.iconst 0, 1) := by decide +kernel
theorem dL_refuses_677 : decode cL_refuses 677 = .ok (.invokestatic 191, 3) := by decide +kernel
theorem dL_refuses_680 : decode cL_refuses 680 = .ok (.ldc 15, 2) := by decide +kernel
theorem dL_refuses_682 : decode cL_refuses 682 = .ok (.if_icmp .ne 306, 3) := by decide +kernel
theorem dL_refuses_685 : decode cL_refuses 685 = .ok (.aload_n 0, 1) := by decide +kernel
theorem dL_refuses_686 : decode cL_refuses 686 = .ok (.bipush 16, 2) := by decide +kernel
theorem dL_refuses_688 : decode cL_refuses 688 = .ok (.iload_n 1, 1) := by decide +kernel
theorem dL_refuses_689 : decode cL_refuses 689 = .ok (.iconst 2, 1) := by decide +kernel
theorem dL_refuses_690 : decode cL_refuses 690 = .ok (.irem, 1) := by decide +kernel
theorem dL_refuses_691 : decode cL_refuses 691 = .ok (.ifCond .ne 7, 3) := by decide +kernel
theorem dL_refuses_694 : decode cL_refuses 694 = .ok (.iconst 0, 1) := by decide +kernel
theorem dL_refuses_695 : decode cL_refuses 695 = .ok (.goto 10, 3) := by decide +kernel
theorem dL_refuses_698 : decode cL_refuses 698 = .ok (.bipush 50, 2) := by decide +kernel
theorem dL_refuses_700 : decode cL_refuses 700 = .ok (.iload_n 1, 1) := by decide +kernel
theorem dL_refuses_701 : decode cL_refuses 701 = .ok (.bipush 9, 2) := by decide +kernel
theorem dL_refuses_703 : decode cL_refuses 703 = .ok (.irem, 1) := by decide +kernel
theorem dL_refuses_704 : decode cL_refuses 704 = .ok (.iadd, 1) := by decide +kernel
theorem dL_refuses_705 : decode cL_refuses 705 = .ok (.iconst 0, 1) := by decide +kernel
theorem dL_refuses_706 : decode cL_refuses 706 = .ok (.iconst 0, 1) := by decide +kernel
theorem dL_refuses_707 : decode cL_refuses 707 = .ok (.invokestatic 191, 3) := by decide +kernel
theorem dL_refuses_710 : decode cL_refuses 710 = .ok (.ldc 15, 2) := by decide +kernel
theorem dL_refuses_712 : decode cL_refuses 712 = .ok (.if_icmp .ne 276, 3) := by decide +kernel
theorem dL_refuses_715 : decode cL_refuses 715 = .ok (.aload_n 0, 1) := by decide +kernel
theorem dL_refuses_716 : decode cL_refuses 716 = .ok (.iload_n 1, 1) := by decide +kernel
theorem dL_refuses_717 : decode cL_refuses 717 = .ok (.i2l, 1) := by decide +kernel
theorem dL_refuses_718 : decode cL_refuses 718 = .ok (.iload_n 1, 1) := by decide +kernel
theorem dL_refuses_719 : decode cL_refuses 719 = .ok (.iconst 2, 1) := by decide +kernel
theorem dL_refuses_720 : decode cL_refuses 720 = .ok (.irem, 1) := by decide +kernel
theorem dL_refuses_721 : decode cL_refuses 721 = .ok (.ifCond .ne 7, 3) := by decide +kernel
theorem dL_refuses_724 : decode cL_refuses 724 = .ok (.iconst 0, 1) := by decide +kernel
theorem dL_refuses_725 : decode cL_refuses 725 = .ok (.goto 10, 3) := by decide +kernel
theorem dL_refuses_728 : decode cL_refuses 728 = .ok (.bipush 51, 2) := by decide +kernel
theorem dL_refuses_730 : decode cL_refuses 730 = .ok (.iload_n 1, 1) := by decide +kernel
theorem dL_refuses_731 : decode cL_refuses 731 = .ok (.bipush 9, 2) := by decide +kernel
theorem dL_refuses_733 : decode cL_refuses 733 = .ok (.irem, 1) := by decide +kernel
theorem dL_refuses_734 : decode cL_refuses 734 = .ok (.iadd, 1) := by decide +kernel
theorem dL_refuses_735 : decode cL_refuses 735 = .ok (.invokestatic 203, 3) := by decide +kernel
theorem dL_refuses_738 : decode cL_refuses 738 = .ok (.ldc 15, 2) := by decide +kernel
theorem dL_refuses_740 : decode cL_refuses 740 = .ok (.if_icmp .ne 248, 3) := by decide +kernel
theorem dL_refuses_743 : decode cL_refuses 743 = .ok (.aload_n 0, 1) := by decide +kernel
theorem dL_refuses_744 : decode cL_refuses 744 = .ok (.bipush 18, 2) := by decide +kernel
theorem dL_refuses_746 : decode cL_refuses 746 = .ok (.iload_n 1, 1) := by decide +kernel
theorem dL_refuses_747 : decode cL_refuses 747 = .ok (.iconst 2, 1) := by decide +kernel
theorem dL_refuses_748 : decode cL_refuses 748 = .ok (.irem, 1) := by decide +kernel
theorem dL_refuses_749 : decode cL_refuses 749 = .ok (.ifCond .ne 7, 3) := by decide +kernel
theorem dL_refuses_752 : decode cL_refuses 752 = .ok (.iconst 0, 1) := by decide +kernel
theorem dL_refuses_753 : decode cL_refuses 753 = .ok (.goto 10, 3) := by decide +kernel
theorem dL_refuses_756 : decode cL_refuses 756 = .ok (.bipush 31, 2) := by decide +kernel
theorem dL_refuses_758 : decode cL_refuses 758 = .ok (.iload_n 1, 1) := by decide +kernel
theorem dL_refuses_759 : decode cL_refuses 759 = .ok (.bipush 9, 2) := by decide +kernel
theorem dL_refuses_761 : decode cL_refuses 761 = .ok (.irem, 1) := by decide +kernel
theorem dL_refuses_762 : decode cL_refuses 762 = .ok (.iadd, 1) := by decide +kernel
theorem dL_refuses_763 : decode cL_refuses 763 = .ok (.iconst 0, 1) := by decide +kernel
theorem dL_refuses_764 : decode cL_refuses 764 = .ok (.iconst 0, 1) := by decide +kernel
theorem dL_refuses_765 : decode cL_refuses 765 = .ok (.invokestatic 191, 3) := by decide +kernel
theorem dL_refuses_768 : decode cL_refuses 768 = .ok (.ldc 15, 2) := by decide +kernel
theorem dL_refuses_770 : decode cL_refuses 770 = .ok (.if_icmp .ne 218, 3) := by decide +kernel
theorem dL_refuses_773 : decode cL_refuses 773 = .ok (.aload_n 0, 1) := by decide +kernel
theorem dL_refuses_774 : decode cL_refuses 774 = .ok (.bipush 18, 2) := by decide +kernel
theorem dL_refuses_776 : decode cL_refuses 776 = .ok (.iconst 1, 1) := by decide +kernel
theorem dL_refuses_777 : decode cL_refuses 777 = .ok (.iconst 3, 1) := by decide +kernel
theorem dL_refuses_778 : decode cL_refuses 778 = .ok (.iload_n 1, 1) := by decide +kernel
theorem dL_refuses_779 : decode cL_refuses 779 = .ok (.bipush 9, 2) := by decide +kernel
theorem dL_refuses_781 : decode cL_refuses 781 = .ok (.irem, 1) := by decide +kernel
theorem dL_refuses_782 : decode cL_refuses 782 = .ok (.iadd, 1) := by decide +kernel
theorem dL_refuses_783 : decode cL_refuses 783 = .ok (.iconst 0, 1) := by decide +kernel
theorem dL_refuses_784 : decode cL_refuses 784 = .ok (.invokestatic 191, 3) := by decide +kernel
theorem dL_refuses_787 : decode cL_refuses 787 = .ok (.ldc 15, 2) := by decide +kernel
theorem dL_refuses_789 : decode cL_refuses 789 = .ok (.if_icmp .ne 199, 3) := by decide +kernel
theorem dL_refuses_792 : decode cL_refuses 792 = .ok (.aload_n 0, 1) := by decide +kernel
theorem dL_refuses_793 : decode cL_refuses 793 = .ok (.bipush 19, 2) := by decide +kernel
theorem dL_refuses_795 : decode cL_refuses 795 = .ok (.iload_n 1, 1) := by decide +kernel
theorem dL_refuses_796 : decode cL_refuses 796 = .ok (.iconst 2, 1) := by decide +kernel
theorem dL_refuses_797 : decode cL_refuses 797 = .ok (.irem, 1) := by decide +kernel
theorem dL_refuses_798 : decode cL_refuses 798 = .ok (.ifCond .ne 7, 3) := by decide +kernel
theorem dL_refuses_801 : decode cL_refuses 801 = .ok (.iconst 0, 1) := by decide +kernel
theorem dL_refuses_802 : decode cL_refuses 802 = .ok (.goto 11, 3) := by decide +kernel
theorem dL_refuses_805 : decode cL_refuses 805 = .ok (.sipush 145, 3) := by decide +kernel
theorem dL_refuses_808 : decode cL_refuses 808 = .ok (.iload_n 1, 1) := by decide +kernel
theorem dL_refuses_809 : decode cL_refuses 809 = .ok (.bipush 9, 2) := by decide +kernel
theorem dL_refuses_811 : decode cL_refuses 811 = .ok (.irem, 1) := by decide +kernel
theorem dL_refuses_812 : decode cL_refuses 812 = .ok (.iadd, 1) := by decide +kernel
theorem dL_refuses_813 : decode cL_refuses 813 = .ok (.iconst 0, 1) := by decide +kernel
theorem dL_refuses_814 : decode cL_refuses 814 = .ok (.iconst 0, 1) := by decide +kernel
theorem dL_refuses_815 : decode cL_refuses 815 = .ok (.invokestatic 191, 3) := by decide +kernel
theorem dL_refuses_818 : decode cL_refuses 818 = .ok (.ldc 15, 2) := by decide +kernel
theorem dL_refuses_820 : decode cL_refuses 820 = .ok (.if_icmp .ne 168, 3) := by decide +kernel
theorem dL_refuses_823 : decode cL_refuses 823 = .ok (.aload_n 0, 1) := by decide +kernel
theorem dL_refuses_824 : decode cL_refuses 824 = .ok (.bipush 20, 2) := by decide +kernel
theorem dL_refuses_826 : decode cL_refuses 826 = .ok (.iload_n 1, 1) := by decide +kernel
theorem dL_refuses_827 : decode cL_refuses 827 = .ok (.iconst 2, 1) := by decide +kernel
theorem dL_refuses_828 : decode cL_refuses 828 = .ok (.irem, 1) := by decide +kernel
theorem dL_refuses_829 : decode cL_refuses 829 = .ok (.ifCond .ne 7, 3) := by decide +kernel
theorem dL_refuses_832 : decode cL_refuses 832 = .ok (.iconst (-1), 1) := by decide +kernel
theorem dL_refuses_833 : decode cL_refuses 833 = .ok (.goto 9, 3) := by decide +kernel
theorem dL_refuses_836 : decode cL_refuses 836 = .ok (.iconst 5, 1) := by decide +kernel
theorem dL_refuses_837 : decode cL_refuses 837 = .ok (.iload_n 1, 1) := by decide +kernel
theorem dL_refuses_838 : decode cL_refuses 838 = .ok (.bipush 9, 2) := by decide +kernel
theorem dL_refuses_840 : decode cL_refuses 840 = .ok (.irem, 1) := by decide +kernel
theorem dL_refuses_841 : decode cL_refuses 841 = .ok (.iadd, 1) := by decide +kernel
theorem dL_refuses_842 : decode cL_refuses 842 = .ok (.iconst 0, 1) := by decide +kernel
theorem dL_refuses_843 : decode cL_refuses 843 = .ok (.iconst 0, 1) := by decide +kernel
theorem dL_refuses_844 : decode cL_refuses 844 = .ok (.invokestatic 191, 3) := by decide +kernel
theorem dL_refuses_847 : decode cL_refuses 847 = .ok (.ldc 25, 2) := by decide +kernel
theorem dL_refuses_849 : decode cL_refuses 849 = .ok (.if_icmp .ne 139, 3) := by decide +kernel
theorem dL_refuses_852 : decode cL_refuses 852 = .ok (.aload_n 0, 1) := by decide +kernel
theorem dL_refuses_853 : decode cL_refuses 853 = .ok (.iload 4, 2) := by decide +kernel
theorem dL_refuses_855 : decode cL_refuses 855 = .ok (.iconst 0, 1) := by decide +kernel
theorem dL_refuses_856 : decode cL_refuses 856 = .ok (.sipush 200, 3) := by decide +kernel
theorem dL_refuses_859 : decode cL_refuses 859 = .ok (.bipush 9, 2) := by decide +kernel
theorem dL_refuses_861 : decode cL_refuses 861 = .ok (.invokestatic 207, 3) := by decide +kernel
theorem dL_refuses_864 : decode cL_refuses 864 = .ok (.ldc 25, 2) := by decide +kernel
theorem dL_refuses_866 : decode cL_refuses 866 = .ok (.if_icmp .ne 122, 3) := by decide +kernel
theorem dL_refuses_869 : decode cL_refuses 869 = .ok (.aload_n 0, 1) := by decide +kernel
theorem dL_refuses_870 : decode cL_refuses 870 = .ok (.iconst 0, 1) := by decide +kernel
theorem dL_refuses_871 : decode cL_refuses 871 = .ok (.iconst 0, 1) := by decide +kernel
theorem dL_refuses_872 : decode cL_refuses 872 = .ok (.iload 7, 2) := by decide +kernel
theorem dL_refuses_874 : decode cL_refuses 874 = .ok (.iconst 0, 1) := by decide +kernel
theorem dL_refuses_875 : decode cL_refuses 875 = .ok (.invokestatic 207, 3) := by decide +kernel
theorem dL_refuses_878 : decode cL_refuses 878 = .ok (.ldc 15, 2) := by decide +kernel
theorem dL_refuses_880 : decode cL_refuses 880 = .ok (.if_icmp .ne 108, 3) := by decide +kernel
theorem dL_refuses_883 : decode cL_refuses 883 = .ok (.aload_n 0, 1) := by decide +kernel
theorem dL_refuses_884 : decode cL_refuses 884 = .ok (.iconst 0, 1) := by decide +kernel
theorem dL_refuses_885 : decode cL_refuses 885 = .ok (.iconst 0, 1) := by decide +kernel
theorem dL_refuses_886 : decode cL_refuses 886 = .ok (.iconst 0, 1) := by decide +kernel
theorem dL_refuses_887 : decode cL_refuses 887 = .ok (.iconst 3, 1) := by decide +kernel
theorem dL_refuses_888 : decode cL_refuses 888 = .ok (.iload_n 1, 1) := by decide +kernel
theorem dL_refuses_889 : decode cL_refuses 889 = .ok (.bipush 9, 2) := by decide +kernel
theorem dL_refuses_891 : decode cL_refuses 891 = .ok (.irem, 1) := by decide +kernel
theorem dL_refuses_892 : decode cL_refuses 892 = .ok (.iadd, 1) := by decide +kernel
theorem dL_refuses_893 : decode cL_refuses 893 = .ok (.invokestatic 207, 3) := by decide +kernel
theorem dL_refuses_896 : decode cL_refuses 896 = .ok (.ldc 15, 2) := by decide +kernel
theorem dL_refuses_898 : decode cL_refuses 898 = .ok (.if_icmp .ne 90, 3) := by decide +kernel
theorem dL_refuses_901 : decode cL_refuses 901 = .ok (.aload_n 0, 1) := by decide +kernel
theorem dL_refuses_902 : decode cL_refuses 902 = .ok (.bipush 21, 2) := by decide +kernel
theorem dL_refuses_904 : decode cL_refuses 904 = .ok (.iconst 2, 1) := by decide +kernel
theorem dL_refuses_905 : decode cL_refuses 905 = .ok (.iload_n 1, 1) := by decide +kernel
theorem dL_refuses_906 : decode cL_refuses 906 = .ok (.bipush 50, 2) := by decide +kernel
theorem dL_refuses_908 : decode cL_refuses 908 = .ok (.irem, 1) := by decide +kernel
theorem dL_refuses_909 : decode cL_refuses 909 = .ok (.iadd, 1) := by decide +kernel
theorem dL_refuses_910 : decode cL_refuses 910 = .ok (.iconst 0, 1) := by decide +kernel
theorem dL_refuses_911 : decode cL_refuses 911 = .ok (.iconst 0, 1) := by decide +kernel
theorem dL_refuses_912 : decode cL_refuses 912 = .ok (.invokestatic 191, 3) := by decide +kernel
theorem dL_refuses_915 : decode cL_refuses 915 = .ok (.ldc 25, 2) := by decide +kernel
theorem dL_refuses_917 : decode cL_refuses 917 = .ok (.if_icmp .ne 71, 3) := by decide +kernel
theorem dL_refuses_920 : decode cL_refuses 920 = .ok (.aload_n 0, 1) := by decide +kernel
theorem dL_refuses_921 : decode cL_refuses 921 = .ok (.bipush 22, 2) := by decide +kernel
theorem dL_refuses_923 : decode cL_refuses 923 = .ok (.iconst (-1), 1) := by decide +kernel
theorem dL_refuses_924 : decode cL_refuses 924 = .ok (.iload_n 1, 1) := by decide +kernel
theorem dL_refuses_925 : decode cL_refuses 925 = .ok (.bipush 9, 2) := by decide +kernel
theorem dL_refuses_927 : decode cL_refuses 927 = .ok (.irem, 1) := by decide +kernel
theorem dL_refuses_928 : decode cL_refuses 928 = .ok (.isub, 1) := by decide +kernel
theorem dL_refuses_929 : decode cL_refuses 929 = .ok (.iconst 0, 1) := by decide +kernel
theorem dL_refuses_930 : decode cL_refuses 930 = .ok (.iconst 0, 1) := by decide +kernel
theorem dL_refuses_931 : decode cL_refuses 931 = .ok (.invokestatic 191, 3) := by decide +kernel
theorem dL_refuses_934 : decode cL_refuses 934 = .ok (.ldc 25, 2) := by decide +kernel
theorem dL_refuses_936 : decode cL_refuses 936 = .ok (.if_icmp .ne 52, 3) := by decide +kernel
theorem dL_refuses_939 : decode cL_refuses 939 = .ok (.aload_n 0, 1) := by decide +kernel
theorem dL_refuses_940 : decode cL_refuses 940 = .ok (.iconst 0, 1) := by decide +kernel
theorem dL_refuses_941 : decode cL_refuses 941 = .ok (.lconst 0, 1) := by decide +kernel
theorem dL_refuses_942 : decode cL_refuses 942 = .ok (.invokestatic 210, 3) := by decide +kernel
theorem dL_refuses_945 : decode cL_refuses 945 = .ok (.ldc 15, 2) := by decide +kernel
theorem dL_refuses_947 : decode cL_refuses 947 = .ok (.if_icmp .ne 41, 3) := by decide +kernel
theorem dL_refuses_950 : decode cL_refuses 950 = .ok (.aload_n 0, 1) := by decide +kernel
theorem dL_refuses_951 : decode cL_refuses 951 = .ok (.iconst 1, 1) := by decide +kernel
theorem dL_refuses_952 : decode cL_refuses 952 = .ok (.ldc2_w 214, 3) := by decide +kernel
theorem dL_refuses_955 : decode cL_refuses 955 = .ok (.iload_n 1, 1) := by decide +kernel
theorem dL_refuses_956 : decode cL_refuses 956 = .ok (.i2l, 1) := by decide +kernel
theorem dL_refuses_957 : decode cL_refuses 957 = .ok (.ladd, 1) := by decide +kernel
theorem dL_refuses_958 : decode cL_refuses 958 = .ok (.invokestatic 210, 3) := by decide +kernel
theorem dL_refuses_961 : decode cL_refuses 961 = .ok (.ldc 15, 2) := by decide +kernel
theorem dL_refuses_963 : decode cL_refuses 963 = .ok (.if_icmp .ne 25, 3) := by decide +kernel
theorem dL_refuses_966 : decode cL_refuses 966 = .ok (.aload_n 0, 1) := by decide +kernel
theorem dL_refuses_967 : decode cL_refuses 967 = .ok (.iload_n 1, 1) := by decide +kernel
theorem dL_refuses_968 : decode cL_refuses 968 = .ok (.i2l, 1) := by decide +kernel
theorem dL_refuses_969 : decode cL_refuses 969 = .ok (.bipush 61, 2) := by decide +kernel
theorem dL_refuses_971 : decode cL_refuses 971 = .ok (.iload_n 1, 1) := by decide +kernel
theorem dL_refuses_972 : decode cL_refuses 972 = .ok (.bipush 9, 2) := by decide +kernel
theorem dL_refuses_974 : decode cL_refuses 974 = .ok (.irem, 1) := by decide +kernel
theorem dL_refuses_975 : decode cL_refuses 975 = .ok (.iadd, 1) := by decide +kernel
theorem dL_refuses_976 : decode cL_refuses 976 = .ok (.invokestatic 216, 3) := by decide +kernel
theorem dL_refuses_979 : decode cL_refuses 979 = .ok (.ldc 15, 2) := by decide +kernel
theorem dL_refuses_981 : decode cL_refuses 981 = .ok (.if_icmp .ne 7, 3) := by decide +kernel
theorem dL_refuses_984 : decode cL_refuses 984 = .ok (.iconst 1, 1) := by decide +kernel
theorem dL_refuses_985 : decode cL_refuses 985 = .ok (.goto 4, 3) := by decide +kernel
theorem dL_refuses_988 : decode cL_refuses 988 = .ok (.iconst 0, 1) := by decide +kernel
theorem dL_refuses_989 : decode cL_refuses 989 = .ok (.ireturn, 1) := by decide +kernel
