/-! MODEL: a command of runScript. -/
section MQ4
variable {l : Launch} {rf sz : Int} {S : St} {ac : Int} {B I : Int → Int} {m : Int} {Fi Co Br Wt mk gy : Int → Int} {S2 : St} {tx di ke ik ea : Int → Int} {sd rt lf wy sp ou : Int}
/-- 1 if the command is obeyed or holds, 0 if not -/
noncomputable def cmZ (S : St) (k a : Int) : Int :=
  if k = 1 then bz (a % 10 = 0 ∧ kP S (a / 100000) (a / 1000 % 100) (a / 10 % 100))
  else if k = 2 then bz (kB S (a / 100000) (a / 100000 + a % 10) (a / 1000 % 100) (a / 1000 % 100 + a % 10) (a / 10 % 100))
  else if k = 3 then bz (a % 10000 = 0 ∧ a / 10000 % 10 < 2 ∧ kT S (a / 100000) (if a / 10000 % 10 = 1 then 1 else 0))
  else if k = 4 then bz (a % 100000 = 0 ∧ 1 ≤ a / 100000 ∧ a / 100000 ≤ 30)
  else if k = 5 ∨ k = 6 then bz (a = 0)
  else if k = 7 then bz (a / 1000 % 10 = 0 ∧ a / 10000 < mS S ∧ a % 1000 ≤ siz (sC S) (sR S) (bS S) (fS S (a / 10000)))
  else if k = 8 then bz (a < 1000 ∧ mS S ≤ a % 1000)
  else if k = 9 then bz (a / 10 % 100 = 0 ∧ (a / 100000 < sC S) ∧ (a / 1000 % 100 < sR S) ∧ bS S (a / 1000 % 100 * sC S + a / 100000) = a % 10)
  else 0
/-- the state after it -/
def cmS (S : St) (k a : Int) : St :=
  if k = 1 then (if a % 10 = 0 then stP S (a / 100000) (a / 1000 % 100) (a / 10 % 100) else S)
  else if k = 2 then stB S (a / 100000) (a / 100000 + a % 10) (a / 1000 % 100) (a / 1000 % 100 + a % 10) (a / 10 % 100)
  else if k = 3 then (if a % 10000 = 0 ∧ a / 10000 % 10 < 2 then stT S (a / 100000) (if a / 10000 % 10 = 1 then 1 else 0) else S)
  else if k = 4 then (if a % 100000 = 0 then stL S (a / 100000) else S)
  else if k = 5 then (if a = 0 then gU S else S)
  else if k = 6 then (if a = 0 then gI S else S)
  else S
theorem SV_cmS {k a : Int} (h : SV S) : SV (cmS S k a) := by
  unfold cmS
  repeat' split
  all_goals first | exact h | exact SV_stP h | exact SV_stB h | exact SV_stT h | exact SV_stL h | exact SV_gU h | exact SV_gI h
/-- what is told after a command -/
def CM (rf sz : Int) (S : St) (ac : Int) (S2 : St) (tx di ke ik ea : Int → Int) (M : List va_E) : Prop := ∃ (B I : Int → Int) (m : Int) (Fi Co Br Wt mk gy : Int → Int) (sd rt lf wy sp ou : Int), M = (mdW rf sz S ac B I m Fi Co Br Wt mk gy S2 tx di ke ik ea sd rt lf wy sp ou) ∧ (∀ i, 0 ≤ B i ∧ B i ≤ 5) ∧ (∀ i, rg (I i))
theorem CM_mk (hB : ∀ i, 0 ≤ B i ∧ B i ≤ 5) (hI : ∀ i, rg (I i)) : CM rf sz S ac S2 tx di ke ik ea (mdW rf sz S ac B I m Fi Co Br Wt mk gy S2 tx di ke ik ea sd rt lf wy sp ou) := ⟨B, I, m, Fi, Co, Br, Wt, mk, gy, sd, rt, lf, wy, sp, ou, rfl, hB, hI⟩
theorem CM_to {k a : Int} (hB : ∀ i, 0 ≤ B i ∧ B i ≤ 5) (hI : ∀ i, rg (I i)) {M : List va_E} {S3 : St} (e : M = (mdW rf sz S ac B I m Fi Co Br Wt mk gy (S3) tx di ke ik ea sd rt lf wy sp ou)) (e2 : S3 = cmS S2 k a) : CM rf sz S ac (cmS S2 k a) tx di ke ik ea M := by
  subst e; rw [e2]; exact CM_mk hB hI
theorem sumI {G : Int → Int} (hG : ∀ i, 0 ≤ G i ∧ G i ≤ 99) (n : Int) : ∀ N : Nat, 0 ≤ sumK (mapK (fun j => 99 - G j) n G) N ∧ sumK (mapK (fun j => 99 - G j) n G) N ≤ 99 * N
  | 0 => ⟨Int.le_refl _, by show (0 : Int) ≤ 99 * ((0 : Nat) : Int); omega⟩
  | N + 1 => by
    have ih := sumI hG n N
    have e : sumK (mapK (fun j => 99 - G j) n G) (N + 1) = sumK (mapK (fun j => 99 - G j) n G) N + mapK (fun j => 99 - G j) n G N := rfl
    have := mapK_rg (f := fun j => 99 - G j) (k := n) (G := G) (fun i _ _ => by have := hG i; show 0 ≤ 99 - G i ∧ 99 - G i ≤ 99; omega) hG N
    omega
theorem dX7_command_0 : decode cX7_command 0 = .ok (.iload_n 2, 1) := by decide +kernel
theorem dX7_command_1 : decode cX7_command 1 = .ok (.ldc_w 327, 3) := by decide +kernel
theorem dX7_command_4 : decode cX7_command 4 = .ok (.idiv, 1) := by decide +kernel
theorem dX7_command_5 : decode cX7_command 5 = .ok (.istore_n 3, 1) := by decide +kernel
theorem dX7_command_6 : decode cX7_command 6 = .ok (.iload_n 2, 1) := by decide +kernel
theorem dX7_command_7 : decode cX7_command 7 = .ok (.sipush 1000, 3) := by decide +kernel
theorem dX7_command_10 : decode cX7_command 10 = .ok (.idiv, 1) := by decide +kernel
theorem dX7_command_11 : decode cX7_command 11 = .ok (.bipush 100, 2) := by decide +kernel
theorem dX7_command_13 : decode cX7_command 13 = .ok (.irem, 1) := by decide +kernel
theorem dX7_command_14 : decode cX7_command 14 = .ok (.istore 4, 2) := by decide +kernel
theorem dX7_command_16 : decode cX7_command 16 = .ok (.iload_n 2, 1) := by decide +kernel
theorem dX7_command_17 : decode cX7_command 17 = .ok (.bipush 10, 2) := by decide +kernel
theorem dX7_command_19 : decode cX7_command 19 = .ok (.idiv, 1) := by decide +kernel
theorem dX7_command_20 : decode cX7_command 20 = .ok (.bipush 100, 2) := by decide +kernel
theorem dX7_command_22 : decode cX7_command 22 = .ok (.irem, 1) := by decide +kernel
theorem dX7_command_23 : decode cX7_command 23 = .ok (.istore 5, 2) := by decide +kernel
theorem dX7_command_25 : decode cX7_command 25 = .ok (.iload_n 2, 1) := by decide +kernel
theorem dX7_command_26 : decode cX7_command 26 = .ok (.bipush 10, 2) := by decide +kernel
theorem dX7_command_28 : decode cX7_command 28 = .ok (.irem, 1) := by decide +kernel
theorem dX7_command_29 : decode cX7_command 29 = .ok (.istore 6, 2) := by decide +kernel
theorem dX7_command_31 : decode cX7_command 31 = .ok (.iload_n 2, 1) := by decide +kernel
theorem dX7_command_32 : decode cX7_command 32 = .ok (.sipush 1000, 3) := by decide +kernel
theorem dX7_command_35 : decode cX7_command 35 = .ok (.irem, 1) := by decide +kernel
theorem dX7_command_36 : decode cX7_command 36 = .ok (.istore 7, 2) := by decide +kernel
theorem dX7_command_38 : decode cX7_command 38 = .ok (.iload_n 1, 1) := by decide +kernel
theorem dX7_command_39 : decode cX7_command 39 = .ok (.tableswitch 344 1 9 #[49, 72, 86, 137, 159, 180, 200, 252, 282], 49) := by decide +kernel
theorem dX7_command_88 : decode cX7_command 88 = .ok (.iload 6, 2) := by decide +kernel
theorem dX7_command_90 : decode cX7_command 90 = .ok (.ifCond .ne 19, 3) := by decide +kernel
theorem dX7_command_93 : decode cX7_command 93 = .ok (.aload_n 0, 1) := by decide +kernel
theorem dX7_command_94 : decode cX7_command 94 = .ok (.iload_n 3, 1) := by decide +kernel
theorem dX7_command_95 : decode cX7_command 95 = .ok (.iload 4, 2) := by decide +kernel
theorem dX7_command_97 : decode cX7_command 97 = .ok (.iload 5, 2) := by decide +kernel
theorem dX7_command_99 : decode cX7_command 99 = .ok (.invokevirtual 328, 3) := by decide +kernel
theorem dX7_command_102 : decode cX7_command 102 = .ok (.ifCond .eq 7, 3) := by decide +kernel
theorem dX7_command_105 : decode cX7_command 105 = .ok (.iconst 1, 1) := by decide +kernel
theorem dX7_command_106 : decode cX7_command 106 = .ok (.goto 4, 3) := by decide +kernel
theorem dX7_command_109 : decode cX7_command 109 = .ok (.iconst 0, 1) := by decide +kernel
theorem dX7_command_110 : decode cX7_command 110 = .ok (.ireturn, 1) := by decide +kernel
theorem dX7_command_111 : decode cX7_command 111 = .ok (.aload_n 0, 1) := by decide +kernel
theorem dX7_command_112 : decode cX7_command 112 = .ok (.iload_n 3, 1) := by decide +kernel
theorem dX7_command_113 : decode cX7_command 113 = .ok (.iload 4, 2) := by decide +kernel
theorem dX7_command_115 : decode cX7_command 115 = .ok (.iload 5, 2) := by decide +kernel
theorem dX7_command_117 : decode cX7_command 117 = .ok (.iload 6, 2) := by decide +kernel
theorem dX7_command_119 : decode cX7_command 119 = .ok (.iload 6, 2) := by decide +kernel
theorem dX7_command_121 : decode cX7_command 121 = .ok (.invokevirtual 331, 3) := by decide +kernel
theorem dX7_command_124 : decode cX7_command 124 = .ok (.ireturn, 1) := by decide +kernel
theorem dX7_command_125 : decode cX7_command 125 = .ok (.iload_n 2, 1) := by decide +kernel
theorem dX7_command_126 : decode cX7_command 126 = .ok (.sipush 10000, 3) := by decide +kernel
theorem dX7_command_129 : decode cX7_command 129 = .ok (.irem, 1) := by decide +kernel
theorem dX7_command_130 : decode cX7_command 130 = .ok (.ifCond .ne 44, 3) := by decide +kernel
theorem dX7_command_133 : decode cX7_command 133 = .ok (.iload_n 2, 1) := by decide +kernel
theorem dX7_command_134 : decode cX7_command 134 = .ok (.sipush 10000, 3) := by decide +kernel
theorem dX7_command_137 : decode cX7_command 137 = .ok (.idiv, 1) := by decide +kernel
theorem dX7_command_138 : decode cX7_command 138 = .ok (.bipush 10, 2) := by decide +kernel
theorem dX7_command_140 : decode cX7_command 140 = .ok (.irem, 1) := by decide +kernel
theorem dX7_command_141 : decode cX7_command 141 = .ok (.iconst 2, 1) := by decide +kernel
theorem dX7_command_142 : decode cX7_command 142 = .ok (.if_icmp .ge 32, 3) := by decide +kernel
theorem dX7_command_145 : decode cX7_command 145 = .ok (.aload_n 0, 1) := by decide +kernel
theorem dX7_command_146 : decode cX7_command 146 = .ok (.iload_n 3, 1) := by decide +kernel
theorem dX7_command_147 : decode cX7_command 147 = .ok (.iload_n 2, 1) := by decide +kernel
theorem dX7_command_148 : decode cX7_command 148 = .ok (.sipush 10000, 3) := by decide +kernel
theorem dX7_command_151 : decode cX7_command 151 = .ok (.idiv, 1) := by decide +kernel
theorem dX7_command_152 : decode cX7_command 152 = .ok (.bipush 10, 2) := by decide +kernel
theorem dX7_command_154 : decode cX7_command 154 = .ok (.irem, 1) := by decide +kernel
theorem dX7_command_155 : decode cX7_command 155 = .ok (.iconst 1, 1) := by decide +kernel
theorem dX7_command_156 : decode cX7_command 156 = .ok (.if_icmp .ne 7, 3) := by decide +kernel
theorem dX7_command_159 : decode cX7_command 159 = .ok (.iconst 1, 1) := by decide +kernel
theorem dX7_command_160 : decode cX7_command 160 = .ok (.goto 4, 3) := by decide +kernel
theorem dX7_command_163 : decode cX7_command 163 = .ok (.iconst 0, 1) := by decide +kernel
theorem dX7_command_164 : decode cX7_command 164 = .ok (.invokevirtual 335, 3) := by decide +kernel
theorem dX7_command_167 : decode cX7_command 167 = .ok (.ifCond .eq 7, 3) := by decide +kernel
theorem dX7_command_170 : decode cX7_command 170 = .ok (.iconst 1, 1) := by decide +kernel
theorem dX7_command_171 : decode cX7_command 171 = .ok (.goto 4, 3) := by decide +kernel
theorem dX7_command_174 : decode cX7_command 174 = .ok (.iconst 0, 1) := by decide +kernel
theorem dX7_command_175 : decode cX7_command 175 = .ok (.ireturn, 1) := by decide +kernel
theorem dX7_command_176 : decode cX7_command 176 = .ok (.iload_n 2, 1) := by decide +kernel
theorem dX7_command_177 : decode cX7_command 177 = .ok (.ldc_w 327, 3) := by decide +kernel
theorem dX7_command_180 : decode cX7_command 180 = .ok (.irem, 1) := by decide +kernel
theorem dX7_command_181 : decode cX7_command 181 = .ok (.ifCond .ne 15, 3) := by decide +kernel
theorem dX7_command_184 : decode cX7_command 184 = .ok (.aload_n 0, 1) := by decide +kernel
theorem dX7_command_185 : decode cX7_command 185 = .ok (.iload_n 3, 1) := by decide +kernel
theorem dX7_command_186 : decode cX7_command 186 = .ok (.invokevirtual 339, 3) := by decide +kernel
theorem dX7_command_189 : decode cX7_command 189 = .ok (.ifCond .eq 7, 3) := by decide +kernel
theorem dX7_command_192 : decode cX7_command 192 = .ok (.iconst 1, 1) := by decide +kernel
theorem dX7_command_193 : decode cX7_command 193 = .ok (.goto 4, 3) := by decide +kernel
theorem dX7_command_196 : decode cX7_command 196 = .ok (.iconst 0, 1) := by decide +kernel
theorem dX7_command_197 : decode cX7_command 197 = .ok (.ireturn, 1) := by decide +kernel
theorem dX7_command_198 : decode cX7_command 198 = .ok (.iload_n 2, 1) := by decide +kernel
theorem dX7_command_199 : decode cX7_command 199 = .ok (.ifCond .ne 18, 3) := by decide +kernel
theorem dX7_command_202 : decode cX7_command 202 = .ok (.aload_n 0, 1) := by decide +kernel
theorem dX7_command_203 : decode cX7_command 203 = .ok (.aload_n 0, 1) := by decide +kernel
theorem dX7_command_204 : decode cX7_command 204 = .ok (.getfield 16, 3) := by decide +kernel
theorem dX7_command_207 : decode cX7_command 207 = .ok (.invokevirtual 231, 3) := by decide +kernel
theorem dX7_command_210 : decode cX7_command 210 = .ok (.ifCond .lt 7, 3) := by decide +kernel
theorem dX7_command_213 : decode cX7_command 213 = .ok (.iconst 1, 1) := by decide +kernel
theorem dX7_command_214 : decode cX7_command 214 = .ok (.goto 4, 3) := by decide +kernel
theorem dX7_command_217 : decode cX7_command 217 = .ok (.iconst 0, 1) := by decide +kernel
theorem dX7_command_218 : decode cX7_command 218 = .ok (.ireturn, 1) := by decide +kernel
theorem dX7_command_219 : decode cX7_command 219 = .ok (.iload_n 2, 1) := by decide +kernel
theorem dX7_command_220 : decode cX7_command 220 = .ok (.ifCond .ne 17, 3) := by decide +kernel
theorem dX7_command_223 : decode cX7_command 223 = .ok (.aload_n 0, 1) := by decide +kernel
theorem dX7_command_224 : decode cX7_command 224 = .ok (.getfield 16, 3) := by decide +kernel
theorem dX7_command_227 : decode cX7_command 227 = .ok (.invokestatic 234, 3) := by decide +kernel
theorem dX7_command_230 : decode cX7_command 230 = .ok (.ifCond .lt 7, 3) := by decide +kernel
theorem dX7_command_233 : decode cX7_command 233 = .ok (.iconst 1, 1) := by decide +kernel
theorem dX7_command_234 : decode cX7_command 234 = .ok (.goto 4, 3) := by decide +kernel
theorem dX7_command_237 : decode cX7_command 237 = .ok (.iconst 0, 1) := by decide +kernel
theorem dX7_command_238 : decode cX7_command 238 = .ok (.ireturn, 1) := by decide +kernel
theorem dX7_command_239 : decode cX7_command 239 = .ok (.aload_n 0, 1) := by decide +kernel
theorem dX7_command_240 : decode cX7_command 240 = .ok (.aload_n 0, 1) := by decide +kernel
theorem dX7_command_241 : decode cX7_command 241 = .ok (.getfield 16, 3) := by decide +kernel
theorem dX7_command_244 : decode cX7_command 244 = .ok (.invokevirtual 255, 3) := by decide +kernel
theorem dX7_command_247 : decode cX7_command 247 = .ok (.iload_n 2, 1) := by decide +kernel
theorem dX7_command_248 : decode cX7_command 248 = .ok (.sipush 1000, 3) := by decide +kernel
theorem dX7_command_251 : decode cX7_command 251 = .ok (.idiv, 1) := by decide +kernel
theorem dX7_command_252 : decode cX7_command 252 = .ok (.bipush 10, 2) := by decide +kernel
theorem dX7_command_254 : decode cX7_command 254 = .ok (.irem, 1) := by decide +kernel
theorem dX7_command_255 : decode cX7_command 255 = .ok (.ifCond .ne 34, 3) := by decide +kernel
theorem dX7_command_258 : decode cX7_command 258 = .ok (.iload_n 2, 1) := by decide +kernel
theorem dX7_command_259 : decode cX7_command 259 = .ok (.sipush 10000, 3) := by decide +kernel
theorem dX7_command_262 : decode cX7_command 262 = .ok (.idiv, 1) := by decide +kernel
theorem dX7_command_263 : decode cX7_command 263 = .ok (.aload_n 0, 1) := by decide +kernel
theorem dX7_command_264 : decode cX7_command 264 = .ok (.getfield 78, 3) := by decide +kernel
theorem dX7_command_267 : decode cX7_command 267 = .ok (.if_icmp .ge 22, 3) := by decide +kernel
theorem dX7_command_270 : decode cX7_command 270 = .ok (.aload_n 0, 1) := by decide +kernel
theorem dX7_command_271 : decode cX7_command 271 = .ok (.getfield 38, 3) := by decide +kernel
theorem dX7_command_274 : decode cX7_command 274 = .ok (.iload_n 2, 1) := by decide +kernel
theorem dX7_command_275 : decode cX7_command 275 = .ok (.sipush 10000, 3) := by decide +kernel
theorem dX7_command_278 : decode cX7_command 278 = .ok (.idiv, 1) := by decide +kernel
theorem dX7_command_279 : decode cX7_command 279 = .ok (.iaload, 1) := by decide +kernel
theorem dX7_command_280 : decode cX7_command 280 = .ok (.iload 7, 2) := by decide +kernel
theorem dX7_command_282 : decode cX7_command 282 = .ok (.if_icmp .lt 7, 3) := by decide +kernel
theorem dX7_command_285 : decode cX7_command 285 = .ok (.iconst 1, 1) := by decide +kernel
theorem dX7_command_286 : decode cX7_command 286 = .ok (.goto 4, 3) := by decide +kernel
theorem dX7_command_289 : decode cX7_command 289 = .ok (.iconst 0, 1) := by decide +kernel
theorem dX7_command_290 : decode cX7_command 290 = .ok (.ireturn, 1) := by decide +kernel
theorem dX7_command_291 : decode cX7_command 291 = .ok (.aload_n 0, 1) := by decide +kernel
theorem dX7_command_292 : decode cX7_command 292 = .ok (.aload_n 0, 1) := by decide +kernel
theorem dX7_command_293 : decode cX7_command 293 = .ok (.getfield 16, 3) := by decide +kernel
theorem dX7_command_296 : decode cX7_command 296 = .ok (.invokevirtual 255, 3) := by decide +kernel
theorem dX7_command_299 : decode cX7_command 299 = .ok (.iload_n 2, 1) := by decide +kernel
theorem dX7_command_300 : decode cX7_command 300 = .ok (.sipush 1000, 3) := by decide +kernel
theorem dX7_command_303 : decode cX7_command 303 = .ok (.if_icmp .ge 16, 3) := by decide +kernel
theorem dX7_command_306 : decode cX7_command 306 = .ok (.aload_n 0, 1) := by decide +kernel
theorem dX7_command_307 : decode cX7_command 307 = .ok (.getfield 78, 3) := by decide +kernel
theorem dX7_command_310 : decode cX7_command 310 = .ok (.iload 7, 2) := by decide +kernel
theorem dX7_command_312 : decode cX7_command 312 = .ok (.if_icmp .gt 7, 3) := by decide +kernel
theorem dX7_command_315 : decode cX7_command 315 = .ok (.iconst 1, 1) := by decide +kernel
theorem dX7_command_316 : decode cX7_command 316 = .ok (.goto 4, 3) := by decide +kernel
theorem dX7_command_319 : decode cX7_command 319 = .ok (.iconst 0, 1) := by decide +kernel
theorem dX7_command_320 : decode cX7_command 320 = .ok (.ireturn, 1) := by decide +kernel
theorem dX7_command_321 : decode cX7_command 321 = .ok (.aload_n 0, 1) := by decide +kernel
theorem dX7_command_322 : decode cX7_command 322 = .ok (.aload_n 0, 1) := by decide +kernel
theorem dX7_command_323 : decode cX7_command 323 = .ok (.getfield 16, 3) := by decide +kernel
theorem dX7_command_326 : decode cX7_command 326 = .ok (.invokevirtual 255, 3) := by decide +kernel
theorem dX7_command_329 : decode cX7_command 329 = .ok (.iload 5, 2) := by decide +kernel
theorem dX7_command_331 : decode cX7_command 331 = .ok (.ifCond .ne 50, 3) := by decide +kernel
theorem dX7_command_334 : decode cX7_command 334 = .ok (.aload_n 0, 1) := by decide +kernel
theorem dX7_command_335 : decode cX7_command 335 = .ok (.getfield 16, 3) := by decide +kernel
theorem dX7_command_338 : decode cX7_command 338 = .ok (.iload_n 3, 1) := by decide +kernel
theorem dX7_command_339 : decode cX7_command 339 = .ok (.invokestatic 122, 3) := by decide +kernel
theorem dX7_command_342 : decode cX7_command 342 = .ok (.ifCond .eq 39, 3) := by decide +kernel
theorem dX7_command_345 : decode cX7_command 345 = .ok (.aload_n 0, 1) := by decide +kernel
theorem dX7_command_346 : decode cX7_command 346 = .ok (.getfield 16, 3) := by decide +kernel
theorem dX7_command_349 : decode cX7_command 349 = .ok (.iload 4, 2) := by decide +kernel
theorem dX7_command_351 : decode cX7_command 351 = .ok (.invokestatic 126, 3) := by decide +kernel
theorem dX7_command_354 : decode cX7_command 354 = .ok (.ifCond .eq 27, 3) := by decide +kernel
theorem dX7_command_357 : decode cX7_command 357 = .ok (.aload_n 0, 1) := by decide +kernel
theorem dX7_command_358 : decode cX7_command 358 = .ok (.getfield 29, 3) := by decide +kernel
theorem dX7_command_361 : decode cX7_command 361 = .ok (.aload_n 0, 1) := by decide +kernel
theorem dX7_command_362 : decode cX7_command 362 = .ok (.getfield 16, 3) := by decide +kernel
theorem dX7_command_365 : decode cX7_command 365 = .ok (.iload_n 3, 1) := by decide +kernel
theorem dX7_command_366 : decode cX7_command 366 = .ok (.iload 4, 2) := by decide +kernel
theorem dX7_command_368 : decode cX7_command 368 = .ok (.invokestatic 129, 3) := by decide +kernel
theorem dX7_command_371 : decode cX7_command 371 = .ok (.iaload, 1) := by decide +kernel
theorem dX7_command_372 : decode cX7_command 372 = .ok (.iload 6, 2) := by decide +kernel
theorem dX7_command_374 : decode cX7_command 374 = .ok (.if_icmp .ne 7, 3) := by decide +kernel
theorem dX7_command_377 : decode cX7_command 377 = .ok (.iconst 1, 1) := by decide +kernel
theorem dX7_command_378 : decode cX7_command 378 = .ok (.goto 4, 3) := by decide +kernel
theorem dX7_command_381 : decode cX7_command 381 = .ok (.iconst 0, 1) := by decide +kernel
theorem dX7_command_382 : decode cX7_command 382 = .ok (.ireturn, 1) := by decide +kernel
theorem dX7_command_383 : decode cX7_command 383 = .ok (.iconst 0, 1) := by decide +kernel
theorem dX7_command_384 : decode cX7_command 384 = .ok (.ireturn, 1) := by decide +kernel
set_option maxRecDepth 100000 in
theorem c_mcommand {k a : Int} (hS : SV S2) (hB : ∀ i, 0 ≤ B i ∧ B i ≤ 5) (hI : ∀ i, rg (I i)) (hk : 0 ≤ k ∧ k ≤ 10) (ha : 0 ≤ a ∧ a < 10000000) : Ct l yX7_command cX7_command 8 (some .boolean) rmX7_command [.ref 0, iv k, iv a] (mdW rf sz S ac B I m Fi Co Br Wt mk gy S2 tx di ke ik ea sd rt lf wy sp ou)
    (fun z M => z = some (iv (cmZ S2 k a)) ∧ CM rf sz S ac (cmS S2 k a) tx di ke ik ea M) := by
  refine Ct.of miX7_command (Nat.le_of_ble_eq_true rfl) ?_
  intro X hXl hN ok
  refine AW.cast (L2 := [some (.ref 0), some (iv k), some (iv a), none, none, none, none, none]) ?_ rfl rfl rfl
  have hd := hS.1
  have hc := dim_cells hd
  have hm : 1 ≤ mS S2 ∧ mS S2 ≤ 144 := mny_1 hd
  have q1 : 0 ≤ a / 100000 ∧ a / 100000 < 100 := by omega
  have q2 : 0 ≤ a / 1000 % 100 ∧ a / 1000 % 100 < 100 := by omega
  have q3 : 0 ≤ a / 10 % 100 ∧ a / 10 % 100 < 100 := by omega
  have q4 : 0 ≤ a % 10 ∧ a % 10 < 10 := by omega
  have hcb := cntK_rg (fun j => decide (blF (sC S2) (sR S2) (sG S2) j ≠ sG S2 j)) (sC S2 * sR S2).toNat
  have hsi := sumI hS.2.1 (sC S2 * sR S2) (sC S2 * sR S2).toNat
  have z1 : k = 1 → cmZ S2 k a = bz (a % 10 = 0 ∧ kP S2 (a / 100000) (a / 1000 % 100) (a / 10 % 100)) ∧ cmS S2 k a = (if a % 10 = 0 then stP S2 (a / 100000) (a / 1000 % 100) (a / 10 % 100) else S2) := fun e => by subst e; exact ⟨rfl, rfl⟩
  have z2 : k = 2 → cmZ S2 k a = bz (kB S2 (a / 100000) (a / 100000 + a % 10) (a / 1000 % 100) (a / 1000 % 100 + a % 10) (a / 10 % 100)) ∧ cmS S2 k a = stB S2 (a / 100000) (a / 100000 + a % 10) (a / 1000 % 100) (a / 1000 % 100 + a % 10) (a / 10 % 100) := fun e => by subst e; exact ⟨rfl, rfl⟩
  have z3 : k = 3 → cmZ S2 k a = bz (a % 10000 = 0 ∧ a / 10000 % 10 < 2 ∧ kT S2 (a / 100000) (if a / 10000 % 10 = 1 then 1 else 0)) ∧ cmS S2 k a = (if a % 10000 = 0 ∧ a / 10000 % 10 < 2 then stT S2 (a / 100000) (if a / 10000 % 10 = 1 then 1 else 0) else S2) := fun e => by subst e; exact ⟨rfl, rfl⟩
  have z4 : k = 4 → cmZ S2 k a = bz (a % 100000 = 0 ∧ 1 ≤ a / 100000 ∧ a / 100000 ≤ 30) ∧ cmS S2 k a = (if a % 100000 = 0 then stL S2 (a / 100000) else S2) := fun e => by subst e; exact ⟨rfl, rfl⟩
  have z5 : k = 5 → cmZ S2 k a = bz (a = 0) ∧ cmS S2 k a = (if a = 0 then gU S2 else S2) := fun e => by subst e; exact ⟨rfl, rfl⟩
  have z6 : k = 6 → cmZ S2 k a = bz (a = 0) ∧ cmS S2 k a = (if a = 0 then gI S2 else S2) := fun e => by subst e; exact ⟨rfl, rfl⟩
  have z0 : k = 0 ∨ k = 10 → cmZ S2 k a = 0 ∧ cmS S2 k a = S2 := fun e => by rcases e with e | e <;> subst e <;> exact ⟨rfl, rfl⟩
  have done : ∀ {v : Int} {M : List va_E} {S3 : St} (gy' : Int → Int), M = (mdW rf sz S ac B I m Fi Co Br Wt mk (gy') (S3) tx di ke ik ea sd rt lf wy sp ou) → v = cmZ S2 k a → cmS S2 k a = S3 → some (iv v) = some (iv (cmZ S2 k a)) ∧ CM rf sz S ac (cmS S2 k a) tx di ke ik ea M := fun gy' e1 e2 e3 => by subst e1; rw [e2, e3]; exact ⟨rfl, CM_mk hB hI⟩
  have z7 : k = 7 → cmZ S2 k a = bz (a / 1000 % 10 = 0 ∧ a / 10000 < mS S2 ∧ a % 1000 ≤ siz (sC S2) (sR S2) (bS S2) (fS S2 (a / 10000))) ∧ cmS S2 k a = S2 := fun e => by subst e; exact ⟨rfl, rfl⟩
  have z8 : k = 8 → cmZ S2 k a = bz (a < 1000 ∧ mS S2 ≤ a % 1000) ∧ cmS S2 k a = S2 := fun e => by subst e; exact ⟨rfl, rfl⟩
  have z9 : k = 9 → cmZ S2 k a = bz (a / 10 % 100 = 0 ∧ (a / 100000 < sC S2) ∧ (a / 1000 % 100 < sR S2) ∧ bS S2 (a / 1000 % 100 * sC S2 + a / 100000) = a % 10) ∧ cmS S2 k a = S2 := fun e => by subst e; exact ⟨rfl, rfl⟩
  have s291 : k = 8 → AW X 0 0 291 [some (.ref 0), some (iv k), some (iv a), some (iv (a / 100000)), some (iv (a / 1000 % 100)), some (iv (a / 10 % 100)), some (iv (a % 10)), some (iv (a % 1000))] [] (mdW rf sz S ac B I m Fi Co Br Wt mk gy S2 tx di ke ik ea sd rt lf wy sp ou) := by
    intro h
    refine a_aload_n (pc := 291) ok dX7_command_291 rfl ?_
    refine a_aload_n (pc := 292) ok dX7_command_292 rfl ?_
    refine a_getf (pc := 293) ok dX7_command_293 fl7_16 rfl rfl ?_
    refine x_callV (pc := 296) ok [0, 10, 2, 3, 4, 5, 6, 7, 8, 9, 1, 10, 11, 12, 13, 14, 15] 10 dX7_command_296 mv7_255 miX7_findAs (c_findNow (S := S2) hS hB hI) ⟨by decide, by decide, rfl, rfl, Nat.zero_le _, Nat.zero_le _⟩ rfl rfl (Nat.le_of_ble_eq_true rfl) mdM_len rfl (by decide) rfl rfl (fun v M' h => by obtain ⟨_, _, _, _, _, _, _, h, _⟩ := h; rw [h]; rfl) ?_
    rintro _ M' ⟨rfl, B', I', Fi', Co', Br', Q', rfl, hJ⟩
    refine AW.cast (st2 := []) (M2 := (mdW rf sz S ac (B') (I') (mS S2) (Fi') (Co') (Br') (Q') mk gy S2 tx di ke ik ea sd rt lf wy sp ou)) ?_ rfl rfl rfl
    refine a_iload_n (pc := 299) ok dX7_command_299 rfl ?_
    refine a_sipush (pc := 300) ok dX7_command_300 (by decide) ?_
    refine a_icmp_ge (pc := 303) (tgt := 319) ok dX7_command_303 (by decide) (by first | omega | (unfold rg; omega) | (simp only [rg] at *; omega) | exact bz_rg _ | grind [rg]) (by first | omega | (unfold rg; omega) | (simp only [rg] at *; omega) | exact bz_rg _ | grind [rg]) (fun c303 => ?_) (fun c303 => ?_)
    · refine a_iconst (pc := 319) ok dX7_command_319 ?_
      exact a_zret (pc := 320) ok dX7_command_320 (by first | rfl | exact nb_bz _ | exact @nb_bz _ (Classical.propDecidable _) | decide) (⟨by rw [(z8 h).1, bz_neg (fun z => by omega)], by rw [(z8 h).2]; exact CM_mk hJ.1 hJ.2.1⟩)
    · refine a_aload_n (pc := 306) ok dX7_command_306 rfl ?_
      refine a_getf (pc := 307) ok dX7_command_307 fl7_78 rfl rfl ?_
      refine a_iload (pc := 310) ok dX7_command_310 rfl ?_
      refine a_icmp_gt (pc := 312) (tgt := 319) ok dX7_command_312 (by decide) (by first | omega | (unfold rg; omega) | (simp only [rg] at *; omega) | exact bz_rg _ | grind [rg]) (by first | omega | (unfold rg; omega) | (simp only [rg] at *; omega) | exact bz_rg _ | grind [rg]) (fun c312 => ?_) (fun c312 => ?_)
      · refine a_iconst (pc := 319) ok dX7_command_319 ?_
        exact a_zret (pc := 320) ok dX7_command_320 (by first | rfl | exact nb_bz _ | exact @nb_bz _ (Classical.propDecidable _) | decide) (⟨by rw [(z8 h).1, bz_neg (fun z => by omega)], by rw [(z8 h).2]; exact CM_mk hJ.1 hJ.2.1⟩)
      · refine a_iconst (pc := 315) ok dX7_command_315 ?_
        refine a_goto (pc := 316) (tgt := 320) ok dX7_command_316 (by decide) ?_
        exact a_zret (pc := 320) ok dX7_command_320 (by first | rfl | exact nb_bz _ | exact @nb_bz _ (Classical.propDecidable _) | decide) (⟨by rw [(z8 h).1, bz_pos ⟨by omega, by omega⟩], by rw [(z8 h).2]; exact CM_mk hJ.1 hJ.2.1⟩)
  have s239 : k = 7 → AW X 0 0 239 [some (.ref 0), some (iv k), some (iv a), some (iv (a / 100000)), some (iv (a / 1000 % 100)), some (iv (a / 10 % 100)), some (iv (a % 10)), some (iv (a % 1000))] [] (mdW rf sz S ac B I m Fi Co Br Wt mk gy S2 tx di ke ik ea sd rt lf wy sp ou) := by
    intro h
    have hsz : 0 ≤ siz (sC S2) (sR S2) (bS S2) (fS S2 (a / 10000)) ∧ siz (sC S2) (sR S2) (bS S2) (fS S2 (a / 10000)) ≤ (sC S2 * sR S2).toNat := cntK_rg _ _
    refine a_aload_n (pc := 239) ok dX7_command_239 rfl ?_
    refine a_aload_n (pc := 240) ok dX7_command_240 rfl ?_
    refine a_getf (pc := 241) ok dX7_command_241 fl7_16 rfl rfl ?_
    refine x_callV (pc := 244) ok [0, 10, 2, 3, 4, 5, 6, 7, 8, 9, 1, 10, 11, 12, 13, 14, 15] 10 dX7_command_244 mv7_255 miX7_findAs (c_findNow (S := S2) hS hB hI) ⟨by decide, by decide, rfl, rfl, Nat.zero_le _, Nat.zero_le _⟩ rfl rfl (Nat.le_of_ble_eq_true rfl) mdM_len rfl (by decide) rfl rfl (fun v M' h => by obtain ⟨_, _, _, _, _, _, _, h, _⟩ := h; rw [h]; rfl) ?_
    rintro _ M' ⟨rfl, B', I', Fi', Co', Br', Q', rfl, hJ⟩
    refine AW.cast (st2 := []) (M2 := (mdW rf sz S ac (B') (I') (mS S2) (Fi') (Co') (Br') (Q') mk gy S2 tx di ke ik ea sd rt lf wy sp ou)) ?_ rfl rfl rfl
    refine a_iload_n (pc := 247) ok dX7_command_247 rfl ?_
    refine a_sipush (pc := 248) ok dX7_command_248 (by decide) ?_
    refine a_idiv (pc := 251) ok dX7_command_251 (by first | omega | (unfold rg; omega) | (simp only [rg] at *; omega) | exact bz_rg _ | grind [rg]) (by first | omega | (unfold rg; omega) | (simp only [rg] at *; omega) | exact bz_rg _ | grind [rg]) ?_
    refine a_bipush (pc := 252) ok dX7_command_252 (by decide) ?_
    refine a_irem (pc := 254) ok dX7_command_254 (by first | omega | (unfold rg; omega) | (simp only [rg] at *; omega) | exact bz_rg _ | grind [rg]) (by first | omega | (unfold rg; omega) | (simp only [rg] at *; omega) | exact bz_rg _ | grind [rg]) ?_
    refine a_if_ne (pc := 255) (tgt := 289) ok dX7_command_255 (by decide) (by first | omega | (unfold rg; omega) | (simp only [rg] at *; omega) | exact bz_rg _ | grind [rg]) (fun c255 => ?_) (fun c255 => ?_)
    · refine a_iconst (pc := 289) ok dX7_command_289 ?_
      exact a_zret (pc := 290) ok dX7_command_290 (by first | rfl | exact nb_bz _ | exact @nb_bz _ (Classical.propDecidable _) | decide) (⟨by rw [(z7 h).1, bz_neg (fun z => by omega)], by rw [(z7 h).2]; exact CM_mk hJ.1 hJ.2.1⟩)
    · refine a_iload_n (pc := 258) ok dX7_command_258 rfl ?_
      refine a_sipush (pc := 259) ok dX7_command_259 (by decide) ?_
      refine a_idiv (pc := 262) ok dX7_command_262 (by first | omega | (unfold rg; omega) | (simp only [rg] at *; omega) | exact bz_rg _ | grind [rg]) (by first | omega | (unfold rg; omega) | (simp only [rg] at *; omega) | exact bz_rg _ | grind [rg]) ?_
      refine a_aload_n (pc := 263) ok dX7_command_263 rfl ?_
      refine a_getf (pc := 264) ok dX7_command_264 fl7_78 rfl rfl ?_
      refine a_icmp_ge (pc := 267) (tgt := 289) ok dX7_command_267 (by decide) (by first | omega | (unfold rg; omega) | (simp only [rg] at *; omega) | exact bz_rg _ | grind [rg]) (by first | omega | (unfold rg; omega) | (simp only [rg] at *; omega) | exact bz_rg _ | grind [rg]) (fun c267 => ?_) (fun c267 => ?_)
      · refine a_iconst (pc := 289) ok dX7_command_289 ?_
        exact a_zret (pc := 290) ok dX7_command_290 (by first | rfl | exact nb_bz _ | exact @nb_bz _ (Classical.propDecidable _) | decide) (⟨by rw [(z7 h).1, bz_neg (fun z => by omega)], by rw [(z7 h).2]; exact CM_mk hJ.1 hJ.2.1⟩)
      · refine a_aload_n (pc := 270) ok dX7_command_270 rfl ?_
        refine a_getf (pc := 271) ok dX7_command_271 fl7_38 rfl rfl ?_
        refine a_iload_n (pc := 274) ok dX7_command_274 rfl ?_
        refine a_sipush (pc := 275) ok dX7_command_275 (by decide) ?_
        refine a_idiv (pc := 278) ok dX7_command_278 (by first | omega | (unfold rg; omega) | (simp only [rg] at *; omega) | exact bz_rg _ | grind [rg]) (by first | omega | (unfold rg; omega) | (simp only [rg] at *; omega) | exact bz_rg _ | grind [rg]) ?_
        have eCo : Co' (a / 10000) = siz (sC S2) (sR S2) (bS S2) (fS S2 (a / 10000)) := by
          obtain ⟨f1, f2, f3⟩ := fS_ok hS (show 0 ≤ a / 10000 ∧ a / 10000 < mS S2 by omega)
          have := (hJ.2.2.2.2.2 _ f1 f2).2
          rw [f3] at this
          exact this
        refine a_iald (pc := 279) ok dX7_command_279 rfl (by first | decide | omega) (by omega) ?_
        refine a_iload (pc := 280) ok dX7_command_280 rfl ?_
        refine a_icmp_lt (pc := 282) (tgt := 289) ok dX7_command_282 (by decide) (by first | (rw [eCo]; unfold rg; omega) | (unfold rg; omega)) (by first | (rw [eCo]; unfold rg; omega) | (unfold rg; omega)) (fun c282 => ?_) (fun c282 => ?_)
        · refine a_iconst (pc := 289) ok dX7_command_289 ?_
          exact a_zret (pc := 290) ok dX7_command_290 (by first | rfl | exact nb_bz _ | exact @nb_bz _ (Classical.propDecidable _) | decide) (⟨by rw [(z7 h).1, bz_neg (fun z => by omega)], by rw [(z7 h).2]; exact CM_mk hJ.1 hJ.2.1⟩)
        · refine a_iconst (pc := 285) ok dX7_command_285 ?_
          refine a_goto (pc := 286) (tgt := 290) ok dX7_command_286 (by decide) ?_
          exact a_zret (pc := 290) ok dX7_command_290 (by first | rfl | exact nb_bz _ | exact @nb_bz _ (Classical.propDecidable _) | decide) (⟨by rw [(z7 h).1, bz_pos ⟨by omega, by omega, by omega⟩], by rw [(z7 h).2]; exact CM_mk hJ.1 hJ.2.1⟩)
  have s321 : k = 9 → AW X 0 0 321 [some (.ref 0), some (iv k), some (iv a), some (iv (a / 100000)), some (iv (a / 1000 % 100)), some (iv (a / 10 % 100)), some (iv (a % 10)), some (iv (a % 1000))] [] (mdW rf sz S ac B I m Fi Co Br Wt mk gy S2 tx di ke ik ea sd rt lf wy sp ou) := by
    intro h
    refine a_aload_n (pc := 321) ok dX7_command_321 rfl ?_
    refine a_aload_n (pc := 322) ok dX7_command_322 rfl ?_
    refine a_getf (pc := 323) ok dX7_command_323 fl7_16 rfl rfl ?_
    refine x_callV (pc := 326) ok [0, 10, 2, 3, 4, 5, 6, 7, 8, 9, 1, 10, 11, 12, 13, 14, 15] 10 dX7_command_326 mv7_255 miX7_findAs (c_findNow (S := S2) hS hB hI) ⟨by decide, by decide, rfl, rfl, Nat.zero_le _, Nat.zero_le _⟩ rfl rfl (Nat.le_of_ble_eq_true rfl) mdM_len rfl (by decide) rfl rfl (fun v M' h => by obtain ⟨_, _, _, _, _, _, _, h, _⟩ := h; rw [h]; rfl) ?_
    rintro _ M' ⟨rfl, B', I', Fi', Co', Br', Q', rfl, hJ⟩
    refine AW.cast (st2 := []) (M2 := (mdW rf sz S ac (B') (I') (mS S2) (Fi') (Co') (Br') (Q') mk gy S2 tx di ke ik ea sd rt lf wy sp ou)) ?_ rfl rfl rfl
    refine a_iload (pc := 329) ok dX7_command_329 rfl ?_
    refine a_if_ne (pc := 331) (tgt := 381) ok dX7_command_331 (by decide) (by first | omega | (unfold rg; omega) | (simp only [rg] at *; omega) | exact bz_rg _ | grind [rg]) (fun c331 => ?_) (fun c331 => ?_)
    · refine a_iconst (pc := 381) ok dX7_command_381 ?_
      exact a_zret (pc := 382) ok dX7_command_382 (by first | rfl | exact nb_bz _ | exact @nb_bz _ (Classical.propDecidable _) | decide) (⟨by rw [(z9 h).1, bz_neg (fun z => by omega)], by rw [(z9 h).2]; exact CM_mk hJ.1 hJ.2.1⟩)
    · refine a_aload_n (pc := 334) ok dX7_command_334 rfl ?_
      refine a_getf (pc := 335) ok dX7_command_335 fl7_16 rfl rfl ?_
      refine a_iload_n (pc := 338) ok dX7_command_338 rfl ?_
      refine a_callSp (pc := 339) ok [10] dX7_command_339 mv7_122 miX7_isColumn (c_isColumn hd (by unfold rg; omega)) ⟨by decide, by decide, rfl, rfl, Nat.zero_le _, Nat.zero_le _⟩ rfl rfl (Nat.le_of_ble_eq_true rfl) rfl (by decide) ?_
      refine a_if_eq (pc := 342) (tgt := 381) ok dX7_command_342 (by decide) (by exact bz_rg _) (fun c342 => ?_) (fun c342 => ?_)
      · refine a_iconst (pc := 381) ok dX7_command_381 ?_
        exact a_zret (pc := 382) ok dX7_command_382 (by first | rfl | exact nb_bz _ | exact @nb_bz _ (Classical.propDecidable _) | decide) (⟨by rw [(z9 h).1, bz_neg (fun z => bz_0.mp c342 ⟨by omega, z.2.1⟩)], by rw [(z9 h).2]; exact CM_mk hJ.1 hJ.2.1⟩)
      · refine a_aload_n (pc := 345) ok dX7_command_345 rfl ?_
        refine a_getf (pc := 346) ok dX7_command_346 fl7_16 rfl rfl ?_
        refine a_iload (pc := 349) ok dX7_command_349 rfl ?_
        refine a_callSp (pc := 351) ok [10] dX7_command_351 mv7_126 miX7_isRow (c_isRow hd (by unfold rg; omega)) ⟨by decide, by decide, rfl, rfl, Nat.zero_le _, Nat.zero_le _⟩ rfl rfl (Nat.le_of_ble_eq_true rfl) rfl (by decide) ?_
        refine a_if_eq (pc := 354) (tgt := 381) ok dX7_command_354 (by decide) (by exact bz_rg _) (fun c354 => ?_) (fun c354 => ?_)
        · refine a_iconst (pc := 381) ok dX7_command_381 ?_
          exact a_zret (pc := 382) ok dX7_command_382 (by first | rfl | exact nb_bz _ | exact @nb_bz _ (Classical.propDecidable _) | decide) (⟨by rw [(z9 h).1, bz_neg (fun z => bz_0.mp c354 ⟨by omega, z.2.2.1⟩)], by rw [(z9 h).2]; exact CM_mk hJ.1 hJ.2.1⟩)
        · refine a_aload_n (pc := 357) ok dX7_command_357 rfl ?_
          refine a_getf (pc := 358) ok dX7_command_358 fl7_29 rfl rfl ?_
          refine a_aload_n (pc := 361) ok dX7_command_361 rfl ?_
          refine a_getf (pc := 362) ok dX7_command_362 fl7_16 rfl rfl ?_
          refine a_iload_n (pc := 365) ok dX7_command_365 rfl ?_
          refine a_iload (pc := 366) ok dX7_command_366 rfl ?_
          refine a_callSp (pc := 368) ok [10] dX7_command_368 mv7_129 miX7_at (c_at) ⟨by decide, by decide, rfl, rfl, Nat.zero_le _, Nat.zero_le _⟩ rfl rfl (Nat.le_of_ble_eq_true rfl) rfl (by decide) ?_
          have hcel := xy_cel hd (bz_y c342) (bz_y c354)
          have hc1 := hcel.1
          have hc2 := hcel.2
          have eB := hJ.2.2.1 _ hcel
          have hBb := hJ.1 (a / 1000 % 100 * sC S2 + a / 100000)
          refine a_iald (pc := 371) ok dX7_command_371 rfl (by first | decide | omega) (by omega) ?_
          refine a_iload (pc := 372) ok dX7_command_372 rfl ?_
          refine a_icmp_ne (pc := 374) (tgt := 381) ok dX7_command_374 (by decide) (by unfold rg; omega) (by unfold rg; omega) (fun c374 => ?_) (fun c374 => ?_)
          · refine a_iconst (pc := 381) ok dX7_command_381 ?_
            exact a_zret (pc := 382) ok dX7_command_382 (by first | rfl | exact nb_bz _ | exact @nb_bz _ (Classical.propDecidable _) | decide) (⟨by rw [(z9 h).1, bz_neg (fun z => by rw [← eB] at z; omega)], by rw [(z9 h).2]; exact CM_mk hJ.1 hJ.2.1⟩)
          · refine a_iconst (pc := 377) ok dX7_command_377 ?_
            refine a_goto (pc := 378) (tgt := 382) ok dX7_command_378 (by decide) ?_
            exact a_zret (pc := 382) ok dX7_command_382 (by first | rfl | exact nb_bz _ | exact @nb_bz _ (Classical.propDecidable _) | decide) (⟨by rw [(z9 h).1, bz_pos ⟨by omega, (bz_y c342).2, (bz_y c354).2, by rw [← eB]; omega⟩], by rw [(z9 h).2]; exact CM_mk hJ.1 hJ.2.1⟩)
  refine a_iload_n (pc := 0) ok dX7_command_0 rfl ?_
  refine a_ldcw (pc := 1) (z := 100000) (v := Int32.ofInt 100000) ok dX7_command_1 (ug7 32 (by decide +kernel) rfl) (by decide) ?_
  refine a_idiv (pc := 4) ok dX7_command_4 (by first | omega | (unfold rg; omega) | (simp only [rg] at *; omega) | exact bz_rg _ | grind [rg]) (by first | omega | (unfold rg; omega) | (simp only [rg] at *; omega) | exact bz_rg _ | grind [rg]) ?_
  refine a_istore_n (pc := 5) ok dX7_command_5 rfl (by rw [hN]; decide) ?_
  refine a_iload_n (pc := 6) ok dX7_command_6 rfl ?_
  refine a_sipush (pc := 7) ok dX7_command_7 (by decide) ?_
  refine a_idiv (pc := 10) ok dX7_command_10 (by first | omega | (unfold rg; omega) | (simp only [rg] at *; omega) | exact bz_rg _ | grind [rg]) (by first | omega | (unfold rg; omega) | (simp only [rg] at *; omega) | exact bz_rg _ | grind [rg]) ?_
  refine a_bipush (pc := 11) ok dX7_command_11 (by decide) ?_
  refine a_irem (pc := 13) ok dX7_command_13 (by first | omega | (unfold rg; omega) | (simp only [rg] at *; omega) | exact bz_rg _ | grind [rg]) (by first | omega | (unfold rg; omega) | (simp only [rg] at *; omega) | exact bz_rg _ | grind [rg]) ?_
  refine a_istore (pc := 14) ok dX7_command_14 rfl (by rw [hN]; decide) ?_
  refine a_iload_n (pc := 16) ok dX7_command_16 rfl ?_
  refine a_bipush (pc := 17) ok dX7_command_17 (by decide) ?_
  refine a_idiv (pc := 19) ok dX7_command_19 (by first | omega | (unfold rg; omega) | (simp only [rg] at *; omega) | exact bz_rg _ | grind [rg]) (by first | omega | (unfold rg; omega) | (simp only [rg] at *; omega) | exact bz_rg _ | grind [rg]) ?_
  refine a_bipush (pc := 20) ok dX7_command_20 (by decide) ?_
  refine a_irem (pc := 22) ok dX7_command_22 (by first | omega | (unfold rg; omega) | (simp only [rg] at *; omega) | exact bz_rg _ | grind [rg]) (by first | omega | (unfold rg; omega) | (simp only [rg] at *; omega) | exact bz_rg _ | grind [rg]) ?_
  refine a_istore (pc := 23) ok dX7_command_23 rfl (by rw [hN]; decide) ?_
  refine a_iload_n (pc := 25) ok dX7_command_25 rfl ?_
  refine a_bipush (pc := 26) ok dX7_command_26 (by decide) ?_
  refine a_irem (pc := 28) ok dX7_command_28 (by first | omega | (unfold rg; omega) | (simp only [rg] at *; omega) | exact bz_rg _ | grind [rg]) (by first | omega | (unfold rg; omega) | (simp only [rg] at *; omega) | exact bz_rg _ | grind [rg]) ?_
  refine a_istore (pc := 29) ok dX7_command_29 rfl (by rw [hN]; decide) ?_
  refine a_iload_n (pc := 31) ok dX7_command_31 rfl ?_
  refine a_sipush (pc := 32) ok dX7_command_32 (by decide) ?_
  refine a_irem (pc := 35) ok dX7_command_35 (by first | omega | (unfold rg; omega) | (simp only [rg] at *; omega) | exact bz_rg _ | grind [rg]) (by first | omega | (unfold rg; omega) | (simp only [rg] at *; omega) | exact bz_rg _ | grind [rg]) ?_
  refine a_istore (pc := 36) ok dX7_command_36 rfl (by rw [hN]; decide) ?_
  refine a_iload_n (pc := 38) ok dX7_command_38 rfl ?_
  refine a_tab (pc := 39) (dt := 383) ok [88, 111, 125, 176, 198, 219, 239, 291, 321] dX7_command_39 (by decide) (by decide) (by decide) (by first | omega | (unfold rg; omega) | (simp only [rg] at *; omega) | exact bz_rg _ | grind [rg]) (fun j39 hj39 c39 => ?_) (fun c39 => ?_)
  · rcases (show j39 = 0 ∨ j39 = 1 ∨ j39 = 2 ∨ j39 = 3 ∨ j39 = 4 ∨ j39 = 5 ∨ j39 = 6 ∨ j39 = 7 ∨ j39 = 8 by simp only [List.length_cons, List.length_nil] at hj39; omega) with rfl | rfl | rfl | rfl | rfl | rfl | rfl | rfl | rfl
    · refine a_iload (pc := 88) ok dX7_command_88 rfl ?_
      refine a_if_ne (pc := 90) (tgt := 109) ok dX7_command_90 (by decide) (by first | omega | (unfold rg; omega) | (simp only [rg] at *; omega) | exact bz_rg _ | grind [rg]) (fun c90 => ?_) (fun c90 => ?_)
      · refine a_iconst (pc := 109) ok dX7_command_109 ?_
        exact a_zret (pc := 110) ok dX7_command_110 (by first | rfl | exact nb_bz _ | exact @nb_bz _ (Classical.propDecidable _) | decide) (done gy rfl (by rw [(z1 (by omega)).1, bz_neg (fun z => by omega)]) (by rw [(z1 (by omega)).2, if_neg (by omega)]))
      · refine a_aload_n (pc := 93) ok dX7_command_93 rfl ?_
        refine a_iload_n (pc := 94) ok dX7_command_94 rfl ?_
        refine a_iload (pc := 95) ok dX7_command_95 rfl ?_
        refine a_iload (pc := 97) ok dX7_command_97 rfl ?_
        refine a_callVi (pc := 99) ok [0, 1, 2, 3, 4, 5, 6, 7, 8, 9, 10, 11, 12, 13, 14, 15] dX7_command_99 mv7_328 miX7_paints (c_mpaints hS (by unfold rg; omega) (by unfold rg; omega) (by unfold rg; omega)) ⟨by decide, by decide, rfl, rfl, Nat.zero_le _, Nat.zero_le _⟩ rfl rfl (Nat.le_of_ble_eq_true rfl) rfl (by decide) rfl rfl rfl ?_
        refine a_if_eq (pc := 102) (tgt := 109) ok dX7_command_102 (by decide) (by exact bz_rg _) (fun c102 => ?_) (fun c102 => ?_)
        · refine a_iconst (pc := 109) ok dX7_command_109 ?_
          exact a_zret (pc := 110) ok dX7_command_110 (by first | rfl | exact nb_bz _ | exact @nb_bz _ (Classical.propDecidable _) | decide) (done gy rfl (by rw [(z1 (by omega)).1, bz_neg (fun z => bz_0.mp c102 z.2)]) (by rw [(z1 (by omega)).2, if_pos (by omega)]))
        · refine a_iconst (pc := 105) ok dX7_command_105 ?_
          refine a_goto (pc := 106) (tgt := 110) ok dX7_command_106 (by decide) ?_
          exact a_zret (pc := 110) ok dX7_command_110 (by first | rfl | exact nb_bz _ | exact @nb_bz _ (Classical.propDecidable _) | decide) (done gy rfl (by rw [(z1 (by omega)).1, bz_pos ⟨by omega, bz_y c102⟩]) (by rw [(z1 (by omega)).2, if_pos (by omega)]))
    · refine a_aload_n (pc := 111) ok dX7_command_111 rfl ?_
      refine a_iload_n (pc := 112) ok dX7_command_112 rfl ?_
      refine a_iload (pc := 113) ok dX7_command_113 rfl ?_
      refine a_iload (pc := 115) ok dX7_command_115 rfl ?_
      refine a_iload (pc := 117) ok dX7_command_117 rfl ?_
      refine a_iload (pc := 119) ok dX7_command_119 rfl ?_
      refine a_callVi (pc := 121) ok [0, 1, 2, 3, 4, 5, 6, 7, 8, 9, 10, 11, 12, 13, 14, 15] dX7_command_121 mv7_331 miX7_boxes (c_mboxes hS (by omega) (by omega) (by unfold rg; omega) (by omega) (by omega)) ⟨by decide, by decide, rfl, rfl, Nat.zero_le _, Nat.zero_le _⟩ rfl rfl (Nat.le_of_ble_eq_true rfl) rfl (by decide) rfl rfl rfl ?_
      exact a_zret (pc := 124) ok dX7_command_124 (by first | rfl | exact nb_bz _ | exact @nb_bz _ (Classical.propDecidable _) | decide) (done gy rfl (by rw [(z2 (by omega)).1]) (z2 (by omega)).2)
    · refine a_iload_n (pc := 125) ok dX7_command_125 rfl ?_
      refine a_sipush (pc := 126) ok dX7_command_126 (by decide) ?_
      refine a_irem (pc := 129) ok dX7_command_129 (by first | omega | (unfold rg; omega) | (simp only [rg] at *; omega) | exact bz_rg _ | grind [rg]) (by first | omega | (unfold rg; omega) | (simp only [rg] at *; omega) | exact bz_rg _ | grind [rg]) ?_
      refine a_if_ne (pc := 130) (tgt := 174) ok dX7_command_130 (by decide) (by first | omega | (unfold rg; omega) | (simp only [rg] at *; omega) | exact bz_rg _ | grind [rg]) (fun c130 => ?_) (fun c130 => ?_)
      · refine a_iconst (pc := 174) ok dX7_command_174 ?_
        exact a_zret (pc := 175) ok dX7_command_175 (by first | rfl | exact nb_bz _ | exact @nb_bz _ (Classical.propDecidable _) | decide) (done gy rfl (by rw [(z3 (by omega)).1, bz_neg (fun z => by omega)]) (by rw [(z3 (by omega)).2, if_neg (by omega)]))
      · refine a_iload_n (pc := 133) ok dX7_command_133 rfl ?_
        refine a_sipush (pc := 134) ok dX7_command_134 (by decide) ?_
        refine a_idiv (pc := 137) ok dX7_command_137 (by first | omega | (unfold rg; omega) | (simp only [rg] at *; omega) | exact bz_rg _ | grind [rg]) (by first | omega | (unfold rg; omega) | (simp only [rg] at *; omega) | exact bz_rg _ | grind [rg]) ?_
        refine a_bipush (pc := 138) ok dX7_command_138 (by decide) ?_
        refine a_irem (pc := 140) ok dX7_command_140 (by first | omega | (unfold rg; omega) | (simp only [rg] at *; omega) | exact bz_rg _ | grind [rg]) (by first | omega | (unfold rg; omega) | (simp only [rg] at *; omega) | exact bz_rg _ | grind [rg]) ?_
        refine a_iconst (pc := 141) ok dX7_command_141 ?_
        refine a_icmp_ge (pc := 142) (tgt := 174) ok dX7_command_142 (by decide) (by first | omega | (unfold rg; omega) | (simp only [rg] at *; omega) | exact bz_rg _ | grind [rg]) (by first | omega | (unfold rg; omega) | (simp only [rg] at *; omega) | exact bz_rg _ | grind [rg]) (fun c142 => ?_) (fun c142 => ?_)
        · refine a_iconst (pc := 174) ok dX7_command_174 ?_
          exact a_zret (pc := 175) ok dX7_command_175 (by first | rfl | exact nb_bz _ | exact @nb_bz _ (Classical.propDecidable _) | decide) (done gy rfl (by rw [(z3 (by omega)).1, bz_neg (fun z => by omega)]) (by rw [(z3 (by omega)).2, if_neg (by omega)]))
        · refine a_aload_n (pc := 145) ok dX7_command_145 rfl ?_
          refine a_iload_n (pc := 146) ok dX7_command_146 rfl ?_
          refine a_iload_n (pc := 147) ok dX7_command_147 rfl ?_
          refine a_sipush (pc := 148) ok dX7_command_148 (by decide) ?_
          refine a_idiv (pc := 151) ok dX7_command_151 (by first | omega | (unfold rg; omega) | (simp only [rg] at *; omega) | exact bz_rg _ | grind [rg]) (by first | omega | (unfold rg; omega) | (simp only [rg] at *; omega) | exact bz_rg _ | grind [rg]) ?_
          refine a_bipush (pc := 152) ok dX7_command_152 (by decide) ?_
          refine a_irem (pc := 154) ok dX7_command_154 (by first | omega | (unfold rg; omega) | (simp only [rg] at *; omega) | exact bz_rg _ | grind [rg]) (by first | omega | (unfold rg; omega) | (simp only [rg] at *; omega) | exact bz_rg _ | grind [rg]) ?_
          refine a_iconst (pc := 155) ok dX7_command_155 ?_
          refine a_icmp_ne (pc := 156) (tgt := 163) ok dX7_command_156 (by decide) (by first | omega | (unfold rg; omega) | (simp only [rg] at *; omega) | exact bz_rg _ | grind [rg]) (by first | omega | (unfold rg; omega) | (simp only [rg] at *; omega) | exact bz_rg _ | grind [rg]) (fun c156 => ?_) (fun c156 => ?_)
          · refine a_iconst (pc := 163) ok dX7_command_163 ?_
            refine a_callVi (pc := 164) ok [0, 1, 2, 3, 4, 5, 6, 7, 8, 9, 10, 11, 12, 13, 14, 15] dX7_command_164 mv7_335 miX7_parts (c_mparts hS (by unfold rg; omega) (by unfold rg; omega)) ⟨by decide, by decide, rfl, rfl, Nat.zero_le _, Nat.zero_le _⟩ rfl rfl (Nat.le_of_ble_eq_true rfl) rfl (by decide) rfl rfl rfl ?_
            refine a_if_eq (pc := 167) (tgt := 174) ok dX7_command_167 (by decide) (by exact bz_rg _) (fun c167 => ?_) (fun c167 => ?_)
            · refine a_iconst (pc := 174) ok dX7_command_174 ?_
              exact a_zret (pc := 175) ok dX7_command_175 (by first | rfl | exact nb_bz _ | exact @nb_bz _ (Classical.propDecidable _) | decide) (done gy rfl (by rw [(z3 (by omega)).1, if_neg (by omega), bz_neg (fun z => bz_0.mp c167 z.2.2)]) (by rw [(z3 (by omega)).2, if_pos (by omega), if_neg (by omega)]))
            · refine a_iconst (pc := 170) ok dX7_command_170 ?_
              refine a_goto (pc := 171) (tgt := 175) ok dX7_command_171 (by decide) ?_
              exact a_zret (pc := 175) ok dX7_command_175 (by first | rfl | exact nb_bz _ | exact @nb_bz _ (Classical.propDecidable _) | decide) (done gy rfl (by rw [(z3 (by omega)).1, if_neg (by omega), bz_pos ⟨by omega, by omega, bz_y c167⟩]) (by rw [(z3 (by omega)).2, if_pos (by omega), if_neg (by omega)]))
          · refine a_iconst (pc := 159) ok dX7_command_159 ?_
            refine a_goto (pc := 160) (tgt := 164) ok dX7_command_160 (by decide) ?_
            refine a_callVi (pc := 164) ok [0, 1, 2, 3, 4, 5, 6, 7, 8, 9, 10, 11, 12, 13, 14, 15] dX7_command_164 mv7_335 miX7_parts (c_mparts hS (by unfold rg; omega) (by unfold rg; omega)) ⟨by decide, by decide, rfl, rfl, Nat.zero_le _, Nat.zero_le _⟩ rfl rfl (Nat.le_of_ble_eq_true rfl) rfl (by decide) rfl rfl rfl ?_
            refine a_if_eq (pc := 167) (tgt := 174) ok dX7_command_167 (by decide) (by exact bz_rg _) (fun c167 => ?_) (fun c167 => ?_)
            · refine a_iconst (pc := 174) ok dX7_command_174 ?_
              exact a_zret (pc := 175) ok dX7_command_175 (by first | rfl | exact nb_bz _ | exact @nb_bz _ (Classical.propDecidable _) | decide) (done gy rfl (by rw [(z3 (by omega)).1, if_pos (by omega), bz_neg (fun z => bz_0.mp c167 z.2.2)]) (by rw [(z3 (by omega)).2, if_pos (by omega), if_pos (by omega)]))
            · refine a_iconst (pc := 170) ok dX7_command_170 ?_
              refine a_goto (pc := 171) (tgt := 175) ok dX7_command_171 (by decide) ?_
              exact a_zret (pc := 175) ok dX7_command_175 (by first | rfl | exact nb_bz _ | exact @nb_bz _ (Classical.propDecidable _) | decide) (done gy rfl (by rw [(z3 (by omega)).1, if_pos (by omega), bz_pos ⟨by omega, by omega, bz_y c167⟩]) (by rw [(z3 (by omega)).2, if_pos (by omega), if_pos (by omega)]))
    · refine a_iload_n (pc := 176) ok dX7_command_176 rfl ?_
      refine a_ldcw (pc := 177) (z := 100000) (v := Int32.ofInt 100000) ok dX7_command_177 (ug7 32 (by decide +kernel) rfl) (by decide) ?_
      refine a_irem (pc := 180) ok dX7_command_180 (by first | omega | (unfold rg; omega) | (simp only [rg] at *; omega) | exact bz_rg _ | grind [rg]) (by first | omega | (unfold rg; omega) | (simp only [rg] at *; omega) | exact bz_rg _ | grind [rg]) ?_
      refine a_if_ne (pc := 181) (tgt := 196) ok dX7_command_181 (by decide) (by first | omega | (unfold rg; omega) | (simp only [rg] at *; omega) | exact bz_rg _ | grind [rg]) (fun c181 => ?_) (fun c181 => ?_)
      · refine a_iconst (pc := 196) ok dX7_command_196 ?_
        exact a_zret (pc := 197) ok dX7_command_197 (by first | rfl | exact nb_bz _ | exact @nb_bz _ (Classical.propDecidable _) | decide) (done gy rfl (by rw [(z4 (by omega)).1, bz_neg (fun z => by omega)]) (by rw [(z4 (by omega)).2, if_neg (by omega)]))
      · refine a_aload_n (pc := 184) ok dX7_command_184 rfl ?_
        refine a_iload_n (pc := 185) ok dX7_command_185 rfl ?_
        refine a_callVi (pc := 186) ok [0, 1, 2, 3, 4, 5, 6, 7, 8, 9, 10, 11, 12, 13, 14, 15] dX7_command_186 mv7_339 miX7_setsLeast (c_msetsLeast (by unfold rg; omega)) ⟨by decide, by decide, rfl, rfl, Nat.zero_le _, Nat.zero_le _⟩ rfl rfl (Nat.le_of_ble_eq_true rfl) rfl (by decide) rfl rfl rfl ?_
        refine a_if_eq (pc := 189) (tgt := 196) ok dX7_command_189 (by decide) (by exact bz_rg _) (fun c189 => ?_) (fun c189 => ?_)
        · refine a_iconst (pc := 196) ok dX7_command_196 ?_
          exact a_zret (pc := 197) ok dX7_command_197 (by first | rfl | exact nb_bz _ | exact @nb_bz _ (Classical.propDecidable _) | decide) (done gy rfl (by rw [(z4 (by omega)).1, bz_neg (fun z => bz_0.mp c189 z.2)]) (by rw [(z4 (by omega)).2, if_pos (by omega)]))
        · refine a_iconst (pc := 192) ok dX7_command_192 ?_
          refine a_goto (pc := 193) (tgt := 197) ok dX7_command_193 (by decide) ?_
          exact a_zret (pc := 197) ok dX7_command_197 (by first | rfl | exact nb_bz _ | exact @nb_bz _ (Classical.propDecidable _) | decide) (done gy rfl (by rw [(z4 (by omega)).1, bz_pos ⟨by omega, bz_y c189⟩]) (by rw [(z4 (by omega)).2, if_pos (by omega)]))
    · refine a_iload_n (pc := 198) ok dX7_command_198 rfl ?_
      refine a_if_ne (pc := 199) (tgt := 217) ok dX7_command_199 (by decide) (by first | omega | (unfold rg; omega) | (simp only [rg] at *; omega) | exact bz_rg _ | grind [rg]) (fun c199 => ?_) (fun c199 => ?_)
      · refine a_iconst (pc := 217) ok dX7_command_217 ?_
        exact a_zret (pc := 218) ok dX7_command_218 (by first | rfl | exact nb_bz _ | exact @nb_bz _ (Classical.propDecidable _) | decide) (done gy rfl (by rw [(z5 (by omega)).1, bz_neg (by omega)]) (by rw [(z5 (by omega)).2, if_neg (by omega)]))
      · refine a_aload_n (pc := 202) ok dX7_command_202 rfl ?_
        refine a_aload_n (pc := 203) ok dX7_command_203 rfl ?_
        refine a_getf (pc := 204) ok dX7_command_204 fl7_16 rfl rfl ?_
        refine x_callVi (pc := 207) ok [0, 10, 2, 3, 4, 5, 6, 7, 8, 9, 1, 10, 11, 12, 13, 14, 15] 10 dX7_command_207 mv7_231 miX7_blurOn (c_blurOn hd hS.2.1) ⟨by decide, by decide, rfl, rfl, Nat.zero_le _, Nat.zero_le _⟩ rfl rfl (Nat.le_of_ble_eq_true rfl) mdM_len rfl (by decide) rfl rfl rfl ?_
        refine a_if_lt (pc := 210) (tgt := 217) ok dX7_command_210 (by decide) (by unfold rg; omega) (fun c210 => ?_) (fun c210 => ?_)
        · omega
        · refine a_iconst (pc := 213) ok dX7_command_213 ?_
          refine a_goto (pc := 214) (tgt := 218) ok dX7_command_214 (by decide) ?_
          exact a_zret (pc := 218) ok dX7_command_218 (by first | rfl | exact nb_bz _ | exact @nb_bz _ (Classical.propDecidable _) | decide) (done (mapK (blF (sC S2) (sR S2) (sG S2)) (sC S2 * sR S2) gy) rfl (by rw [(z5 (by omega)).1, bz_pos (by omega)]) (by rw [(z5 (by omega)).2, if_pos (by omega)]))
    · refine a_iload_n (pc := 219) ok dX7_command_219 rfl ?_
      refine a_if_ne (pc := 220) (tgt := 237) ok dX7_command_220 (by decide) (by first | omega | (unfold rg; omega) | (simp only [rg] at *; omega) | exact bz_rg _ | grind [rg]) (fun c220 => ?_) (fun c220 => ?_)
      · refine a_iconst (pc := 237) ok dX7_command_237 ?_
        exact a_zret (pc := 238) ok dX7_command_238 (by first | rfl | exact nb_bz _ | exact @nb_bz _ (Classical.propDecidable _) | decide) (done gy rfl (by rw [(z6 (by omega)).1, bz_neg (by omega)]) (by rw [(z6 (by omega)).2, if_neg (by omega)]))
      · refine a_aload_n (pc := 223) ok dX7_command_223 rfl ?_
        refine a_getf (pc := 224) ok dX7_command_224 fl7_16 rfl rfl ?_
        refine a_callSi (pc := 227) ok [10] dX7_command_227 mv7_234 miX7_invertOn (c_invertOn hd) ⟨by decide, by decide, rfl, rfl, Nat.zero_le _, Nat.zero_le _⟩ rfl rfl (Nat.le_of_ble_eq_true rfl) rfl (by decide) rfl ?_
        refine a_if_lt (pc := 230) (tgt := 237) ok dX7_command_230 (by decide) (by unfold rg; omega) (fun c230 => ?_) (fun c230 => ?_)
        · omega
        · refine a_iconst (pc := 233) ok dX7_command_233 ?_
          refine a_goto (pc := 234) (tgt := 238) ok dX7_command_234 (by decide) ?_
          exact a_zret (pc := 238) ok dX7_command_238 (by first | rfl | exact nb_bz _ | exact @nb_bz _ (Classical.propDecidable _) | decide) (done gy rfl (by rw [(z6 (by omega)).1, bz_pos (by omega)]) (by rw [(z6 (by omega)).2, if_pos (by omega)]))
    · exact s239 (by omega)
    · exact s291 (by omega)
    · exact s321 (by omega)
  · refine a_iconst (pc := 383) ok dX7_command_383 ?_
    exact a_zret (pc := 384) ok dX7_command_384 (by first | rfl | exact nb_bz _ | exact @nb_bz _ (Classical.propDecidable _) | decide) (done gy rfl (by rw [(z0 (by omega)).1]) (z0 (by omega)).2)
end MQ4
