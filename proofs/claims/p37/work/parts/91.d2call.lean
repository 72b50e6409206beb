/-! THE LAW'S 'call', by what is asked. Printed by wip/p37/gen/mkcall.py. -/
abbrev rgL_call : Room := { frames := 10, cells := 1, slots := 6, locals := 244 }
theorem miL_call : MI yL_call cL_call 5 (some .int) 5 := ⟨ug2 18 (by decide +kernel) rfl, by decide +kernel, by decide +kernel, ug1 0 (by decide +kernel) rfl⟩
theorem dL_call_0 : decode cL_call 0 = .ok (.iload_n 1, 1) := by decide +kernel
theorem dL_call_1 : decode cL_call 1 = .ok (.tableswitch 247 0 21 #[103, 109, 114, 120, 129, 135, 142, 149, 156, 163, 170, 177, 186, 192, 198, 205, 211, 217, 222, 229, 235, 241], 103) := by decide +kernel
theorem dL_call_104 : decode cL_call 104 = .ok (.aload_n 0, 1) := by decide +kernel
theorem dL_call_105 : decode cL_call 105 = .ok (.iload_n 2, 1) := by decide +kernel
theorem dL_call_106 : decode cL_call 106 = .ok (.invokestatic 114, 3) := by decide +kernel
theorem dL_call_109 : decode cL_call 109 = .ok (.ireturn, 1) := by decide +kernel
theorem dL_call_110 : decode cL_call 110 = .ok (.aload_n 0, 1) := by decide +kernel
theorem dL_call_111 : decode cL_call 111 = .ok (.invokestatic 120, 3) := by decide +kernel
theorem dL_call_114 : decode cL_call 114 = .ok (.ireturn, 1) := by decide +kernel
theorem dL_call_115 : decode cL_call 115 = .ok (.aload_n 0, 1) := by decide +kernel
theorem dL_call_116 : decode cL_call 116 = .ok (.iload_n 2, 1) := by decide +kernel
theorem dL_call_117 : decode cL_call 117 = .ok (.invokestatic 124, 3) := by decide +kernel
theorem dL_call_120 : decode cL_call 120 = .ok (.ireturn, 1) := by decide +kernel
theorem dL_call_121 : decode cL_call 121 = .ok (.aload_n 0, 1) := by decide +kernel
theorem dL_call_122 : decode cL_call 122 = .ok (.iload_n 2, 1) := by decide +kernel
theorem dL_call_123 : decode cL_call 123 = .ok (.iload_n 3, 1) := by decide +kernel
theorem dL_call_124 : decode cL_call 124 = .ok (.iload 4, 2) := by decide +kernel
theorem dL_call_126 : decode cL_call 126 = .ok (.invokestatic 127, 3) := by decide +kernel
theorem dL_call_129 : decode cL_call 129 = .ok (.ireturn, 1) := by decide +kernel
theorem dL_call_130 : decode cL_call 130 = .ok (.aload_n 0, 1) := by decide +kernel
theorem dL_call_131 : decode cL_call 131 = .ok (.iload_n 2, 1) := by decide +kernel
theorem dL_call_132 : decode cL_call 132 = .ok (.invokestatic 131, 3) := by decide +kernel
theorem dL_call_135 : decode cL_call 135 = .ok (.ireturn, 1) := by decide +kernel
theorem dL_call_136 : decode cL_call 136 = .ok (.aload_n 0, 1) := by decide +kernel
theorem dL_call_137 : decode cL_call 137 = .ok (.iload_n 2, 1) := by decide +kernel
theorem dL_call_138 : decode cL_call 138 = .ok (.iload_n 3, 1) := by decide +kernel
theorem dL_call_139 : decode cL_call 139 = .ok (.invokestatic 134, 3) := by decide +kernel
theorem dL_call_142 : decode cL_call 142 = .ok (.ireturn, 1) := by decide +kernel
theorem dL_call_143 : decode cL_call 143 = .ok (.aload_n 0, 1) := by decide +kernel
theorem dL_call_144 : decode cL_call 144 = .ok (.iload_n 2, 1) := by decide +kernel
theorem dL_call_145 : decode cL_call 145 = .ok (.iload_n 3, 1) := by decide +kernel
theorem dL_call_146 : decode cL_call 146 = .ok (.invokestatic 138, 3) := by decide +kernel
theorem dL_call_149 : decode cL_call 149 = .ok (.ireturn, 1) := by decide +kernel
theorem dL_call_150 : decode cL_call 150 = .ok (.aload_n 0, 1) := by decide +kernel
theorem dL_call_151 : decode cL_call 151 = .ok (.iload_n 2, 1) := by decide +kernel
theorem dL_call_152 : decode cL_call 152 = .ok (.iload_n 3, 1) := by decide +kernel
theorem dL_call_153 : decode cL_call 153 = .ok (.invokestatic 141, 3) := by decide +kernel
theorem dL_call_156 : decode cL_call 156 = .ok (.ireturn, 1) := by decide +kernel
theorem dL_call_157 : decode cL_call 157 = .ok (.aload_n 0, 1) := by decide +kernel
theorem dL_call_158 : decode cL_call 158 = .ok (.iload_n 2, 1) := by decide +kernel
theorem dL_call_159 : decode cL_call 159 = .ok (.iload_n 3, 1) := by decide +kernel
theorem dL_call_160 : decode cL_call 160 = .ok (.invokestatic 144, 3) := by decide +kernel
theorem dL_call_163 : decode cL_call 163 = .ok (.ireturn, 1) := by decide +kernel
theorem dL_call_164 : decode cL_call 164 = .ok (.aload_n 0, 1) := by decide +kernel
theorem dL_call_165 : decode cL_call 165 = .ok (.iload_n 2, 1) := by decide +kernel
theorem dL_call_166 : decode cL_call 166 = .ok (.iload_n 3, 1) := by decide +kernel
theorem dL_call_167 : decode cL_call 167 = .ok (.invokestatic 147, 3) := by decide +kernel
theorem dL_call_170 : decode cL_call 170 = .ok (.ireturn, 1) := by decide +kernel
theorem dL_call_171 : decode cL_call 171 = .ok (.aload_n 0, 1) := by decide +kernel
theorem dL_call_172 : decode cL_call 172 = .ok (.iload_n 2, 1) := by decide +kernel
theorem dL_call_173 : decode cL_call 173 = .ok (.iload_n 3, 1) := by decide +kernel
theorem dL_call_174 : decode cL_call 174 = .ok (.invokestatic 150, 3) := by decide +kernel
theorem dL_call_177 : decode cL_call 177 = .ok (.ireturn, 1) := by decide +kernel
theorem dL_call_178 : decode cL_call 178 = .ok (.aload_n 0, 1) := by decide +kernel
theorem dL_call_179 : decode cL_call 179 = .ok (.iload_n 2, 1) := by decide +kernel
theorem dL_call_180 : decode cL_call 180 = .ok (.iload_n 3, 1) := by decide +kernel
theorem dL_call_181 : decode cL_call 181 = .ok (.iload 4, 2) := by decide +kernel
theorem dL_call_183 : decode cL_call 183 = .ok (.invokestatic 153, 3) := by decide +kernel
theorem dL_call_186 : decode cL_call 186 = .ok (.ireturn, 1) := by decide +kernel
theorem dL_call_187 : decode cL_call 187 = .ok (.aload_n 0, 1) := by decide +kernel
theorem dL_call_188 : decode cL_call 188 = .ok (.iload_n 2, 1) := by decide +kernel
theorem dL_call_189 : decode cL_call 189 = .ok (.invokestatic 156, 3) := by decide +kernel
theorem dL_call_192 : decode cL_call 192 = .ok (.ireturn, 1) := by decide +kernel
theorem dL_call_193 : decode cL_call 193 = .ok (.aload_n 0, 1) := by decide +kernel
theorem dL_call_194 : decode cL_call 194 = .ok (.iload_n 2, 1) := by decide +kernel
theorem dL_call_195 : decode cL_call 195 = .ok (.invokestatic 159, 3) := by decide +kernel
theorem dL_call_198 : decode cL_call 198 = .ok (.ireturn, 1) := by decide +kernel
theorem dL_call_199 : decode cL_call 199 = .ok (.aload_n 0, 1) := by decide +kernel
theorem dL_call_200 : decode cL_call 200 = .ok (.iload_n 2, 1) := by decide +kernel
theorem dL_call_201 : decode cL_call 201 = .ok (.iload_n 3, 1) := by decide +kernel
theorem dL_call_202 : decode cL_call 202 = .ok (.invokestatic 162, 3) := by decide +kernel
theorem dL_call_205 : decode cL_call 205 = .ok (.ireturn, 1) := by decide +kernel
theorem dL_call_206 : decode cL_call 206 = .ok (.aload_n 0, 1) := by decide +kernel
theorem dL_call_207 : decode cL_call 207 = .ok (.iload_n 2, 1) := by decide +kernel
theorem dL_call_208 : decode cL_call 208 = .ok (.invokestatic 165, 3) := by decide +kernel
theorem dL_call_211 : decode cL_call 211 = .ok (.ireturn, 1) := by decide +kernel
theorem dL_call_212 : decode cL_call 212 = .ok (.aload_n 0, 1) := by decide +kernel
theorem dL_call_213 : decode cL_call 213 = .ok (.iload_n 2, 1) := by decide +kernel
theorem dL_call_214 : decode cL_call 214 = .ok (.invokestatic 168, 3) := by decide +kernel
theorem dL_call_217 : decode cL_call 217 = .ok (.ireturn, 1) := by decide +kernel
theorem dL_call_218 : decode cL_call 218 = .ok (.aload_n 0, 1) := by decide +kernel
theorem dL_call_219 : decode cL_call 219 = .ok (.invokestatic 171, 3) := by decide +kernel
theorem dL_call_222 : decode cL_call 222 = .ok (.ireturn, 1) := by decide +kernel
theorem dL_call_223 : decode cL_call 223 = .ok (.aload_n 0, 1) := by decide +kernel
theorem dL_call_224 : decode cL_call 224 = .ok (.iload_n 2, 1) := by decide +kernel
theorem dL_call_225 : decode cL_call 225 = .ok (.iload_n 3, 1) := by decide +kernel
theorem dL_call_226 : decode cL_call 226 = .ok (.invokestatic 174, 3) := by decide +kernel
theorem dL_call_229 : decode cL_call 229 = .ok (.ireturn, 1) := by decide +kernel
theorem dL_call_230 : decode cL_call 230 = .ok (.aload_n 0, 1) := by decide +kernel
theorem dL_call_231 : decode cL_call 231 = .ok (.iload_n 2, 1) := by decide +kernel
theorem dL_call_232 : decode cL_call 232 = .ok (.invokestatic 177, 3) := by decide +kernel
theorem dL_call_235 : decode cL_call 235 = .ok (.ireturn, 1) := by decide +kernel
theorem dL_call_236 : decode cL_call 236 = .ok (.aload_n 0, 1) := by decide +kernel
theorem dL_call_237 : decode cL_call 237 = .ok (.iload_n 2, 1) := by decide +kernel
theorem dL_call_238 : decode cL_call 238 = .ok (.invokestatic 180, 3) := by decide +kernel
theorem dL_call_241 : decode cL_call 241 = .ok (.ireturn, 1) := by decide +kernel
theorem dL_call_242 : decode cL_call 242 = .ok (.aload_n 0, 1) := by decide +kernel
theorem dL_call_243 : decode cL_call 243 = .ok (.iload_n 2, 1) := by decide +kernel
theorem dL_call_244 : decode cL_call 244 = .ok (.invokestatic 183, 3) := by decide +kernel
theorem dL_call_247 : decode cL_call 247 = .ok (.ireturn, 1) := by decide +kernel
theorem dL_call_248 : decode cL_call 248 = .ok (.aload_n 0, 1) := by decide +kernel
theorem dL_call_249 : decode cL_call 249 = .ok (.iload_n 2, 1) := by decide +kernel
theorem dL_call_250 : decode cL_call 250 = .ok (.invokestatic 186, 3) := by decide +kernel
theorem dL_call_253 : decode cL_call 253 = .ok (.ireturn, 1) := by decide +kernel
section CL9
variable {l : Launch} {A : Ob} {M : List va_E}
theorem C_0 (hl : l.stackTraces = false) (hA : VA A) (hW : WO A M) {x u2 u3 : Int} (hx : rg x) (h : ¬ (0 ≤ x ∧ x ≤ 255)) : CtV l yL_call cL_call 5 (some .int) rgL_call [.ref 0, iv 0, iv x, iv u2, iv u3] M (po1 (-9999002) A) := by
  refine CtV.of hl miL_call (Nat.le_of_ble_eq_true rfl) (po1_cl hW) ?_
  intro X hXl hN gk ex
  subst hXl
  have ok := gk.ok
  refine AW.cast (L2 := [some (.ref 0), some (iv 0), some (iv x), some (iv u2), some (iv u3)]) ?_ rfl rfl rfl
  refine a_iload_n (pc := 0) ok dL_call_0 rfl ?_
  refine a_tableIn (pc := 1) (off := 103) (tgt := 104) ok dL_call_1 (by unfold rg; omega) (by decide) (by decide) rfl (by decide) ?_
  refine a_aload_n (pc := 104) ok dL_call_104 rfl ?_
  refine a_iload_n (pc := 105) ok dL_call_105 rfl ?_
  refine w_o (pc := 106) ok ex dL_call_106 (ug2 19 (by decide +kernel) rfl) (ug2 20 (by decide +kernel) rfl) miL_tryAppend hW (T_tryAppend hl hA hW hx h) ⟨by decide, by decide, rfl, rfl⟩ ⟨Nat.le_of_ble_eq_true rfl, Nat.le_of_ble_eq_true rfl⟩ rfl rfl (Nat.le_of_ble_eq_true rfl) ?_
  intro M hW
  exact a_iret (pc := 109) ok dL_call_109 (⟨rfl, hW⟩)
theorem C_2 (hl : l.stackTraces = false) (hA : VA A) (hW : WO A M) {w u2 u3 : Int} (hw : rg w) : CtV l yL_call cL_call 5 (some .int) rgL_call [.ref 0, iv 2, iv w, iv u2, iv u3] M (po1 (tw (kIn w 0 10) (-9999002) (-9999002) (aAbout (jS A) w)) (if kIn w 0 10 = 0 then A else A)) := by
  refine CtV.of hl miL_call (Nat.le_of_ble_eq_true rfl) (po1_cl hW) ?_
  intro X hXl hN gk ex
  subst hXl
  have ok := gk.ok
  refine AW.cast (L2 := [some (.ref 0), some (iv 2), some (iv w), some (iv u2), some (iv u3)]) ?_ rfl rfl rfl
  refine a_iload_n (pc := 0) ok dL_call_0 rfl ?_
  refine a_tableIn (pc := 1) (off := 114) (tgt := 115) ok dL_call_1 (by unfold rg; omega) (by decide) (by decide) rfl (by decide) ?_
  refine a_aload_n (pc := 115) ok dL_call_115 rfl ?_
  refine a_iload_n (pc := 116) ok dL_call_116 rfl ?_
  refine w_o (pc := 117) ok ex dL_call_117 (ug3 33 (by decide +kernel) rfl) (ug3 34 (by decide +kernel) rfl) miL_tryAbout hW (T_tryAbout hl hA hW hw) ⟨by decide, by decide, rfl, rfl⟩ ⟨Nat.le_of_ble_eq_true rfl, Nat.le_of_ble_eq_true rfl⟩ rfl rfl (Nat.le_of_ble_eq_true rfl) ?_
  intro M hW
  exact a_iret (pc := 120) ok dL_call_120 (⟨rfl, hW⟩)
theorem C_3 (hl : l.stackTraces = false) (hA : VA A) (hW : WO A M) {x y w : Int} (hx : rg x) (hy : rg y) (hw : rg w) : CtV l yL_call cL_call 5 (some .int) rgL_call [.ref 0, iv 3, iv x, iv y, iv w] M (po1 (tw (kCell (jS A) x y w 5) (-9999001) (-9999002) (aCell (jS A) x y w)) (if kCell (jS A) x y w 5 = 0 then A else A)) := by
  refine CtV.of hl miL_call (Nat.le_of_ble_eq_true rfl) (po1_cl hW) ?_
  intro X hXl hN gk ex
  subst hXl
  have ok := gk.ok
  refine AW.cast (L2 := [some (.ref 0), some (iv 3), some (iv x), some (iv y), some (iv w)]) ?_ rfl rfl rfl
  refine a_iload_n (pc := 0) ok dL_call_0 rfl ?_
  refine a_tableIn (pc := 1) (off := 120) (tgt := 121) ok dL_call_1 (by unfold rg; omega) (by decide) (by decide) rfl (by decide) ?_
  refine a_aload_n (pc := 121) ok dL_call_121 rfl ?_
  refine a_iload_n (pc := 122) ok dL_call_122 rfl ?_
  refine a_iload_n (pc := 123) ok dL_call_123 rfl ?_
  refine a_iload (pc := 124) ok dL_call_124 rfl ?_
  refine w_o (pc := 126) ok ex dL_call_126 (ug3 161 (by decide +kernel) rfl) (ug3 162 (by decide +kernel) rfl) miL_tryCell hW (T_tryCell hl hA hW hx hy hw) ⟨by decide, by decide, rfl, rfl⟩ ⟨Nat.le_of_ble_eq_true rfl, Nat.le_of_ble_eq_true rfl⟩ rfl rfl (Nat.le_of_ble_eq_true rfl) ?_
  intro M hW
  exact a_iret (pc := 129) ok dL_call_129 (⟨rfl, hW⟩)
theorem C_4 (hl : l.stackTraces = false) (hA : VA A) (hW : WO A M) {k u2 u3 : Int} (hk : rg k) : CtV l yL_call cL_call 5 (some .int) rgL_call [.ref 0, iv 4, iv k, iv u2, iv u3] M (po1 (tw (kIn k 0 (sN (jS A) - 1)) (-9999001) (-9999001) (sT (jS A) k)) (if kIn k 0 (sN (jS A) - 1) = 0 then A else A)) := by
  refine CtV.of hl miL_call (Nat.le_of_ble_eq_true rfl) (po1_cl hW) ?_
  intro X hXl hN gk ex
  subst hXl
  have ok := gk.ok
  refine AW.cast (L2 := [some (.ref 0), some (iv 4), some (iv k), some (iv u2), some (iv u3)]) ?_ rfl rfl rfl
  refine a_iload_n (pc := 0) ok dL_call_0 rfl ?_
  refine a_tableIn (pc := 1) (off := 129) (tgt := 130) ok dL_call_1 (by unfold rg; omega) (by decide) (by decide) rfl (by decide) ?_
  refine a_aload_n (pc := 130) ok dL_call_130 rfl ?_
  refine a_iload_n (pc := 131) ok dL_call_131 rfl ?_
  refine w_o (pc := 132) ok ex dL_call_132 (ug3 206 (by decide +kernel) rfl) (ug3 207 (by decide +kernel) rfl) miL_tryPart hW (T_tryPart hl hA hW hk) ⟨by decide, by decide, rfl, rfl⟩ ⟨Nat.le_of_ble_eq_true rfl, Nat.le_of_ble_eq_true rfl⟩ rfl rfl (Nat.le_of_ble_eq_true rfl) ?_
  intro M hW
  exact a_iret (pc := 135) ok dL_call_135 (⟨rfl, hW⟩)
theorem C_5 (hl : l.stackTraces = false) (hA : VA A) (hW : WO A M) {i w u3 : Int} (hi : rg i) (hw : rg w) : CtV l yL_call cL_call 5 (some .int) rgL_call [.ref 0, iv 5, iv i, iv w, iv u3] M (po1 (tw (kIsle (jS A) i w 8) (-9999001) (-9999002) (aIsland (jS A) i w)) (if kIsle (jS A) i w 8 = 0 then A else A)) := by
  refine CtV.of hl miL_call (Nat.le_of_ble_eq_true rfl) (po1_cl hW) ?_
  intro X hXl hN gk ex
  subst hXl
  have ok := gk.ok
  refine AW.cast (L2 := [some (.ref 0), some (iv 5), some (iv i), some (iv w), some (iv u3)]) ?_ rfl rfl rfl
  refine a_iload_n (pc := 0) ok dL_call_0 rfl ?_
  refine a_tableIn (pc := 1) (off := 135) (tgt := 136) ok dL_call_1 (by unfold rg; omega) (by decide) (by decide) rfl (by decide) ?_
  refine a_aload_n (pc := 136) ok dL_call_136 rfl ?_
  refine a_iload_n (pc := 137) ok dL_call_137 rfl ?_
  refine a_iload_n (pc := 138) ok dL_call_138 rfl ?_
  refine w_o (pc := 139) ok ex dL_call_139 (ug3 217 (by decide +kernel) rfl) (ug3 218 (by decide +kernel) rfl) miL_tryIsle hW (T_tryIsle hl hA hW hi hw) ⟨by decide, by decide, rfl, rfl⟩ ⟨Nat.le_of_ble_eq_true rfl, Nat.le_of_ble_eq_true rfl⟩ rfl rfl (Nat.le_of_ble_eq_true rfl) ?_
  intro M hW
  exact a_iret (pc := 142) ok dL_call_142 (⟨rfl, hW⟩)
theorem C_6 (hl : l.stackTraces = false) (hA : VA A) (hW : WO A M) {i j u3 : Int} (hi : rg i) (hj : rg j) : CtV l yL_call cL_call 5 (some .int) rgL_call [.ref 0, iv 6, iv i, iv j, iv u3] M (po1 (tw (kBor (jS A) i j) (-9999001) (-9999001) (brd (sC (jS A)) (sR (jS A)) (bS (jS A)) (fS (jS A) i) (fS (jS A) j))) (if kBor (jS A) i j = 0 then A else A)) := by
  refine CtV.of hl miL_call (Nat.le_of_ble_eq_true rfl) (po1_cl hW) ?_
  intro X hXl hN gk ex
  subst hXl
  have ok := gk.ok
  refine AW.cast (L2 := [some (.ref 0), some (iv 6), some (iv i), some (iv j), some (iv u3)]) ?_ rfl rfl rfl
  refine a_iload_n (pc := 0) ok dL_call_0 rfl ?_
  refine a_tableIn (pc := 1) (off := 142) (tgt := 143) ok dL_call_1 (by unfold rg; omega) (by decide) (by decide) rfl (by decide) ?_
  refine a_aload_n (pc := 143) ok dL_call_143 rfl ?_
  refine a_iload_n (pc := 144) ok dL_call_144 rfl ?_
  refine a_iload_n (pc := 145) ok dL_call_145 rfl ?_
  refine w_o (pc := 146) ok ex dL_call_146 (ug4 9 (by decide +kernel) rfl) (ug4 10 (by decide +kernel) rfl) miL_tryBorder hW (T_tryBorder hl hA hW hi hj) ⟨by decide, by decide, rfl, rfl⟩ ⟨Nat.le_of_ble_eq_true rfl, Nat.le_of_ble_eq_true rfl⟩ rfl rfl (Nat.le_of_ble_eq_true rfl) ?_
  intro M hW
  exact a_iret (pc := 149) ok dL_call_149 (⟨rfl, hW⟩)
theorem C_7 (hl : l.stackTraces = false) (hA : VA A) (hW : WO A M) {i w u3 : Int} (hi : rg i) (hw : rg w) : CtV l yL_call cL_call 5 (some .int) rgL_call [.ref 0, iv 7, iv i, iv w, iv u3] M (po1 (tw (kIsle (jS A) i w 2) (-9999001) (-9999002) (aOutline (jS A) i w)) (if kIsle (jS A) i w 2 = 0 then A else A)) := by
  refine CtV.of hl miL_call (Nat.le_of_ble_eq_true rfl) (po1_cl hW) ?_
  intro X hXl hN gk ex
  subst hXl
  have ok := gk.ok
  refine AW.cast (L2 := [some (.ref 0), some (iv 7), some (iv i), some (iv w), some (iv u3)]) ?_ rfl rfl rfl
  refine a_iload_n (pc := 0) ok dL_call_0 rfl ?_
  refine a_tableIn (pc := 1) (off := 149) (tgt := 150) ok dL_call_1 (by unfold rg; omega) (by decide) (by decide) rfl (by decide) ?_
  refine a_aload_n (pc := 150) ok dL_call_150 rfl ?_
  refine a_iload_n (pc := 151) ok dL_call_151 rfl ?_
  refine a_iload_n (pc := 152) ok dL_call_152 rfl ?_
  refine w_o (pc := 153) ok ex dL_call_153 (ug4 20 (by decide +kernel) rfl) (ug4 21 (by decide +kernel) rfl) miL_tryOutline hW (T_tryOutline hl hA hW hi hw) ⟨by decide, by decide, rfl, rfl⟩ ⟨Nat.le_of_ble_eq_true rfl, Nat.le_of_ble_eq_true rfl⟩ rfl rfl (Nat.le_of_ble_eq_true rfl) ?_
  intro M hW
  exact a_iret (pc := 156) ok dL_call_156 (⟨rfl, hW⟩)
theorem C_8 (hl : l.stackTraces = false) (hA : VA A) (hW : WO A M) {i k u3 : Int} (hi : rg i) (hk : rg k) : CtV l yL_call cL_call 5 (some .int) rgL_call [.ref 0, iv 8, iv i, iv k, iv u3] M (po1 (tw (kWay (jS A) i k) (-9999001) (-9999001) (wS1 (jS A) i k)) (if kWay (jS A) i k = 0 then A else A)) := by
  refine CtV.of hl miL_call (Nat.le_of_ble_eq_true rfl) (po1_cl hW) ?_
  intro X hXl hN gk ex
  subst hXl
  have ok := gk.ok
  refine AW.cast (L2 := [some (.ref 0), some (iv 8), some (iv i), some (iv k), some (iv u3)]) ?_ rfl rfl rfl
  refine a_iload_n (pc := 0) ok dL_call_0 rfl ?_
  refine a_tableIn (pc := 1) (off := 156) (tgt := 157) ok dL_call_1 (by unfold rg; omega) (by decide) (by decide) rfl (by decide) ?_
  refine a_aload_n (pc := 157) ok dL_call_157 rfl ?_
  refine a_iload_n (pc := 158) ok dL_call_158 rfl ?_
  refine a_iload_n (pc := 159) ok dL_call_159 rfl ?_
  refine w_o (pc := 160) ok ex dL_call_160 (ug4 47 (by decide +kernel) rfl) (ug4 48 (by decide +kernel) rfl) miL_tryWay hW (T_tryWay hl hA hW hi hk) ⟨by decide, by decide, rfl, rfl⟩ ⟨Nat.le_of_ble_eq_true rfl, Nat.le_of_ble_eq_true rfl⟩ rfl rfl (Nat.le_of_ble_eq_true rfl) ?_
  intro M hW
  exact a_iret (pc := 163) ok dL_call_163 (⟨rfl, hW⟩)
theorem C_9 (hl : l.stackTraces = false) (hA : VA A) (hW : WO A M) {x w u3 : Int} (hx : rg x) (hw : rg w) : CtV l yL_call cL_call 5 (some .int) rgL_call [.ref 0, iv 9, iv x, iv w, iv u3] M (po1 (tw (kBand (jS A) x w) (-9999001) (-9999002) (aBand (jS A) x w)) (if kBand (jS A) x w = 0 then A else A)) := by
  refine CtV.of hl miL_call (Nat.le_of_ble_eq_true rfl) (po1_cl hW) ?_
  intro X hXl hN gk ex
  subst hXl
  have ok := gk.ok
  refine AW.cast (L2 := [some (.ref 0), some (iv 9), some (iv x), some (iv w), some (iv u3)]) ?_ rfl rfl rfl
  refine a_iload_n (pc := 0) ok dL_call_0 rfl ?_
  refine a_tableIn (pc := 1) (off := 163) (tgt := 164) ok dL_call_1 (by unfold rg; omega) (by decide) (by decide) rfl (by decide) ?_
  refine a_aload_n (pc := 164) ok dL_call_164 rfl ?_
  refine a_iload_n (pc := 165) ok dL_call_165 rfl ?_
  refine a_iload_n (pc := 166) ok dL_call_166 rfl ?_
  refine w_o (pc := 167) ok ex dL_call_167 (ug4 54 (by decide +kernel) rfl) (ug4 55 (by decide +kernel) rfl) miL_tryBand hW (T_tryBand hl hA hW hx hw) ⟨by decide, by decide, rfl, rfl⟩ ⟨Nat.le_of_ble_eq_true rfl, Nat.le_of_ble_eq_true rfl⟩ rfl rfl (Nat.le_of_ble_eq_true rfl) ?_
  intro M hW
  exact a_iret (pc := 170) ok dL_call_170 (⟨rfl, hW⟩)
theorem C_10 (hl : l.stackTraces = false) (hA : VA A) (hW : WO A M) {c r u3 : Int} (h1 : rg c) (h2 : rg r) : CtV l yL_call cL_call 5 (some .int) rgL_call [.ref 0, iv 10, iv c, iv r, iv u3] M (po1 (tw (kPlate c r) (-9999002) (-9999002) (c * r)) (if kPlate c r = 0 then jAct A (stN (jS A) c r) else A)) := by
  refine CtV.of hl miL_call (Nat.le_of_ble_eq_true rfl) (po1_cl hW) ?_
  intro X hXl hN gk ex
  subst hXl
  have ok := gk.ok
  refine AW.cast (L2 := [some (.ref 0), some (iv 10), some (iv c), some (iv r), some (iv u3)]) ?_ rfl rfl rfl
  refine a_iload_n (pc := 0) ok dL_call_0 rfl ?_
  refine a_tableIn (pc := 1) (off := 170) (tgt := 171) ok dL_call_1 (by unfold rg; omega) (by decide) (by decide) rfl (by decide) ?_
  refine a_aload_n (pc := 171) ok dL_call_171 rfl ?_
  refine a_iload_n (pc := 172) ok dL_call_172 rfl ?_
  refine a_iload_n (pc := 173) ok dL_call_173 rfl ?_
  refine w_o (pc := 174) ok ex dL_call_174 (ug4 70 (by decide +kernel) rfl) (ug4 71 (by decide +kernel) rfl) miL_tryPlate hW (T_tryPlate hl hA hW h1 h2) ⟨by decide, by decide, rfl, rfl⟩ ⟨Nat.le_of_ble_eq_true rfl, Nat.le_of_ble_eq_true rfl⟩ rfl rfl (Nat.le_of_ble_eq_true rfl) ?_
  intro M hW
  exact a_iret (pc := 177) ok dL_call_177 (⟨rfl, hW⟩)
theorem C_11 (hl : l.stackTraces = false) (hA : VA A) (hW : WO A M) {x y g : Int} (h1 : rg x) (h2 : rg y) (h3 : rg g) : CtV l yL_call cL_call 5 (some .int) rgL_call [.ref 0, iv 11, iv x, iv y, iv g] M (po1 (tw (kPut (jS A) x y g) (-9999001) (-9999002) (sG (jS A) (y * sC (jS A) + x))) (if kPut (jS A) x y g = 0 then jAct A (gP (jS A) x y g) else A)) := by
  refine CtV.of hl miL_call (Nat.le_of_ble_eq_true rfl) (po1_cl hW) ?_
  intro X hXl hN gk ex
  subst hXl
  have ok := gk.ok
  refine AW.cast (L2 := [some (.ref 0), some (iv 11), some (iv x), some (iv y), some (iv g)]) ?_ rfl rfl rfl
  refine a_iload_n (pc := 0) ok dL_call_0 rfl ?_
  refine a_tableIn (pc := 1) (off := 177) (tgt := 178) ok dL_call_1 (by unfold rg; omega) (by decide) (by decide) rfl (by decide) ?_
  refine a_aload_n (pc := 178) ok dL_call_178 rfl ?_
  refine a_iload_n (pc := 179) ok dL_call_179 rfl ?_
  refine a_iload_n (pc := 180) ok dL_call_180 rfl ?_
  refine a_iload (pc := 181) ok dL_call_181 rfl ?_
  refine w_o (pc := 183) ok ex dL_call_183 (ug4 92 (by decide +kernel) rfl) (ug4 93 (by decide +kernel) rfl) miL_tryPaint hW (T_tryPaint hl hA hW h1 h2 h3) ⟨by decide, by decide, rfl, rfl⟩ ⟨Nat.le_of_ble_eq_true rfl, Nat.le_of_ble_eq_true rfl⟩ rfl rfl (Nat.le_of_ble_eq_true rfl) ?_
  intro M hW
  exact a_iret (pc := 186) ok dL_call_186 (⟨rfl, hW⟩)
theorem C_12 (hl : l.stackTraces = false) (hA : VA A) (hW : WO A M) {v u2 u3 : Int} (h1 : rg v) : CtV l yL_call cL_call 5 (some .int) rgL_call [.ref 0, iv 12, iv v, iv u2, iv u3] M (po1 (tw (kIn v 0 5) (-9999002) (-9999002) (((shK (sG (jS A)) (sC (jS A) * sR (jS A)).toNat v (sT (jS A)) v.toNat).2 : Int))) (if kIn v 0 5 = 0 then jAct A (gH (jS A) v) else A)) := by
  refine CtV.of hl miL_call (Nat.le_of_ble_eq_true rfl) (po1_cl hW) ?_
  intro X hXl hN gk ex
  subst hXl
  have ok := gk.ok
  refine AW.cast (L2 := [some (.ref 0), some (iv 12), some (iv v), some (iv u2), some (iv u3)]) ?_ rfl rfl rfl
  refine a_iload_n (pc := 0) ok dL_call_0 rfl ?_
  refine a_tableIn (pc := 1) (off := 186) (tgt := 187) ok dL_call_1 (by unfold rg; omega) (by decide) (by decide) rfl (by decide) ?_
  refine a_aload_n (pc := 187) ok dL_call_187 rfl ?_
  refine a_iload_n (pc := 188) ok dL_call_188 rfl ?_
  refine w_o (pc := 189) ok ex dL_call_189 (ug4 100 (by decide +kernel) rfl) (ug4 101 (by decide +kernel) rfl) miL_tryShare hW (T_tryShare hl hA hW h1) ⟨by decide, by decide, rfl, rfl⟩ ⟨Nat.le_of_ble_eq_true rfl, Nat.le_of_ble_eq_true rfl⟩ rfl rfl (Nat.le_of_ble_eq_true rfl) ?_
  intro M hW
  exact a_iret (pc := 192) ok dL_call_192 (⟨rfl, hW⟩)
theorem C_13 (hl : l.stackTraces = false) (hA : VA A) (hW : WO A M) {v u2 u3 : Int} (h1 : rg v) : CtV l yL_call cL_call 5 (some .int) rgL_call [.ref 0, iv 13, iv v, iv u2, iv u3] M (po1 (tw (kIn v 1 30) (-9999002) (-9999002) (sE (jS A))) (if kIn v 1 30 = 0 then jAct A (setE (jS A) v) else A)) := by
  refine CtV.of hl miL_call (Nat.le_of_ble_eq_true rfl) (po1_cl hW) ?_
  intro X hXl hN gk ex
  subst hXl
  have ok := gk.ok
  refine AW.cast (L2 := [some (.ref 0), some (iv 13), some (iv v), some (iv u2), some (iv u3)]) ?_ rfl rfl rfl
  refine a_iload_n (pc := 0) ok dL_call_0 rfl ?_
  refine a_tableIn (pc := 1) (off := 192) (tgt := 193) ok dL_call_1 (by unfold rg; omega) (by decide) (by decide) rfl (by decide) ?_
  refine a_aload_n (pc := 193) ok dL_call_193 rfl ?_
  refine a_iload_n (pc := 194) ok dL_call_194 rfl ?_
  refine w_o (pc := 195) ok ex dL_call_195 (ug4 119 (by decide +kernel) rfl) (ug4 120 (by decide +kernel) rfl) miL_tryLeast hW (T_tryLeast hl hA hW h1) ⟨by decide, by decide, rfl, rfl⟩ ⟨Nat.le_of_ble_eq_true rfl, Nat.le_of_ble_eq_true rfl⟩ rfl rfl (Nat.le_of_ble_eq_true rfl) ?_
  intro M hW
  exact a_iret (pc := 198) ok dL_call_198 (⟨rfl, hW⟩)
theorem C_14 (hl : l.stackTraces = false) (hA : VA A) (hW : WO A M) {b v u3 : Int} (h1 : rg b) (h2 : rg v) : CtV l yL_call cL_call 5 (some .int) rgL_call [.ref 0, iv 14, iv b, iv v, iv u3] M (po1 (tw (kHatch b v) (-9999001) (-9999002) (sH (jS A) b)) (if kHatch b v = 0 then jAct A (setH (jS A) b v) else A)) := by
  refine CtV.of hl miL_call (Nat.le_of_ble_eq_true rfl) (po1_cl hW) ?_
  intro X hXl hN gk ex
  subst hXl
  have ok := gk.ok
  refine AW.cast (L2 := [some (.ref 0), some (iv 14), some (iv b), some (iv v), some (iv u3)]) ?_ rfl rfl rfl
  refine a_iload_n (pc := 0) ok dL_call_0 rfl ?_
  refine a_tableIn (pc := 1) (off := 198) (tgt := 199) ok dL_call_1 (by unfold rg; omega) (by decide) (by decide) rfl (by decide) ?_
  refine a_aload_n (pc := 199) ok dL_call_199 rfl ?_
  refine a_iload_n (pc := 200) ok dL_call_200 rfl ?_
  refine a_iload_n (pc := 201) ok dL_call_201 rfl ?_
  refine w_o (pc := 202) ok ex dL_call_202 (ug4 126 (by decide +kernel) rfl) (ug4 127 (by decide +kernel) rfl) miL_tryHatch hW (T_tryHatch hl hA hW h1 h2) ⟨by decide, by decide, rfl, rfl⟩ ⟨Nat.le_of_ble_eq_true rfl, Nat.le_of_ble_eq_true rfl⟩ rfl rfl (Nat.le_of_ble_eq_true rfl) ?_
  intro M hW
  exact a_iret (pc := 205) ok dL_call_205 (⟨rfl, hW⟩)
theorem C_15 (hl : l.stackTraces = false) (hA : VA A) (hW : WO A M) {v u2 u3 : Int} (h1 : rg v) : CtV l yL_call cL_call 5 (some .int) rgL_call [.ref 0, iv 15, iv v, iv u2, iv u3] M (po1 (tw (kIn v 0 9) (-9999002) (-9999002) (sI (jS A))) (if kIn v 0 9 = 0 then jAct A (setI (jS A) v) else A)) := by
  refine CtV.of hl miL_call (Nat.le_of_ble_eq_true rfl) (po1_cl hW) ?_
  intro X hXl hN gk ex
  subst hXl
  have ok := gk.ok
  refine AW.cast (L2 := [some (.ref 0), some (iv 15), some (iv v), some (iv u2), some (iv u3)]) ?_ rfl rfl rfl
  refine a_iload_n (pc := 0) ok dL_call_0 rfl ?_
  refine a_tableIn (pc := 1) (off := 205) (tgt := 206) ok dL_call_1 (by unfold rg; omega) (by decide) (by decide) rfl (by decide) ?_
  refine a_aload_n (pc := 206) ok dL_call_206 rfl ?_
  refine a_iload_n (pc := 207) ok dL_call_207 rfl ?_
  refine w_o (pc := 208) ok ex dL_call_208 (ug4 133 (by decide +kernel) rfl) (ug4 134 (by decide +kernel) rfl) miL_tryLine hW (T_tryLine hl hA hW h1) ⟨by decide, by decide, rfl, rfl⟩ ⟨Nat.le_of_ble_eq_true rfl, Nat.le_of_ble_eq_true rfl⟩ rfl rfl (Nat.le_of_ble_eq_true rfl) ?_
  intro M hW
  exact a_iret (pc := 211) ok dL_call_211 (⟨rfl, hW⟩)
theorem C_16 (hl : l.stackTraces = false) (hA : VA A) (hW : WO A M) {v u2 u3 : Int} (h1 : rg v) : CtV l yL_call cL_call 5 (some .int) rgL_call [.ref 0, iv 16, iv v, iv u2, iv u3] M (po1 (tw (kIn v 1 49) (-9999002) (-9999002) (cntK (fun j => decide (spF v (sG (jS A) j) ≠ sG (jS A) j)) (sC (jS A) * sR (jS A)).toNat)) (if kIn v 1 49 = 0 then jAct A (gQ (jS A) v) else A)) := by
  refine CtV.of hl miL_call (Nat.le_of_ble_eq_true rfl) (po1_cl hW) ?_
  intro X hXl hN gk ex
  subst hXl
  have ok := gk.ok
  refine AW.cast (L2 := [some (.ref 0), some (iv 16), some (iv v), some (iv u2), some (iv u3)]) ?_ rfl rfl rfl
  refine a_iload_n (pc := 0) ok dL_call_0 rfl ?_
  refine a_tableIn (pc := 1) (off := 211) (tgt := 212) ok dL_call_1 (by unfold rg; omega) (by decide) (by decide) rfl (by decide) ?_
  refine a_aload_n (pc := 212) ok dL_call_212 rfl ?_
  refine a_iload_n (pc := 213) ok dL_call_213 rfl ?_
  refine w_o (pc := 214) ok ex dL_call_214 (ug4 140 (by decide +kernel) rfl) (ug4 141 (by decide +kernel) rfl) miL_trySpread hW (T_trySpread hl hA hW h1) ⟨by decide, by decide, rfl, rfl⟩ ⟨Nat.le_of_ble_eq_true rfl, Nat.le_of_ble_eq_true rfl⟩ rfl rfl (Nat.le_of_ble_eq_true rfl) ?_
  intro M hW
  exact a_iret (pc := 217) ok dL_call_217 (⟨rfl, hW⟩)
theorem C_17 (hl : l.stackTraces = false) (hA : VA A) (hW : WO A M) {u1 u2 u3 : Int}  : CtV l yL_call cL_call 5 (some .int) rgL_call [.ref 0, iv 17, iv u1, iv u2, iv u3] M (po1 (tw (kUndo (jC A)) (-9999003) (-9999003) ((jC A) - 1)) (if kUndo (jC A) = 0 then jUndo A else A)) := by
  refine CtV.of hl miL_call (Nat.le_of_ble_eq_true rfl) (po1_cl hW) ?_
  intro X hXl hN gk ex
  subst hXl
  have ok := gk.ok
  refine AW.cast (L2 := [some (.ref 0), some (iv 17), some (iv u1), some (iv u2), some (iv u3)]) ?_ rfl rfl rfl
  refine a_iload_n (pc := 0) ok dL_call_0 rfl ?_
  refine a_tableIn (pc := 1) (off := 217) (tgt := 218) ok dL_call_1 (by unfold rg; omega) (by decide) (by decide) rfl (by decide) ?_
  refine a_aload_n (pc := 218) ok dL_call_218 rfl ?_
  refine w_o (pc := 219) ok ex dL_call_219 (ug4 148 (by decide +kernel) rfl) (ug4 149 (by decide +kernel) rfl) miL_tryUndo hW (T_tryUndo hl hA hW ) ⟨by decide, by decide, rfl, rfl⟩ ⟨Nat.le_of_ble_eq_true rfl, Nat.le_of_ble_eq_true rfl⟩ rfl rfl (Nat.le_of_ble_eq_true rfl) ?_
  intro M hW
  exact a_iret (pc := 222) ok dL_call_222 (⟨rfl, hW⟩)
theorem C_18 (hl : l.stackTraces = false) (hA : VA A) (hW : WO A M) {v w u3 : Int} (hv : rg v) (hw : rg w) : CtV l yL_call cL_call 5 (some .int) rgL_call [.ref 0, iv 18, iv v, iv w, iv u3] M (po1 (tw (kIfL v w) (-9999002) (-9999002) (aIfL (jS A) v w)) (if kIfL v w = 0 then A else A)) := by
  refine CtV.of hl miL_call (Nat.le_of_ble_eq_true rfl) (po1_cl hW) ?_
  intro X hXl hN gk ex
  subst hXl
  have ok := gk.ok
  refine AW.cast (L2 := [some (.ref 0), some (iv 18), some (iv v), some (iv w), some (iv u3)]) ?_ rfl rfl rfl
  refine a_iload_n (pc := 0) ok dL_call_0 rfl ?_
  refine a_tableIn (pc := 1) (off := 222) (tgt := 223) ok dL_call_1 (by unfold rg; omega) (by decide) (by decide) rfl (by decide) ?_
  refine a_aload_n (pc := 223) ok dL_call_223 rfl ?_
  refine a_iload_n (pc := 224) ok dL_call_224 rfl ?_
  refine a_iload_n (pc := 225) ok dL_call_225 rfl ?_
  refine w_o (pc := 226) ok ex dL_call_226 (ug4 160 (by decide +kernel) rfl) (ug4 161 (by decide +kernel) rfl) miL_tryIf hW (T_tryIf hl hA hW hv hw) ⟨by decide, by decide, rfl, rfl⟩ ⟨Nat.le_of_ble_eq_true rfl, Nat.le_of_ble_eq_true rfl⟩ rfl rfl (Nat.le_of_ble_eq_true rfl) ?_
  intro M hW
  exact a_iret (pc := 229) ok dL_call_229 (⟨rfl, hW⟩)
theorem C_19 (hl : l.stackTraces = false) (hA : VA A) (hW : WO A M) {n u2 u3 : Int} (hn : rg n) : CtV l yL_call cL_call 5 (some .int) rgL_call [.ref 0, iv 19, iv n, iv u2, iv u3] M (po1 (tw (kIn n 1 144) (-9999002) (-9999002) (lfK (jS A) n 30 1)) (if kIn n 1 144 = 0 then A else A)) := by
  refine CtV.of hl miL_call (Nat.le_of_ble_eq_true rfl) (po1_cl hW) ?_
  intro X hXl hN gk ex
  subst hXl
  have ok := gk.ok
  refine AW.cast (L2 := [some (.ref 0), some (iv 19), some (iv n), some (iv u2), some (iv u3)]) ?_ rfl rfl rfl
  refine a_iload_n (pc := 0) ok dL_call_0 rfl ?_
  refine a_tableIn (pc := 1) (off := 229) (tgt := 230) ok dL_call_1 (by unfold rg; omega) (by decide) (by decide) rfl (by decide) ?_
  refine a_aload_n (pc := 230) ok dL_call_230 rfl ?_
  refine a_iload_n (pc := 231) ok dL_call_231 rfl ?_
  refine w_o (pc := 232) ok ex dL_call_232 (ug4 172 (by decide +kernel) rfl) (ug4 173 (by decide +kernel) rfl) miL_tryFor hW (T_tryFor hl hA hW hn) ⟨by decide, by decide, rfl, rfl⟩ ⟨Nat.le_of_ble_eq_true rfl, Nat.le_of_ble_eq_true rfl⟩ rfl rfl (Nat.le_of_ble_eq_true rfl) ?_
  intro M hW
  exact a_iret (pc := 235) ok dL_call_235 (⟨rfl, hW⟩)
theorem C_20 (hl : l.stackTraces = false) (hA : VA A) (hW : WO A M) {k u2 u3 : Int} (hk : rg k) : CtV l yL_call cL_call 5 (some .int) rgL_call [.ref 0, iv 20, iv k, iv u2, iv u3] M (po1 (tw (kIn k 0 (sN (jS A) - 1)) (-9999001) (-9999001) (aBest (jS A) k)) (if kIn k 0 (sN (jS A) - 1) = 0 then A else A)) := by
  refine CtV.of hl miL_call (Nat.le_of_ble_eq_true rfl) (po1_cl hW) ?_
  intro X hXl hN gk ex
  subst hXl
  have ok := gk.ok
  refine AW.cast (L2 := [some (.ref 0), some (iv 20), some (iv k), some (iv u2), some (iv u3)]) ?_ rfl rfl rfl
  refine a_iload_n (pc := 0) ok dL_call_0 rfl ?_
  refine a_tableIn (pc := 1) (off := 235) (tgt := 236) ok dL_call_1 (by unfold rg; omega) (by decide) (by decide) rfl (by decide) ?_
  refine a_aload_n (pc := 236) ok dL_call_236 rfl ?_
  refine a_iload_n (pc := 237) ok dL_call_237 rfl ?_
  refine w_o (pc := 238) ok ex dL_call_238 (ug4 180 (by decide +kernel) rfl) (ug4 181 (by decide +kernel) rfl) miL_tryBest hW (T_tryBest hl hA hW hk) ⟨by decide, by decide, rfl, rfl⟩ ⟨Nat.le_of_ble_eq_true rfl, Nat.le_of_ble_eq_true rfl⟩ rfl rfl (Nat.le_of_ble_eq_true rfl) ?_
  intro M hW
  exact a_iret (pc := 241) ok dL_call_241 (⟨rfl, hW⟩)
theorem C_21 (hl : l.stackTraces = false) (hA : VA A) (hW : WO A M) {v u2 u3 : Int} (h1 : rg v) : CtV l yL_call cL_call 5 (some .int) rgL_call [.ref 0, iv 21, iv v, iv u2, iv u3] M (po1 (tw (kIn v 0 1) (-9999001) (-9999001) (sumK (sG (jS A)) (sC (jS A) * sR (jS A)).toNat)) (if kIn v 0 1 = 0 then jSave A v else A)) := by
  refine CtV.of hl miL_call (Nat.le_of_ble_eq_true rfl) (po1_cl hW) ?_
  intro X hXl hN gk ex
  subst hXl
  have ok := gk.ok
  refine AW.cast (L2 := [some (.ref 0), some (iv 21), some (iv v), some (iv u2), some (iv u3)]) ?_ rfl rfl rfl
  refine a_iload_n (pc := 0) ok dL_call_0 rfl ?_
  refine a_tableIn (pc := 1) (off := 241) (tgt := 242) ok dL_call_1 (by unfold rg; omega) (by decide) (by decide) rfl (by decide) ?_
  refine a_aload_n (pc := 242) ok dL_call_242 rfl ?_
  refine a_iload_n (pc := 243) ok dL_call_243 rfl ?_
  refine w_o (pc := 244) ok ex dL_call_244 (ug4 194 (by decide +kernel) rfl) (ug4 195 (by decide +kernel) rfl) miL_tryKeep hW (T_tryKeep hl hA hW h1) ⟨by decide, by decide, rfl, rfl⟩ ⟨Nat.le_of_ble_eq_true rfl, Nat.le_of_ble_eq_true rfl⟩ rfl rfl (Nat.le_of_ble_eq_true rfl) ?_
  intro M hW
  exact a_iret (pc := 247) ok dL_call_247 (⟨rfl, hW⟩)
theorem C_22 (hl : l.stackTraces = false) (hA : VA A) (hW : WO A M) {v u2 u3 : Int} (h1 : rg v) : CtV l yL_call cL_call 5 (some .int) rgL_call [.ref 0, iv 22, iv v, iv u2, iv u3] M (po1 (tw (kRes (jV A) v) (-9999001) (-9999003) (sumK (sG (if v = 0 then (j0 A) else (j1 A))) (sC (if v = 0 then (j0 A) else (j1 A)) * sR (if v = 0 then (j0 A) else (j1 A))).toNat)) (if kRes (jV A) v = 0 then jRest A v else A)) := by
  refine CtV.of hl miL_call (Nat.le_of_ble_eq_true rfl) (po1_cl hW) ?_
  intro X hXl hN gk ex
  subst hXl
  have ok := gk.ok
  refine AW.cast (L2 := [some (.ref 0), some (iv 22), some (iv v), some (iv u2), some (iv u3)]) ?_ rfl rfl rfl
  refine a_iload_n (pc := 0) ok dL_call_0 rfl ?_
  refine a_tableOut (pc := 1) (tgt := 248) ok dL_call_1 (by unfold rg; omega) (Or.inr (by decide)) (by decide) ?_
  refine a_aload_n (pc := 248) ok dL_call_248 rfl ?_
  refine a_iload_n (pc := 249) ok dL_call_249 rfl ?_
  refine w_o (pc := 250) ok ex dL_call_250 (ug4 201 (by decide +kernel) rfl) (ug4 202 (by decide +kernel) rfl) miL_tryBack hW (T_tryBack hl hA hW h1) ⟨by decide, by decide, rfl, rfl⟩ ⟨Nat.le_of_ble_eq_true rfl, Nat.le_of_ble_eq_true rfl⟩ rfl rfl (Nat.le_of_ble_eq_true rfl) ?_
  intro M hW
  exact a_iret (pc := 253) ok dL_call_253 (⟨rfl, hW⟩)
end CL9
