/-! MODEL's text: commands, the whole. -/
section TM3
variable {l : Launch} {rf sz : Int} {S : St} {ac : Int} {B I : Int → Int} {m : Int} {Fi Co Br Wt mk gy : Int → Int} {sd rt lf wy sp ou : Int} {tx : Int → Int}
theorem wEr_k {t : Int → Int} {n p k : Int} {m : Nat} (hp : 0 ≤ p ∧ p < n) (hk : t p = k) (h69 : k ≠ 69) (hm : nuO k = m) : wEr t n p 0 = (if dBad t n k p m = -1 then -1 else p + 1 + dBad t n k p m) ∧ wE t n p = p + 1 + 2 * m := by
  have hs : sg t n p = k := by unfold sg; rw [if_pos hp]; exact hk
  have h := wEr_ok (t := t) (n := n) (p := p) (h := 0) ⟨hp.2, by rw [hs, if_neg h69], by rw [hs, hm]; omega⟩
  rw [hs, hm, Int.toNat_natCast] at h
  refine ⟨h, ?_⟩
  unfold wE
  rw [hs, hm]; omega
theorem wEr_d {t : Int → Int} {n p k : Int} (hp : 0 ≤ p ∧ p < n) (hk : t p = k) (h : k = 69 ∨ nuO k = -1) : wEr t n p 0 = p := by
  have hs : sg t n p = k := by unfold sg; rw [if_pos hp]; exact hk
  refine wEr_no fun z => ?_
  have a := z.2.1
  have d := z.2.2
  rw [hs] at a d
  rcases h with h | h
  · rw [if_pos h] at a; omega
  · exact d h
theorem dX7_readCommand_0 : decode cX7_readCommand 0 = .ok (.aload_n 0, 1) := by decide +kernel
theorem dX7_readCommand_1 : decode cX7_readCommand 1 = .ok (.getfield 7, 3) := by decide +kernel
theorem dX7_readCommand_4 : decode cX7_readCommand 4 = .ok (.aload_n 0, 1) := by decide +kernel
theorem dX7_readCommand_5 : decode cX7_readCommand 5 = .ok (.getfield 196, 3) := by decide +kernel
theorem dX7_readCommand_8 : decode cX7_readCommand 8 = .ok (.iaload, 1) := by decide +kernel
theorem dX7_readCommand_9 : decode cX7_readCommand 9 = .ok (.istore_n 2, 1) := by decide +kernel
theorem dX7_readCommand_10 : decode cX7_readCommand 10 = .ok (.aload_n 0, 1) := by decide +kernel
theorem dX7_readCommand_11 : decode cX7_readCommand 11 = .ok (.dup, 1) := by decide +kernel
theorem dX7_readCommand_12 : decode cX7_readCommand 12 = .ok (.getfield 196, 3) := by decide +kernel
theorem dX7_readCommand_15 : decode cX7_readCommand 15 = .ok (.iconst 1, 1) := by decide +kernel
theorem dX7_readCommand_16 : decode cX7_readCommand 16 = .ok (.iadd, 1) := by decide +kernel
theorem dX7_readCommand_17 : decode cX7_readCommand 17 = .ok (.putfield 196, 3) := by decide +kernel
theorem dX7_readCommand_20 : decode cX7_readCommand 20 = .ok (.iload_n 2, 1) := by decide +kernel
theorem dX7_readCommand_21 : decode cX7_readCommand 21 = .ok (.tableswitch 290 98 117 #[101, 290, 290, 290, 290, 290, 290, 232, 290, 107, 290, 177, 290, 290, 95, 290, 290, 249, 107, 214], 95) := by decide +kernel
theorem dX7_readCommand_116 : decode cX7_readCommand 116 = .ok (.aload_n 0, 1) := by decide +kernel
theorem dX7_readCommand_117 : decode cX7_readCommand 117 = .ok (.aload_n 1, 1) := by decide +kernel
theorem dX7_readCommand_118 : decode cX7_readCommand 118 = .ok (.invokevirtual 220, 3) := by decide +kernel
theorem dX7_readCommand_121 : decode cX7_readCommand 121 = .ok (.ireturn, 1) := by decide +kernel
theorem dX7_readCommand_122 : decode cX7_readCommand 122 = .ok (.aload_n 0, 1) := by decide +kernel
theorem dX7_readCommand_123 : decode cX7_readCommand 123 = .ok (.aload_n 1, 1) := by decide +kernel
theorem dX7_readCommand_124 : decode cX7_readCommand 124 = .ok (.invokevirtual 224, 3) := by decide +kernel
theorem dX7_readCommand_127 : decode cX7_readCommand 127 = .ok (.ireturn, 1) := by decide +kernel
theorem dX7_readCommand_128 : decode cX7_readCommand 128 = .ok (.aload_n 0, 1) := by decide +kernel
theorem dX7_readCommand_129 : decode cX7_readCommand 129 = .ok (.iconst 0, 1) := by decide +kernel
theorem dX7_readCommand_130 : decode cX7_readCommand 130 = .ok (.iconst 1, 1) := by decide +kernel
theorem dX7_readCommand_131 : decode cX7_readCommand 131 = .ok (.bipush 99, 2) := by decide +kernel
theorem dX7_readCommand_133 : decode cX7_readCommand 133 = .ok (.invokevirtual 204, 3) := by decide +kernel
theorem dX7_readCommand_136 : decode cX7_readCommand 136 = .ok (.istore_n 3, 1) := by decide +kernel
theorem dX7_readCommand_137 : decode cX7_readCommand 137 = .ok (.iload_n 3, 1) := by decide +kernel
theorem dX7_readCommand_138 : decode cX7_readCommand 138 = .ok (.iconst (-1), 1) := by decide +kernel
theorem dX7_readCommand_139 : decode cX7_readCommand 139 = .ok (.if_icmp .eq 57, 3) := by decide +kernel
theorem dX7_readCommand_142 : decode cX7_readCommand 142 = .ok (.aload_n 0, 1) := by decide +kernel
theorem dX7_readCommand_143 : decode cX7_readCommand 143 = .ok (.aload_n 1, 1) := by decide +kernel
theorem dX7_readCommand_144 : decode cX7_readCommand 144 = .ok (.iload_n 3, 1) := by decide +kernel
theorem dX7_readCommand_145 : decode cX7_readCommand 145 = .ok (.iload_n 2, 1) := by decide +kernel
theorem dX7_readCommand_146 : decode cX7_readCommand 146 = .ok (.bipush 116, 2) := by decide +kernel
theorem dX7_readCommand_148 : decode cX7_readCommand 148 = .ok (.if_icmp .ne 7, 3) := by decide +kernel
theorem dX7_readCommand_151 : decode cX7_readCommand 151 = .ok (.iconst 1, 1) := by decide +kernel
theorem dX7_readCommand_152 : decode cX7_readCommand 152 = .ok (.goto 4, 3) := by decide +kernel
theorem dX7_readCommand_155 : decode cX7_readCommand 155 = .ok (.iconst 0, 1) := by decide +kernel
theorem dX7_readCommand_156 : decode cX7_readCommand 156 = .ok (.invokestatic 227, 3) := by decide +kernel
theorem dX7_readCommand_159 : decode cX7_readCommand 159 = .ok (.ifCond .eq 26, 3) := by decide +kernel
theorem dX7_readCommand_162 : decode cX7_readCommand 162 = .ok (.aload_n 1, 1) := by decide +kernel
theorem dX7_readCommand_163 : decode cX7_readCommand 163 = .ok (.iload_n 3, 1) := by decide +kernel
theorem dX7_readCommand_164 : decode cX7_readCommand 164 = .ok (.iload_n 2, 1) := by decide +kernel
theorem dX7_readCommand_165 : decode cX7_readCommand 165 = .ok (.bipush 116, 2) := by decide +kernel
theorem dX7_readCommand_167 : decode cX7_readCommand 167 = .ok (.if_icmp .ne 7, 3) := by decide +kernel
theorem dX7_readCommand_170 : decode cX7_readCommand 170 = .ok (.iconst 1, 1) := by decide +kernel
theorem dX7_readCommand_171 : decode cX7_readCommand 171 = .ok (.goto 4, 3) := by decide +kernel
theorem dX7_readCommand_174 : decode cX7_readCommand 174 = .ok (.iconst 0, 1) := by decide +kernel
theorem dX7_readCommand_175 : decode cX7_readCommand 175 = .ok (.invokestatic 170, 3) := by decide +kernel
theorem dX7_readCommand_178 : decode cX7_readCommand 178 = .ok (.ifCond .lt 7, 3) := by decide +kernel
theorem dX7_readCommand_181 : decode cX7_readCommand 181 = .ok (.iconst 1, 1) := by decide +kernel
theorem dX7_readCommand_182 : decode cX7_readCommand 182 = .ok (.goto 4, 3) := by decide +kernel
theorem dX7_readCommand_185 : decode cX7_readCommand 185 = .ok (.iconst 0, 1) := by decide +kernel
theorem dX7_readCommand_186 : decode cX7_readCommand 186 = .ok (.invokevirtual 216, 3) := by decide +kernel
theorem dX7_readCommand_189 : decode cX7_readCommand 189 = .ok (.ifCond .eq 7, 3) := by decide +kernel
theorem dX7_readCommand_192 : decode cX7_readCommand 192 = .ok (.iconst 1, 1) := by decide +kernel
theorem dX7_readCommand_193 : decode cX7_readCommand 193 = .ok (.goto 4, 3) := by decide +kernel
theorem dX7_readCommand_196 : decode cX7_readCommand 196 = .ok (.iconst 0, 1) := by decide +kernel
theorem dX7_readCommand_197 : decode cX7_readCommand 197 = .ok (.ireturn, 1) := by decide +kernel
theorem dX7_readCommand_198 : decode cX7_readCommand 198 = .ok (.aload_n 0, 1) := by decide +kernel
theorem dX7_readCommand_199 : decode cX7_readCommand 199 = .ok (.iconst 0, 1) := by decide +kernel
theorem dX7_readCommand_200 : decode cX7_readCommand 200 = .ok (.iconst 1, 1) := by decide +kernel
theorem dX7_readCommand_201 : decode cX7_readCommand 201 = .ok (.bipush 30, 2) := by decide +kernel
theorem dX7_readCommand_203 : decode cX7_readCommand 203 = .ok (.invokevirtual 204, 3) := by decide +kernel
theorem dX7_readCommand_206 : decode cX7_readCommand 206 = .ok (.istore_n 3, 1) := by decide +kernel
theorem dX7_readCommand_207 : decode cX7_readCommand 207 = .ok (.aload_n 1, 1) := by decide +kernel
theorem dX7_readCommand_208 : decode cX7_readCommand 208 = .ok (.bipush 8, 2) := by decide +kernel
theorem dX7_readCommand_210 : decode cX7_readCommand 210 = .ok (.iload_n 3, 1) := by decide +kernel
theorem dX7_readCommand_211 : decode cX7_readCommand 211 = .ok (.iconst (-1), 1) := by decide +kernel
theorem dX7_readCommand_212 : decode cX7_readCommand 212 = .ok (.if_icmp .ne 10, 3) := by decide +kernel
theorem dX7_readCommand_215 : decode cX7_readCommand 215 = .ok (.aload_n 1, 1) := by decide +kernel
theorem dX7_readCommand_216 : decode cX7_readCommand 216 = .ok (.bipush 8, 2) := by decide +kernel
theorem dX7_readCommand_218 : decode cX7_readCommand 218 = .ok (.iaload, 1) := by decide +kernel
theorem dX7_readCommand_219 : decode cX7_readCommand 219 = .ok (.goto 4, 3) := by decide +kernel
theorem dX7_readCommand_222 : decode cX7_readCommand 222 = .ok (.iload_n 3, 1) := by decide +kernel
theorem dX7_readCommand_223 : decode cX7_readCommand 223 = .ok (.iastore, 1) := by decide +kernel
theorem dX7_readCommand_224 : decode cX7_readCommand 224 = .ok (.iload_n 3, 1) := by decide +kernel
theorem dX7_readCommand_225 : decode cX7_readCommand 225 = .ok (.iconst (-1), 1) := by decide +kernel
theorem dX7_readCommand_226 : decode cX7_readCommand 226 = .ok (.if_icmp .eq 7, 3) := by decide +kernel
theorem dX7_readCommand_229 : decode cX7_readCommand 229 = .ok (.iconst 1, 1) := by decide +kernel
theorem dX7_readCommand_230 : decode cX7_readCommand 230 = .ok (.goto 4, 3) := by decide +kernel
theorem dX7_readCommand_233 : decode cX7_readCommand 233 = .ok (.iconst 0, 1) := by decide +kernel
theorem dX7_readCommand_234 : decode cX7_readCommand 234 = .ok (.ireturn, 1) := by decide +kernel
theorem dX7_readCommand_235 : decode cX7_readCommand 235 = .ok (.aload_n 0, 1) := by decide +kernel
theorem dX7_readCommand_236 : decode cX7_readCommand 236 = .ok (.aload_n 0, 1) := by decide +kernel
theorem dX7_readCommand_237 : decode cX7_readCommand 237 = .ok (.aload_n 1, 1) := by decide +kernel
theorem dX7_readCommand_238 : decode cX7_readCommand 238 = .ok (.invokevirtual 231, 3) := by decide +kernel
theorem dX7_readCommand_241 : decode cX7_readCommand 241 = .ok (.ifCond .lt 7, 3) := by decide +kernel
theorem dX7_readCommand_244 : decode cX7_readCommand 244 = .ok (.iconst 1, 1) := by decide +kernel
theorem dX7_readCommand_245 : decode cX7_readCommand 245 = .ok (.goto 4, 3) := by decide +kernel
theorem dX7_readCommand_248 : decode cX7_readCommand 248 = .ok (.iconst 0, 1) := by decide +kernel
theorem dX7_readCommand_249 : decode cX7_readCommand 249 = .ok (.invokevirtual 216, 3) := by decide +kernel
theorem dX7_readCommand_252 : decode cX7_readCommand 252 = .ok (.ireturn, 1) := by decide +kernel
theorem dX7_readCommand_253 : decode cX7_readCommand 253 = .ok (.aload_n 0, 1) := by decide +kernel
theorem dX7_readCommand_254 : decode cX7_readCommand 254 = .ok (.aload_n 1, 1) := by decide +kernel
theorem dX7_readCommand_255 : decode cX7_readCommand 255 = .ok (.invokestatic 234, 3) := by decide +kernel
theorem dX7_readCommand_258 : decode cX7_readCommand 258 = .ok (.ifCond .lt 7, 3) := by decide +kernel
theorem dX7_readCommand_261 : decode cX7_readCommand 261 = .ok (.iconst 1, 1) := by decide +kernel
theorem dX7_readCommand_262 : decode cX7_readCommand 262 = .ok (.goto 4, 3) := by decide +kernel
theorem dX7_readCommand_265 : decode cX7_readCommand 265 = .ok (.iconst 0, 1) := by decide +kernel
theorem dX7_readCommand_266 : decode cX7_readCommand 266 = .ok (.invokevirtual 216, 3) := by decide +kernel
theorem dX7_readCommand_269 : decode cX7_readCommand 269 = .ok (.ireturn, 1) := by decide +kernel
theorem dX7_readCommand_270 : decode cX7_readCommand 270 = .ok (.aload_n 0, 1) := by decide +kernel
theorem dX7_readCommand_271 : decode cX7_readCommand 271 = .ok (.iconst 0, 1) := by decide +kernel
theorem dX7_readCommand_272 : decode cX7_readCommand 272 = .ok (.iconst 1, 1) := by decide +kernel
theorem dX7_readCommand_273 : decode cX7_readCommand 273 = .ok (.bipush 49, 2) := by decide +kernel
theorem dX7_readCommand_275 : decode cX7_readCommand 275 = .ok (.invokevirtual 204, 3) := by decide +kernel
theorem dX7_readCommand_278 : decode cX7_readCommand 278 = .ok (.istore_n 3, 1) := by decide +kernel
theorem dX7_readCommand_279 : decode cX7_readCommand 279 = .ok (.iload_n 3, 1) := by decide +kernel
theorem dX7_readCommand_280 : decode cX7_readCommand 280 = .ok (.iconst (-1), 1) := by decide +kernel
theorem dX7_readCommand_281 : decode cX7_readCommand 281 = .ok (.if_icmp .eq 28, 3) := by decide +kernel
theorem dX7_readCommand_284 : decode cX7_readCommand 284 = .ok (.aload_n 0, 1) := by decide +kernel
theorem dX7_readCommand_285 : decode cX7_readCommand 285 = .ok (.aload_n 0, 1) := by decide +kernel
theorem dX7_readCommand_286 : decode cX7_readCommand 286 = .ok (.aload_n 1, 1) := by decide +kernel
theorem dX7_readCommand_287 : decode cX7_readCommand 287 = .ok (.iload_n 3, 1) := by decide +kernel
theorem dX7_readCommand_288 : decode cX7_readCommand 288 = .ok (.invokevirtual 237, 3) := by decide +kernel
theorem dX7_readCommand_291 : decode cX7_readCommand 291 = .ok (.ifCond .lt 7, 3) := by decide +kernel
theorem dX7_readCommand_294 : decode cX7_readCommand 294 = .ok (.iconst 1, 1) := by decide +kernel
theorem dX7_readCommand_295 : decode cX7_readCommand 295 = .ok (.goto 4, 3) := by decide +kernel
theorem dX7_readCommand_298 : decode cX7_readCommand 298 = .ok (.iconst 0, 1) := by decide +kernel
theorem dX7_readCommand_299 : decode cX7_readCommand 299 = .ok (.invokevirtual 216, 3) := by decide +kernel
theorem dX7_readCommand_302 : decode cX7_readCommand 302 = .ok (.ifCond .eq 7, 3) := by decide +kernel
theorem dX7_readCommand_305 : decode cX7_readCommand 305 = .ok (.iconst 1, 1) := by decide +kernel
theorem dX7_readCommand_306 : decode cX7_readCommand 306 = .ok (.goto 4, 3) := by decide +kernel
theorem dX7_readCommand_309 : decode cX7_readCommand 309 = .ok (.iconst 0, 1) := by decide +kernel
theorem dX7_readCommand_310 : decode cX7_readCommand 310 = .ok (.ireturn, 1) := by decide +kernel
theorem dX7_readCommand_311 : decode cX7_readCommand 311 = .ok (.aload_n 0, 1) := by decide +kernel
theorem dX7_readCommand_312 : decode cX7_readCommand 312 = .ok (.dup, 1) := by decide +kernel
theorem dX7_readCommand_313 : decode cX7_readCommand 313 = .ok (.getfield 196, 3) := by decide +kernel
theorem dX7_readCommand_316 : decode cX7_readCommand 316 = .ok (.iconst 1, 1) := by decide +kernel
theorem dX7_readCommand_317 : decode cX7_readCommand 317 = .ok (.isub, 1) := by decide +kernel
theorem dX7_readCommand_318 : decode cX7_readCommand 318 = .ok (.putfield 196, 3) := by decide +kernel
theorem dX7_readCommand_321 : decode cX7_readCommand 321 = .ok (.iconst 0, 1) := by decide +kernel
theorem dX7_readCommand_322 : decode cX7_readCommand 322 = .ok (.ireturn, 1) := by decide +kernel
theorem rc_fin {p : Int} (hp : 0 ≤ p ∧ p < sz) : ∀ (k : Int) (m0 : Nat) (S1 : St) (o1 : Int) (gy1 : Int → Int), tx p = k → k ≠ 69 → nuO k = m0 → (dBad tx sz k p m0 = -1 → S1 = exW tx sz p S ∧ o1 = okZ tx sz p S) →
    (some (iv (bz (dBad tx sz k p m0 = -1))) = some (iv (bz (wEr tx sz p 0 = -1))) ∧ ∃ gy' : Int → Int, (mtM rf sz (if dBad tx sz k p m0 = -1 then S1 else S) ac B I m Fi Co Br Wt mk (gy1) sd rt lf wy (if dBad tx sz k p m0 = -1 then p + 1 + 2 * m0 else p + 1 + dBad tx sz k p m0) (if dBad tx sz k p m0 = -1 then ou + (1 - o1) else ou) tx) = (mtM rf sz (if wEr tx sz p 0 = -1 then exW tx sz p S else S) ac B I m Fi Co Br Wt mk (gy') sd rt lf wy (if wEr tx sz p 0 = -1 then wE tx sz p else wEr tx sz p 0) (if wEr tx sz p 0 = -1 then ou + (1 - okZ tx sz p S) else ou) tx)) := by
  intro k m0 S1 o1 gy1 h1 h2 h3 h4
  have hw := wEr_k hp h1 h2 h3
  have hr := dBad_rg (t := tx) (n := sz) (k := k) (p := p) m0
  rw [hw.1, hw.2]
  by_cases z : dBad tx sz k p m0 = -1
  · obtain ⟨e1, e2⟩ := h4 z
    rw [if_pos z, if_pos z, if_pos z, if_pos z, if_pos rfl, if_pos rfl, if_pos rfl, e1, e2, bz_pos z, bz_pos rfl]
    exact ⟨rfl, gy1, rfl⟩
  · have z2 : ¬ p + 1 + dBad tx sz k p m0 = -1 := by omega
    rw [if_neg z, if_neg z, if_neg z, if_neg z, if_neg z2, if_neg z2, if_neg z2, bz_neg z, bz_neg z2]
    exact ⟨rfl, gy1, rfl⟩
theorem rc_t {p : Int} {X : Cx} (hN : nLof X = 4) (ok : OK X cX7_readCommand yX7_readCommand.cls (some .boolean) rmX7_readCommand (fun z M => z = some (iv (bz (wEr tx sz p 0 = -1))) ∧ ∃ gy' : Int → Int, M = (mtM rf sz (if wEr tx sz p 0 = -1 then exW tx sz p S else S) ac B I m Fi Co Br Wt mk (gy') sd rt lf wy (if wEr tx sz p 0 = -1 then wE tx sz p else wEr tx sz p 0) (if wEr tx sz p 0 = -1 then ou + (1 - okZ tx sz p S) else ou) tx)) 0 0) (hn : 0 ≤ sz ∧ sz ≤ 120) (ht : ∀ j, 0 ≤ tx j ∧ tx j ≤ 255) (hp : 0 ≤ p ∧ p < sz) (hS : SV S) : ∀ k b : Int, (k = 116 ∧ b = 1) ∨ (k = 107 ∧ b = 0) → tx p = k → AW X 0 0 128 [some (.ref 0), some (.ref 1), some (iv k), none] [] (mtM rf sz S ac B I m Fi Co Br Wt mk gy sd rt lf wy (p + 1) ou tx) := by
  obtain ⟨hd, hG, hT, hs, hnn, hle⟩ := id hS
  have hc := dim_cells hd
  have htp := ht p
  have hsg : sg tx sz p = tx p := if_pos hp
  have fin := rc_fin (rf := rf) (sz := sz) (S := S) (ac := ac) (B := B) (I := I) (m := m) (Fi := Fi) (Co := Co) (Br := Br) (Wt := Wt) (mk := mk) (sd := sd) (rt := rt) (lf := lf) (wy := wy) (ou := ou) (tx := tx) hp
  intro k b hk ek
  have h69 : k ≠ 69 := by omega
  have hnu : nuO k = ((1 : Nat) : Int) := by unfold nuO; rw [if_neg (by omega), if_neg (by omega), if_neg (by omega), if_pos (by omega)]; rfl
  have l0 : loO k = 1 := by unfold loO; rw [if_neg (by omega)]
  have h0 : hiO k ((0 : Nat) : Int) = 99 := by unfold hiO; rw [if_neg (by omega), if_neg (by omega), if_neg (by omega), if_neg (by omega), if_neg (by omega)]
  by_cases hb : dBad tx sz k p 1 = -1
  · have g0 := fq_good hn.2 hp.1 hb 0 (by omega) (p + 1) (by omega)
    obtain ⟨v, ev⟩ : ∃ x, x = nmA tx sz (p + 1) := ⟨_, rfl⟩
    rw [← ev] at g0
    have k0 := g0.2
    rw [l0, h0] at k0
    have eX : exW tx sz p S = stT S v b := by
      unfold exW
      rw [hsg, ek, if_neg (by omega), if_neg (by omega), ← ev]
      rcases hk with ⟨rfl, rfl⟩ | ⟨rfl, rfl⟩
      · rw [if_pos rfl]
      · rw [if_neg (by omega), if_pos rfl]
    have eZ : okZ tx sz p S = bz (kT S v b) := by
      unfold okZ
      rw [hsg, ek, if_neg (by omega), if_neg (by omega), ← ev]
      rcases hk with ⟨rfl, rfl⟩ | ⟨rfl, rfl⟩
      · rw [if_pos rfl]
      · rw [if_neg (by omega), if_pos rfl]
    have fin2 := fin k 1 (stT S v b) (bz (kT S v b)) gy ek h69 hnu (fun _ => ⟨eX.symm, eZ.symm⟩)
    rw [bz_pos hb, if_pos hb, if_pos hb, if_pos hb] at fin2
    have s186 : ∀ z : Int, z = bz (kT S v b) → AW X 0 0 186 [some (.ref 0), some (.ref 1), some (iv k), some (iv v)] [iv z, .ref 0] (mtM rf sz (stT S v b) ac B I m Fi Co Br Wt mk gy sd rt lf wy (p + 3) ou tx) := by
      intro z hz
      subst hz
      refine x_callVi (pc := 186) ok [0, 1, 2, 3, 4, 5, 6, 7, 8, 9, 10, 11, 12, 13, 14, 15, 16] 11 dX7_readCommand_186 mv7_216 miX7_done (c_done (bz_01 _)) ⟨by decide, by decide, rfl, rfl, Nat.zero_le _, Nat.zero_le _⟩ rfl rfl (Nat.le_of_ble_eq_true rfl) rfl rfl (by decide) rfl rfl rfl ?_
      refine a_if_eq (pc := 189) (tgt := 196) ok dX7_readCommand_189 (by decide) (by first | omega | (unfold rg; omega) | (simp only [rg] at *; omega) | exact bz_rg _ | grind [rg]) (fun c189 => ?_) (fun c189 => ?_)
      · exfalso; first | omega | grind
      · refine a_iconst (pc := 192) ok dX7_readCommand_192 ?_
        refine a_goto (pc := 193) (tgt := 197) ok dX7_readCommand_193 (by decide) ?_
        exact a_zret (pc := 197) ok dX7_readCommand_197 (by first | rfl | exact nb_bz _ | exact @nb_bz _ (Classical.propDecidable _) | decide) (by
have e : p + 1 + 2 * ((1 : Nat) : Int) = p + 3 := by omega
rw [e] at fin2
exact fin2)
    have st1 : kT S v b → stT S v b = gT S v b := fun z => if_pos z
    have st2 : ¬ kT S v b → stT S v b = S := fun z => if_neg z
    have hbb : rg b := by unfold rg; omega
    have hcan : bz (canT (sT S) (sN S) v b = true) = 0 → ¬ kT S v b := fun z y => by rw [bz_pos y.2.2] at z; exact absurd z (by decide)
    have hcan2 : ¬ bz (canT (sT S) (sN S) v b = true) = 0 → canT (sT S) (sN S) v b = true := fun z => Classical.byContradiction fun y => z (bz_neg y)
    have s156 : ∀ z : Int, z = b → AW X 0 0 156 [some (.ref 0), some (.ref 1), some (iv k), some (iv v)] [iv z, iv v, .ref 1, .ref 0] (mtM rf sz S ac B I m Fi Co Br Wt mk gy sd rt lf wy (p + 3) ou tx) := by
      intro z hz
      subst hz
      have s175 : canT (sT S) (sN S) v z = true → ∀ y : Int, y = z → AW X 0 0 175 [some (.ref 0), some (.ref 1), some (iv k), some (iv v)] [iv y, iv v, .ref 1, .ref 0] (mtM rf sz S ac B I m Fi Co Br Wt mk gy sd rt lf wy (p + 3) ou tx) := by
        intro hca y hy
        subst hy
        have hch : (0 : Int) ≤ chN (sN S) y ∧ (chN (sN S) y : Int) ≤ 10 := by unfold chN; split <;> omega
        refine a_callSi (pc := 175) ok [1] dX7_readCommand_175 mv7_170 miX7_partOn (c_partOn hnn hT hs (by unfold rg; omega) hbb hca) ⟨by decide, by decide, rfl, rfl, Nat.zero_le _, Nat.zero_le _⟩ rfl rfl (Nat.le_of_ble_eq_true rfl) rfl (by decide) rfl ?_
        refine a_if_lt (pc := 178) (tgt := 185) ok dX7_readCommand_178 (by decide) (by first | omega | (unfold rg; omega) | (simp only [rg] at *; omega) | exact bz_rg _ | grind [rg]) (fun c178 => ?_) (fun c178 => ?_)
        · exfalso; first | omega | grind
        · refine a_iconst (pc := 181) ok dX7_readCommand_181 ?_
          refine a_goto (pc := 182) (tgt := 186) ok dX7_readCommand_182 (by decide) ?_
          exact AW.cast (s186 1 (bz_pos ⟨by omega, by omega, hca⟩).symm) rfl rfl (by rw [st1 ⟨by omega, by omega, hca⟩]; rfl)
      refine a_callSp (pc := 156) ok [1] dX7_readCommand_156 mv7_227 miX7_canPart (c_canPart hnn hT hs (by unfold rg; omega) hbb) ⟨by decide, by decide, rfl, rfl, Nat.zero_le _, Nat.zero_le _⟩ rfl rfl (Nat.le_of_ble_eq_true rfl) rfl (by decide) ?_
      refine a_if_eq (pc := 159) (tgt := 185) ok dX7_readCommand_159 (by decide) (by exact bz_rg _) (fun c159 => ?_) (fun c159 => ?_)
      · refine a_iconst (pc := 185) ok dX7_readCommand_185 ?_
        exact AW.cast (s186 0 (bz_neg (hcan c159)).symm) rfl rfl (by rw [st2 (hcan c159)])
      · refine a_aload_n (pc := 162) ok dX7_readCommand_162 rfl ?_
        refine a_iload_n (pc := 163) ok dX7_readCommand_163 rfl ?_
        refine a_iload_n (pc := 164) ok dX7_readCommand_164 rfl ?_
        refine a_bipush (pc := 165) ok dX7_readCommand_165 (by decide) ?_
        refine a_icmp_ne (pc := 167) (tgt := 174) ok dX7_readCommand_167 (by decide) (by first | omega | (unfold rg; omega) | (simp only [rg] at *; omega) | exact bz_rg _ | grind [rg]) (by first | omega | (unfold rg; omega) | (simp only [rg] at *; omega) | exact bz_rg _ | grind [rg]) (fun c167 => ?_) (fun c167 => ?_)
        · refine a_iconst (pc := 174) ok dX7_readCommand_174 ?_
          exact s175 (hcan2 c159) 0 (by omega)
        · refine a_iconst (pc := 170) ok dX7_readCommand_170 ?_
          refine a_goto (pc := 171) (tgt := 175) ok dX7_readCommand_171 (by decide) ?_
          exact s175 (hcan2 c159) 1 (by omega)
    refine a_aload_n (pc := 128) ok dX7_readCommand_128 rfl ?_
    refine a_iconst (pc := 129) ok dX7_readCommand_129 ?_
    refine a_iconst (pc := 130) ok dX7_readCommand_130 ?_
    refine a_bipush (pc := 131) ok dX7_readCommand_131 (by decide) ?_
    refine x_callVi (pc := 133) ok [0, 1, 2, 3, 4, 5, 6, 7, 8, 9, 10, 11, 12, 13, 14, 15, 16] 11 dX7_readCommand_133 mv7_204 miX7_figures (c_figuresR hn ht (by omega) (show fq tx sz k p 0 = (0, p + 1) from rfl) g0.1 l0.symm h0.symm (by unfold rg; omega)) ⟨by decide, by decide, rfl, rfl, Nat.zero_le _, Nat.zero_le _⟩ rfl rfl (Nat.le_of_ble_eq_true rfl) rfl rfl (by decide) rfl rfl rfl ?_
    refine a_istore_n (pc := 136) ok dX7_readCommand_136 rfl (by rw [hN]; decide) ?_
    refine a_iload_n (pc := 137) ok dX7_readCommand_137 rfl ?_
    refine a_iconst (pc := 138) ok dX7_readCommand_138 ?_
    refine a_icmp_eq (pc := 139) (tgt := 196) ok dX7_readCommand_139 (by decide) (by first | omega | (unfold rg; omega) | (simp only [rg] at *; omega) | exact bz_rg _ | grind [rg]) (by first | omega | (unfold rg; omega) | (simp only [rg] at *; omega) | exact bz_rg _ | grind [rg]) (fun c139 => ?_) (fun c139 => ?_)
    · omega
    · refine a_aload_n (pc := 142) ok dX7_readCommand_142 rfl ?_
      refine a_aload_n (pc := 143) ok dX7_readCommand_143 rfl ?_
      refine a_iload_n (pc := 144) ok dX7_readCommand_144 rfl ?_
      refine a_iload_n (pc := 145) ok dX7_readCommand_145 rfl ?_
      refine a_bipush (pc := 146) ok dX7_readCommand_146 (by decide) ?_
      refine a_icmp_ne (pc := 148) (tgt := 155) ok dX7_readCommand_148 (by decide) (by first | omega | (unfold rg; omega) | (simp only [rg] at *; omega) | exact bz_rg _ | grind [rg]) (by first | omega | (unfold rg; omega) | (simp only [rg] at *; omega) | exact bz_rg _ | grind [rg]) (fun c148 => ?_) (fun c148 => ?_)
      · refine a_iconst (pc := 155) ok dX7_readCommand_155 ?_
        exact AW.cast (s156 0 (by omega)) rfl rfl (by rw [show p + 1 + 2 = p + 3 by omega]; rfl)
      · refine a_iconst (pc := 151) ok dX7_readCommand_151 ?_
        refine a_goto (pc := 152) (tgt := 156) ok dX7_readCommand_152 (by decide) ?_
        exact AW.cast (s156 1 (by omega)) rfl rfl (by rw [show p + 1 + 2 = p + 3 by omega]; rfl)
  · have g1 := fq_bad hn.2 hp.1 hb
    have fin2 := fin k 1 S 0 gy ek h69 hnu (fun z => absurd z hb)
    rw [bz_neg hb, if_neg hb, if_neg hb, if_neg hb] at fin2
    refine a_aload_n (pc := 128) ok dX7_readCommand_128 rfl ?_
    refine a_iconst (pc := 129) ok dX7_readCommand_129 ?_
    refine a_iconst (pc := 130) ok dX7_readCommand_130 ?_
    refine a_bipush (pc := 131) ok dX7_readCommand_131 (by decide) ?_
    refine x_callVi (pc := 133) ok [0, 1, 2, 3, 4, 5, 6, 7, 8, 9, 10, 11, 12, 13, 14, 15, 16] 11 dX7_readCommand_133 mv7_204 miX7_figures (c_figuresR hn ht (by omega) (show fq tx sz k p 0 = (0, p + 1) from rfl) g1 l0.symm h0.symm (by unfold rg; omega)) ⟨by decide, by decide, rfl, rfl, Nat.zero_le _, Nat.zero_le _⟩ rfl rfl (Nat.le_of_ble_eq_true rfl) rfl rfl (by decide) rfl rfl rfl ?_
    refine a_istore_n (pc := 136) ok dX7_readCommand_136 rfl (by rw [hN]; decide) ?_
    refine a_iload_n (pc := 137) ok dX7_readCommand_137 rfl ?_
    refine a_iconst (pc := 138) ok dX7_readCommand_138 ?_
    refine a_icmp_eq (pc := 139) (tgt := 196) ok dX7_readCommand_139 (by decide) (by first | omega | (unfold rg; omega) | (simp only [rg] at *; omega) | exact bz_rg _ | grind [rg]) (by first | omega | (unfold rg; omega) | (simp only [rg] at *; omega) | exact bz_rg _ | grind [rg]) (fun c139 => ?_) (fun c139 => ?_)
    · refine a_iconst (pc := 196) ok dX7_readCommand_196 ?_
      exact a_zret (pc := 197) ok dX7_readCommand_197 (by first | rfl | exact nb_bz _ | exact @nb_bz _ (Classical.propDecidable _) | decide) (fin2)
    · omega
theorem rc_m {p : Int} {X : Cx} (hN : nLof X = 4) (ok : OK X cX7_readCommand yX7_readCommand.cls (some .boolean) rmX7_readCommand (fun z M => z = some (iv (bz (wEr tx sz p 0 = -1))) ∧ ∃ gy' : Int → Int, M = (mtM rf sz (if wEr tx sz p 0 = -1 then exW tx sz p S else S) ac B I m Fi Co Br Wt mk (gy') sd rt lf wy (if wEr tx sz p 0 = -1 then wE tx sz p else wEr tx sz p 0) (if wEr tx sz p 0 = -1 then ou + (1 - okZ tx sz p S) else ou) tx)) 0 0) (hn : 0 ≤ sz ∧ sz ≤ 120) (ht : ∀ j, 0 ≤ tx j ∧ tx j ≤ 255) (hp : 0 ≤ p ∧ p < sz) (hS : SV S) : tx p = 109 → AW X 0 0 198 [some (.ref 0), some (.ref 1), some (iv 109), none] [] (mtM rf sz S ac B I m Fi Co Br Wt mk gy sd rt lf wy (p + 1) ou tx) := by
  obtain ⟨hd, hG, hT, hs, hnn, hle⟩ := id hS
  have hc := dim_cells hd
  have htp := ht p
  have hsg : sg tx sz p = tx p := if_pos hp
  have fin := rc_fin (rf := rf) (sz := sz) (S := S) (ac := ac) (B := B) (I := I) (m := m) (Fi := Fi) (Co := Co) (Br := Br) (Wt := Wt) (mk := mk) (sd := sd) (rt := rt) (lf := lf) (wy := wy) (ou := ou) (tx := tx) hp
  intro ek
  have l0 : loO 109 = 1 := rfl
  have h0 : hiO 109 ((0 : Nat) : Int) = 30 := rfl
  by_cases hb : dBad tx sz 109 p 1 = -1
  · have g0 := fq_good hn.2 hp.1 hb 0 (by omega) (p + 1) (by omega)
    obtain ⟨v, ev⟩ : ∃ x, x = nmA tx sz (p + 1) := ⟨_, rfl⟩
    rw [← ev] at g0
    have k0 := g0.2
    rw [l0, h0] at k0
    have eX : exW tx sz p S = setE S v := by
      unfold exW
      rw [hsg, ek, if_neg (by omega), if_neg (by omega), if_neg (by omega), if_neg (by omega), if_pos rfl, ← ev]
      exact if_pos k0
    have eZ : okZ tx sz p S = 1 := by
      unfold okZ
      rw [hsg, ek, if_neg (by omega), if_neg (by omega), if_neg (by omega), if_neg (by omega), if_pos rfl, ← ev]
      exact bz_pos k0
    have fin2 := fin 109 1 (setE S v) 1 gy ek (by omega) rfl (fun _ => ⟨eX.symm, eZ.symm⟩)
    rw [bz_pos hb, if_pos hb, if_pos hb, if_pos hb, show ou + (1 - (1 : Int)) = ou by omega, show p + 1 + 2 * ((1 : Nat) : Int) = p + 1 + 2 by omega] at fin2
    refine a_aload_n (pc := 198) ok dX7_readCommand_198 rfl ?_
    refine a_iconst (pc := 199) ok dX7_readCommand_199 ?_
    refine a_iconst (pc := 200) ok dX7_readCommand_200 ?_
    refine a_bipush (pc := 201) ok dX7_readCommand_201 (by decide) ?_
    refine x_callVi (pc := 203) ok [0, 1, 2, 3, 4, 5, 6, 7, 8, 9, 10, 11, 12, 13, 14, 15, 16] 11 dX7_readCommand_203 mv7_204 miX7_figures (c_figuresR hn ht (by omega) (show fq tx sz 109 p 0 = (0, p + 1) from rfl) g0.1 rfl rfl (by unfold rg; omega)) ⟨by decide, by decide, rfl, rfl, Nat.zero_le _, Nat.zero_le _⟩ rfl rfl (Nat.le_of_ble_eq_true rfl) rfl rfl (by decide) rfl rfl rfl ?_
    refine a_istore_n (pc := 206) ok dX7_readCommand_206 rfl (by rw [hN]; decide) ?_
    refine a_aload_n (pc := 207) ok dX7_readCommand_207 rfl ?_
    refine a_bipush (pc := 208) ok dX7_readCommand_208 (by decide) ?_
    refine a_iload_n (pc := 210) ok dX7_readCommand_210 rfl ?_
    refine a_iconst (pc := 211) ok dX7_readCommand_211 ?_
    refine a_icmp_ne (pc := 212) (tgt := 222) ok dX7_readCommand_212 (by decide) (by first | omega | (unfold rg; omega) | (simp only [rg] at *; omega) | exact bz_rg _ | grind [rg]) (by first | omega | (unfold rg; omega) | (simp only [rg] at *; omega) | exact bz_rg _ | grind [rg]) (fun c212 => ?_) (fun c212 => ?_)
    · refine a_iload_n (pc := 222) ok dX7_readCommand_222 rfl ?_
      refine a_rstS (pc := 223) ok dX7_readCommand_223 rfl ?_
      refine a_iload_n (pc := 224) ok dX7_readCommand_224 rfl ?_
      refine a_iconst (pc := 225) ok dX7_readCommand_225 ?_
      refine a_icmp_eq (pc := 226) (tgt := 233) ok dX7_readCommand_226 (by decide) (by first | omega | (unfold rg; omega) | (simp only [rg] at *; omega) | exact bz_rg _ | grind [rg]) (by first | omega | (unfold rg; omega) | (simp only [rg] at *; omega) | exact bz_rg _ | grind [rg]) (fun c226 => ?_) (fun c226 => ?_)
      · omega
      · refine a_iconst (pc := 229) ok dX7_readCommand_229 ?_
        refine a_goto (pc := 230) (tgt := 234) ok dX7_readCommand_230 (by decide) ?_
        exact a_zret (pc := 234) ok dX7_readCommand_234 (by first | rfl | exact nb_bz _ | exact @nb_bz _ (Classical.propDecidable _) | decide) (fin2)
    · omega
  · have g1 := fq_bad hn.2 hp.1 hb
    have fin2 := fin 109 1 S 0 gy ek (by omega) rfl (fun z => absurd z hb)
    rw [bz_neg hb, if_neg hb, if_neg hb, if_neg hb] at fin2
    refine a_aload_n (pc := 198) ok dX7_readCommand_198 rfl ?_
    refine a_iconst (pc := 199) ok dX7_readCommand_199 ?_
    refine a_iconst (pc := 200) ok dX7_readCommand_200 ?_
    refine a_bipush (pc := 201) ok dX7_readCommand_201 (by decide) ?_
    refine x_callVi (pc := 203) ok [0, 1, 2, 3, 4, 5, 6, 7, 8, 9, 10, 11, 12, 13, 14, 15, 16] 11 dX7_readCommand_203 mv7_204 miX7_figures (c_figuresR hn ht (by omega) (show fq tx sz 109 p 0 = (0, p + 1) from rfl) g1 rfl rfl (by unfold rg; omega)) ⟨by decide, by decide, rfl, rfl, Nat.zero_le _, Nat.zero_le _⟩ rfl rfl (Nat.le_of_ble_eq_true rfl) rfl rfl (by decide) rfl rfl rfl ?_
    refine a_istore_n (pc := 206) ok dX7_readCommand_206 rfl (by rw [hN]; decide) ?_
    refine a_aload_n (pc := 207) ok dX7_readCommand_207 rfl ?_
    refine a_bipush (pc := 208) ok dX7_readCommand_208 (by decide) ?_
    refine a_iload_n (pc := 210) ok dX7_readCommand_210 rfl ?_
    refine a_iconst (pc := 211) ok dX7_readCommand_211 ?_
    refine a_icmp_ne (pc := 212) (tgt := 222) ok dX7_readCommand_212 (by decide) (by first | omega | (unfold rg; omega) | (simp only [rg] at *; omega) | exact bz_rg _ | grind [rg]) (by first | omega | (unfold rg; omega) | (simp only [rg] at *; omega) | exact bz_rg _ | grind [rg]) (fun c212 => ?_) (fun c212 => ?_)
    · omega
    · refine a_aload_n (pc := 215) ok dX7_readCommand_215 rfl ?_
      refine a_bipush (pc := 216) ok dX7_readCommand_216 (by decide) ?_
      refine a_rldS (pc := 218) ok dX7_readCommand_218 rfl ?_
      refine a_goto (pc := 219) (tgt := 223) ok dX7_readCommand_219 (by decide) ?_
      refine a_rstS (pc := 223) ok dX7_readCommand_223 rfl ?_
      refine a_iload_n (pc := 224) ok dX7_readCommand_224 rfl ?_
      refine a_iconst (pc := 225) ok dX7_readCommand_225 ?_
      refine a_icmp_eq (pc := 226) (tgt := 233) ok dX7_readCommand_226 (by decide) (by first | omega | (unfold rg; omega) | (simp only [rg] at *; omega) | exact bz_rg _ | grind [rg]) (by first | omega | (unfold rg; omega) | (simp only [rg] at *; omega) | exact bz_rg _ | grind [rg]) (fun c226 => ?_) (fun c226 => ?_)
      · refine a_iconst (pc := 233) ok dX7_readCommand_233 ?_
        exact a_zret (pc := 234) ok dX7_readCommand_234 (by first | rfl | exact nb_bz _ | exact @nb_bz _ (Classical.propDecidable _) | decide) (fin2)
      · omega
theorem rc_s {p : Int} {X : Cx} (hN : nLof X = 4) (ok : OK X cX7_readCommand yX7_readCommand.cls (some .boolean) rmX7_readCommand (fun z M => z = some (iv (bz (wEr tx sz p 0 = -1))) ∧ ∃ gy' : Int → Int, M = (mtM rf sz (if wEr tx sz p 0 = -1 then exW tx sz p S else S) ac B I m Fi Co Br Wt mk (gy') sd rt lf wy (if wEr tx sz p 0 = -1 then wE tx sz p else wEr tx sz p 0) (if wEr tx sz p 0 = -1 then ou + (1 - okZ tx sz p S) else ou) tx)) 0 0) (hn : 0 ≤ sz ∧ sz ≤ 120) (ht : ∀ j, 0 ≤ tx j ∧ tx j ≤ 255) (hp : 0 ≤ p ∧ p < sz) (hS : SV S) : tx p = 115 → AW X 0 0 270 [some (.ref 0), some (.ref 1), some (iv 115), none] [] (mtM rf sz S ac B I m Fi Co Br Wt mk gy sd rt lf wy (p + 1) ou tx) := by
  obtain ⟨hd, hG, hT, hs, hnn, hle⟩ := id hS
  have hc := dim_cells hd
  have htp := ht p
  have hsg : sg tx sz p = tx p := if_pos hp
  have fin := rc_fin (rf := rf) (sz := sz) (S := S) (ac := ac) (B := B) (I := I) (m := m) (Fi := Fi) (Co := Co) (Br := Br) (Wt := Wt) (mk := mk) (sd := sd) (rt := rt) (lf := lf) (wy := wy) (ou := ou) (tx := tx) hp
  intro ek
  have l0 : loO 115 = 1 := rfl
  have h0 : hiO 115 ((0 : Nat) : Int) = 49 := rfl
  by_cases hb : dBad tx sz 115 p 1 = -1
  · have g0 := fq_good hn.2 hp.1 hb 0 (by omega) (p + 1) (by omega)
    obtain ⟨v, ev⟩ : ∃ x, x = nmA tx sz (p + 1) := ⟨_, rfl⟩
    rw [← ev] at g0
    have k0 := g0.2
    rw [l0, h0] at k0
    have eX : exW tx sz p S = gQ S v := by
      unfold exW
      rw [hsg, ek, if_neg (by omega), if_neg (by omega), if_neg (by omega), if_neg (by omega), if_neg (by omega), if_pos rfl, ← ev]
      exact if_pos k0
    have eZ : okZ tx sz p S = 1 := by
      unfold okZ
      rw [hsg, ek, if_neg (by omega), if_neg (by omega), if_neg (by omega), if_neg (by omega), if_neg (by omega), if_pos rfl, ← ev]
      exact bz_pos k0
    have fin2 := fin 115 1 (gQ S v) 1 (mapK (fun j => spF v (sG S j)) (sC S * sR S) gy) ek (by omega) rfl (fun _ => ⟨eX.symm, eZ.symm⟩)
    rw [bz_pos hb, if_pos hb, if_pos hb, if_pos hb, show p + 1 + 2 * ((1 : Nat) : Int) = p + 1 + 2 by omega] at fin2
    have hcr := cntK_rg (fun j => decide (spF v (sG S j) ≠ sG S j)) (sC S * sR S).toNat
    refine a_aload_n (pc := 270) ok dX7_readCommand_270 rfl ?_
    refine a_iconst (pc := 271) ok dX7_readCommand_271 ?_
    refine a_iconst (pc := 272) ok dX7_readCommand_272 ?_
    refine a_bipush (pc := 273) ok dX7_readCommand_273 (by decide) ?_
    refine x_callVi (pc := 275) ok [0, 1, 2, 3, 4, 5, 6, 7, 8, 9, 10, 11, 12, 13, 14, 15, 16] 11 dX7_readCommand_275 mv7_204 miX7_figures (c_figuresR hn ht (by omega) (show fq tx sz 115 p 0 = (0, p + 1) from rfl) g0.1 rfl rfl (by unfold rg; omega)) ⟨by decide, by decide, rfl, rfl, Nat.zero_le _, Nat.zero_le _⟩ rfl rfl (Nat.le_of_ble_eq_true rfl) rfl rfl (by decide) rfl rfl rfl ?_
    refine a_istore_n (pc := 278) ok dX7_readCommand_278 rfl (by rw [hN]; decide) ?_
    refine a_iload_n (pc := 279) ok dX7_readCommand_279 rfl ?_
    refine a_iconst (pc := 280) ok dX7_readCommand_280 ?_
    refine a_icmp_eq (pc := 281) (tgt := 309) ok dX7_readCommand_281 (by decide) (by first | omega | (unfold rg; omega) | (simp only [rg] at *; omega) | exact bz_rg _ | grind [rg]) (by first | omega | (unfold rg; omega) | (simp only [rg] at *; omega) | exact bz_rg _ | grind [rg]) (fun c281 => ?_) (fun c281 => ?_)
    · omega
    · refine AW.cast (M2 := (mtM rf sz S ac B I m Fi Co Br Wt mk gy sd rt lf wy (p + 1 + 2) ou tx)) ?_ rfl rfl rfl
      refine a_aload_n (pc := 284) ok dX7_readCommand_284 rfl ?_
      refine a_aload_n (pc := 285) ok dX7_readCommand_285 rfl ?_
      refine a_aload_n (pc := 286) ok dX7_readCommand_286 rfl ?_
      refine a_iload_n (pc := 287) ok dX7_readCommand_287 rfl ?_
      refine x_callVi (pc := 288) ok [0, 1, 2, 3, 4, 5, 6, 7, 8, 9, 11, 12, 10, 13, 14, 15, 16] 10 dX7_readCommand_288 mv7_237 miX7_spreadOn (c_spreadOn hd hG k0) ⟨by decide, by decide, rfl, rfl, Nat.zero_le _, Nat.zero_le _⟩ rfl rfl (Nat.le_of_ble_eq_true rfl) rfl rfl (by decide) rfl rfl rfl ?_
      refine AW.cast (M2 := (mtM rf sz (gQ S v) ac B I m Fi Co Br Wt mk (mapK (fun j => spF v (sG S j)) (sC S * sR S) gy) sd rt lf wy (p + 1 + 2) ou tx)) ?_ rfl rfl rfl
      refine a_if_lt (pc := 291) (tgt := 298) ok dX7_readCommand_291 (by decide) (by first | omega | (unfold rg; omega) | (simp only [rg] at *; omega) | exact bz_rg _ | grind [rg]) (fun c291 => ?_) (fun c291 => ?_)
      · omega
      · refine a_iconst (pc := 294) ok dX7_readCommand_294 ?_
        refine a_goto (pc := 295) (tgt := 299) ok dX7_readCommand_295 (by decide) ?_
        refine x_callVi (pc := 299) ok [0, 1, 2, 3, 4, 5, 6, 7, 8, 9, 10, 11, 12, 13, 14, 15, 16] 11 dX7_readCommand_299 mv7_216 miX7_done (c_done (Or.inr rfl)) ⟨by decide, by decide, rfl, rfl, Nat.zero_le _, Nat.zero_le _⟩ rfl rfl (Nat.le_of_ble_eq_true rfl) rfl rfl (by decide) rfl rfl rfl ?_
        refine a_if_eq (pc := 302) (tgt := 309) ok dX7_readCommand_302 (by decide) (by first | omega | (unfold rg; omega) | (simp only [rg] at *; omega) | exact bz_rg _ | grind [rg]) (fun c302 => ?_) (fun c302 => ?_)
        · omega
        · refine a_iconst (pc := 305) ok dX7_readCommand_305 ?_
          refine a_goto (pc := 306) (tgt := 310) ok dX7_readCommand_306 (by decide) ?_
          exact a_zret (pc := 310) ok dX7_readCommand_310 (by first | rfl | exact nb_bz _ | exact @nb_bz _ (Classical.propDecidable _) | decide) (fin2)
  · have g1 := fq_bad hn.2 hp.1 hb
    have fin2 := fin 115 1 S 0 gy ek (by omega) rfl (fun z => absurd z hb)
    rw [bz_neg hb, if_neg hb, if_neg hb, if_neg hb] at fin2
    refine a_aload_n (pc := 270) ok dX7_readCommand_270 rfl ?_
    refine a_iconst (pc := 271) ok dX7_readCommand_271 ?_
    refine a_iconst (pc := 272) ok dX7_readCommand_272 ?_
    refine a_bipush (pc := 273) ok dX7_readCommand_273 (by decide) ?_
    refine x_callVi (pc := 275) ok [0, 1, 2, 3, 4, 5, 6, 7, 8, 9, 10, 11, 12, 13, 14, 15, 16] 11 dX7_readCommand_275 mv7_204 miX7_figures (c_figuresR hn ht (by omega) (show fq tx sz 115 p 0 = (0, p + 1) from rfl) g1 rfl rfl (by unfold rg; omega)) ⟨by decide, by decide, rfl, rfl, Nat.zero_le _, Nat.zero_le _⟩ rfl rfl (Nat.le_of_ble_eq_true rfl) rfl rfl (by decide) rfl rfl rfl ?_
    refine a_istore_n (pc := 278) ok dX7_readCommand_278 rfl (by rw [hN]; decide) ?_
    refine a_iload_n (pc := 279) ok dX7_readCommand_279 rfl ?_
    refine a_iconst (pc := 280) ok dX7_readCommand_280 ?_
    refine a_icmp_eq (pc := 281) (tgt := 309) ok dX7_readCommand_281 (by decide) (by first | omega | (unfold rg; omega) | (simp only [rg] at *; omega) | exact bz_rg _ | grind [rg]) (by first | omega | (unfold rg; omega) | (simp only [rg] at *; omega) | exact bz_rg _ | grind [rg]) (fun c281 => ?_) (fun c281 => ?_)
    · refine a_iconst (pc := 309) ok dX7_readCommand_309 ?_
      exact a_zret (pc := 310) ok dX7_readCommand_310 (by first | rfl | exact nb_bz _ | exact @nb_bz _ (Classical.propDecidable _) | decide) (fin2)
    · omega
theorem rc_u {p : Int} {X : Cx} (hN : nLof X = 4) (ok : OK X cX7_readCommand yX7_readCommand.cls (some .boolean) rmX7_readCommand (fun z M => z = some (iv (bz (wEr tx sz p 0 = -1))) ∧ ∃ gy' : Int → Int, M = (mtM rf sz (if wEr tx sz p 0 = -1 then exW tx sz p S else S) ac B I m Fi Co Br Wt mk (gy') sd rt lf wy (if wEr tx sz p 0 = -1 then wE tx sz p else wEr tx sz p 0) (if wEr tx sz p 0 = -1 then ou + (1 - okZ tx sz p S) else ou) tx)) 0 0) (hn : 0 ≤ sz ∧ sz ≤ 120) (ht : ∀ j, 0 ≤ tx j ∧ tx j ≤ 255) (hp : 0 ≤ p ∧ p < sz) (hS : SV S) : tx p = 117 → AW X 0 0 235 [some (.ref 0), some (.ref 1), some (iv 117), none] [] (mtM rf sz S ac B I m Fi Co Br Wt mk gy sd rt lf wy (p + 1) ou tx) := by
  obtain ⟨hd, hG, hT, hs, hnn, hle⟩ := id hS
  have hc := dim_cells hd
  have htp := ht p
  have hsg : sg tx sz p = tx p := if_pos hp
  have fin := rc_fin (rf := rf) (sz := sz) (S := S) (ac := ac) (B := B) (I := I) (m := m) (Fi := Fi) (Co := Co) (Br := Br) (Wt := Wt) (mk := mk) (sd := sd) (rt := rt) (lf := lf) (wy := wy) (ou := ou) (tx := tx) hp
  intro ek
  have hb : dBad tx sz 117 p 0 = -1 := rfl
  have eX : exW tx sz p S = gU S := by
    unfold exW
    rw [hsg, ek, if_neg (by omega), if_neg (by omega), if_neg (by omega), if_neg (by omega), if_neg (by omega), if_neg (by omega), if_pos rfl]
  have eZ : okZ tx sz p S = 1 := by
    unfold okZ
    rw [hsg, ek, if_neg (by omega), if_neg (by omega), if_neg (by omega), if_neg (by omega), if_neg (by omega), if_neg (by omega)]
  have fin2 := fin 117 0 (gU S) 1 (mapK (blF (sC S) (sR S) (sG S)) (sC S * sR S) gy) ek (by omega) rfl (fun _ => ⟨eX.symm, eZ.symm⟩)
  rw [bz_pos hb, if_pos hb, if_pos hb, if_pos hb, show p + 1 + 2 * ((0 : Nat) : Int) = p + 1 by omega] at fin2
  have hcr := cntK_rg (fun j => decide (blF (sC S) (sR S) (sG S) j ≠ sG S j)) (sC S * sR S).toNat
  refine a_aload_n (pc := 235) ok dX7_readCommand_235 rfl ?_
  refine a_aload_n (pc := 236) ok dX7_readCommand_236 rfl ?_
  refine a_aload_n (pc := 237) ok dX7_readCommand_237 rfl ?_
  refine x_callVi (pc := 238) ok [0, 1, 2, 3, 4, 5, 6, 7, 8, 9, 11, 12, 10, 13, 14, 15, 16] 10 dX7_readCommand_238 mv7_231 miX7_blurOn (c_blurOn hd hG) ⟨by decide, by decide, rfl, rfl, Nat.zero_le _, Nat.zero_le _⟩ rfl rfl (Nat.le_of_ble_eq_true rfl) rfl rfl (by decide) rfl rfl rfl ?_
  refine AW.cast (M2 := (mtM rf sz (gU S) ac B I m Fi Co Br Wt mk (mapK (blF (sC S) (sR S) (sG S)) (sC S * sR S) gy) sd rt lf wy (p + 1) ou tx)) ?_ rfl rfl rfl
  refine a_if_lt (pc := 241) (tgt := 248) ok dX7_readCommand_241 (by decide) (by first | omega | (unfold rg; omega) | (simp only [rg] at *; omega) | exact bz_rg _ | grind [rg]) (fun c241 => ?_) (fun c241 => ?_)
  · omega
  · refine a_iconst (pc := 244) ok dX7_readCommand_244 ?_
    refine a_goto (pc := 245) (tgt := 249) ok dX7_readCommand_245 (by decide) ?_
    refine x_callVi (pc := 249) ok [0, 1, 2, 3, 4, 5, 6, 7, 8, 9, 10, 11, 12, 13, 14, 15, 16] 11 dX7_readCommand_249 mv7_216 miX7_done (c_done (Or.inr rfl)) ⟨by decide, by decide, rfl, rfl, Nat.zero_le _, Nat.zero_le _⟩ rfl rfl (Nat.le_of_ble_eq_true rfl) rfl rfl (by decide) rfl rfl rfl ?_
    exact a_zret (pc := 252) ok dX7_readCommand_252 (by first | rfl | exact nb_bz _ | exact @nb_bz _ (Classical.propDecidable _) | decide) (fin2)
theorem rc_i {p : Int} {X : Cx} (hN : nLof X = 4) (ok : OK X cX7_readCommand yX7_readCommand.cls (some .boolean) rmX7_readCommand (fun z M => z = some (iv (bz (wEr tx sz p 0 = -1))) ∧ ∃ gy' : Int → Int, M = (mtM rf sz (if wEr tx sz p 0 = -1 then exW tx sz p S else S) ac B I m Fi Co Br Wt mk (gy') sd rt lf wy (if wEr tx sz p 0 = -1 then wE tx sz p else wEr tx sz p 0) (if wEr tx sz p 0 = -1 then ou + (1 - okZ tx sz p S) else ou) tx)) 0 0) (hn : 0 ≤ sz ∧ sz ≤ 120) (ht : ∀ j, 0 ≤ tx j ∧ tx j ≤ 255) (hp : 0 ≤ p ∧ p < sz) (hS : SV S) : tx p = 105 → AW X 0 0 253 [some (.ref 0), some (.ref 1), some (iv 105), none] [] (mtM rf sz S ac B I m Fi Co Br Wt mk gy sd rt lf wy (p + 1) ou tx) := by
  obtain ⟨hd, hG, hT, hs, hnn, hle⟩ := id hS
  have hc := dim_cells hd
  have htp := ht p
  have hsg : sg tx sz p = tx p := if_pos hp
  have fin := rc_fin (rf := rf) (sz := sz) (S := S) (ac := ac) (B := B) (I := I) (m := m) (Fi := Fi) (Co := Co) (Br := Br) (Wt := Wt) (mk := mk) (sd := sd) (rt := rt) (lf := lf) (wy := wy) (ou := ou) (tx := tx) hp
  intro ek
  have hb : dBad tx sz 105 p 0 = -1 := rfl
  have eX : exW tx sz p S = gI S := by
    unfold exW
    rw [hsg, ek, if_neg (by omega), if_neg (by omega), if_neg (by omega), if_neg (by omega), if_neg (by omega), if_neg (by omega), if_neg (by omega)]
  have eZ : okZ tx sz p S = 1 := by
    unfold okZ
    rw [hsg, ek, if_neg (by omega), if_neg (by omega), if_neg (by omega), if_neg (by omega), if_neg (by omega), if_neg (by omega)]
  have fin2 := fin 105 0 (gI S) 1 gy ek (by omega) rfl (fun _ => ⟨eX.symm, eZ.symm⟩)
  rw [bz_pos hb, if_pos hb, if_pos hb, if_pos hb, show p + 1 + 2 * ((0 : Nat) : Int) = p + 1 by omega] at fin2
  have hsum := sumK_rg (f := mapK (fun j => 99 - sG S j) (sC S * sR S) (sG S)) (d := 99) (fun k => mapK_rg (fun i _ _ => by have := hG i; omega) hG k) (sC S * sR S).toNat
  refine a_aload_n (pc := 253) ok dX7_readCommand_253 rfl ?_
  refine a_aload_n (pc := 254) ok dX7_readCommand_254 rfl ?_
  refine a_callSi (pc := 255) ok [1] dX7_readCommand_255 mv7_234 miX7_invertOn (c_invertOn hd) ⟨by decide, by decide, rfl, rfl, Nat.zero_le _, Nat.zero_le _⟩ rfl rfl (Nat.le_of_ble_eq_true rfl) rfl (by decide) rfl ?_
  refine AW.cast (M2 := (mtM rf sz (gI S) ac B I m Fi Co Br Wt mk gy sd rt lf wy (p + 1) ou tx)) ?_ rfl rfl rfl
  refine a_if_lt (pc := 258) (tgt := 265) ok dX7_readCommand_258 (by decide) (by first | omega | (unfold rg; omega) | (simp only [rg] at *; omega) | exact bz_rg _ | grind [rg]) (fun c258 => ?_) (fun c258 => ?_)
  · omega
  · refine a_iconst (pc := 261) ok dX7_readCommand_261 ?_
    refine a_goto (pc := 262) (tgt := 266) ok dX7_readCommand_262 (by decide) ?_
    refine x_callVi (pc := 266) ok [0, 1, 2, 3, 4, 5, 6, 7, 8, 9, 10, 11, 12, 13, 14, 15, 16] 11 dX7_readCommand_266 mv7_216 miX7_done (c_done (Or.inr rfl)) ⟨by decide, by decide, rfl, rfl, Nat.zero_le _, Nat.zero_le _⟩ rfl rfl (Nat.le_of_ble_eq_true rfl) rfl rfl (by decide) rfl rfl rfl ?_
    exact a_zret (pc := 269) ok dX7_readCommand_269 (by first | rfl | exact nb_bz _ | exact @nb_bz _ (Classical.propDecidable _) | decide) (fin2)
theorem rc_d {p : Int} {X : Cx} (hN : nLof X = 4) (ok : OK X cX7_readCommand yX7_readCommand.cls (some .boolean) rmX7_readCommand (fun z M => z = some (iv (bz (wEr tx sz p 0 = -1))) ∧ ∃ gy' : Int → Int, M = (mtM rf sz (if wEr tx sz p 0 = -1 then exW tx sz p S else S) ac B I m Fi Co Br Wt mk (gy') sd rt lf wy (if wEr tx sz p 0 = -1 then wE tx sz p else wEr tx sz p 0) (if wEr tx sz p 0 = -1 then ou + (1 - okZ tx sz p S) else ou) tx)) 0 0) (hn : 0 ≤ sz ∧ sz ≤ 120) (ht : ∀ j, 0 ≤ tx j ∧ tx j ≤ 255) (hp : 0 ≤ p ∧ p < sz) (hS : SV S) : (tx p = 69 ∨ nuO (tx p) = -1) → AW X 0 0 311 [some (.ref 0), some (.ref 1), some (iv (tx p)), none] [] (mtM rf sz S ac B I m Fi Co Br Wt mk gy sd rt lf wy (p + 1) ou tx) := by
  obtain ⟨hd, hG, hT, hs, hnn, hle⟩ := id hS
  have hc := dim_cells hd
  have htp := ht p
  have hsg : sg tx sz p = tx p := if_pos hp
  have fin := rc_fin (rf := rf) (sz := sz) (S := S) (ac := ac) (B := B) (I := I) (m := m) (Fi := Fi) (Co := Co) (Br := Br) (Wt := Wt) (mk := mk) (sd := sd) (rt := rt) (lf := lf) (wy := wy) (ou := ou) (tx := tx) hp
  intro hk
  have hw := wEr_d hp rfl hk
  have hw2 : ¬ wEr tx sz p 0 = -1 := by omega
  rw [if_neg hw2, if_neg hw2, bz_neg hw2] at ok
  refine a_aload_n (pc := 311) ok dX7_readCommand_311 rfl ?_
  refine a_dup (pc := 312) ok dX7_readCommand_312 rfl ?_
  refine a_getf (pc := 313) ok dX7_readCommand_313 fl7_196 rfl rfl ?_
  refine a_iconst (pc := 316) ok dX7_readCommand_316 ?_
  refine a_isub (pc := 317) ok dX7_readCommand_317 ?_
  refine a_putf (pc := 318) ok dX7_readCommand_318 fp7_196 rfl (by first | rfl | decide) (by first | rfl | decide) (Nat.le_of_ble_eq_true rfl) ?_
  refine a_iconst (pc := 321) ok dX7_readCommand_321 ?_
  exact a_zret (pc := 322) ok dX7_readCommand_322 (by first | rfl | exact nb_bz _ | exact @nb_bz _ (Classical.propDecidable _) | decide) (⟨rfl, gy, by rw [if_neg hw2, hw, show p + 1 - 1 = p by omega]; rfl⟩)
theorem c_readCommand {p : Int} (hn : 0 ≤ sz ∧ sz ≤ 120) (ht : ∀ j, 0 ≤ tx j ∧ tx j ≤ 255) (hp : 0 ≤ p ∧ p < sz) (hS : SV S) : Ct l yX7_readCommand cX7_readCommand 4 (some .boolean) rmX7_readCommand [.ref 0, .ref 1] (mtM rf sz S ac B I m Fi Co Br Wt mk gy sd rt lf wy (p) ou tx)
    (fun z M => z = some (iv (bz (wEr tx sz p 0 = -1))) ∧ ∃ gy' : Int → Int, M = (mtM rf sz (if wEr tx sz p 0 = -1 then exW tx sz p S else S) ac B I m Fi Co Br Wt mk (gy') sd rt lf wy (if wEr tx sz p 0 = -1 then wE tx sz p else wEr tx sz p 0) (if wEr tx sz p 0 = -1 then ou + (1 - okZ tx sz p S) else ou) tx)) := by
  refine Ct.of miX7_readCommand (Nat.le_of_ble_eq_true rfl) ?_
  intro X hXl hN ok
  refine AW.cast (L2 := [some (.ref 0), some (.ref 1), none, none]) ?_ rfl rfl rfl
  obtain ⟨hd, hG, hT, hs, hnn, hle⟩ := id hS
  have hc := dim_cells hd
  have htp := ht p
  have hsg : sg tx sz p = tx p := if_pos hp
  have fin := rc_fin (rf := rf) (sz := sz) (S := S) (ac := ac) (B := B) (I := I) (m := m) (Fi := Fi) (Co := Co) (Br := Br) (Wt := Wt) (mk := mk) (sd := sd) (rt := rt) (lf := lf) (wy := wy) (ou := ou) (tx := tx) hp
  have tk := rc_t (gy := gy) hN ok hn ht hp hS
  have tm := rc_m (gy := gy) hN ok hn ht hp hS
  have ts := rc_s (gy := gy) hN ok hn ht hp hS
  have tu := rc_u (gy := gy) hN ok hn ht hp hS
  have ti := rc_i (gy := gy) hN ok hn ht hp hS
  have td := rc_d (gy := gy) hN ok hn ht hp hS
  have nd : ∀ k : Int, tx p = k → k ≠ 98 → k ≠ 105 → k ≠ 117 → k ≠ 107 → k ≠ 109 → k ≠ 115 → k ≠ 116 → k ≠ 112 → tx p = 69 ∨ nuO (tx p) = -1 := fun k e a1 a2 a3 a4 a5 a6 a7 a8 => by
    by_cases z : tx p = 69
    · exact Or.inl z
    · right; unfold nuO; rw [if_neg z, if_neg (by omega), if_neg (by omega), if_neg (by omega), if_neg (by omega)]
  refine a_aload_n (pc := 0) ok dX7_readCommand_0 rfl ?_
  refine a_getf (pc := 1) ok dX7_readCommand_1 fl7_7 rfl rfl ?_
  refine a_aload_n (pc := 4) ok dX7_readCommand_4 rfl ?_
  refine a_getf (pc := 5) ok dX7_readCommand_5 fl7_196 rfl rfl ?_
  refine a_iald (pc := 8) ok dX7_readCommand_8 rfl (by first | decide | omega) (by first | omega | (unfold rg; omega) | (simp only [rg] at *; omega) | exact bz_rg _ | grind [rg]) ?_
  refine a_istore_n (pc := 9) ok dX7_readCommand_9 rfl (by rw [hN]; decide) ?_
  refine a_aload_n (pc := 10) ok dX7_readCommand_10 rfl ?_
  refine a_dup (pc := 11) ok dX7_readCommand_11 rfl ?_
  refine a_getf (pc := 12) ok dX7_readCommand_12 fl7_196 rfl rfl ?_
  refine a_iconst (pc := 15) ok dX7_readCommand_15 ?_
  refine a_iadd (pc := 16) ok dX7_readCommand_16 ?_
  refine a_putf (pc := 17) ok dX7_readCommand_17 fp7_196 rfl (by first | rfl | decide) (by first | rfl | decide) (Nat.le_of_ble_eq_true rfl) ?_
  refine a_iload_n (pc := 20) ok dX7_readCommand_20 rfl ?_
  refine a_tab (pc := 21) (dt := 311) ok [122, 311, 311, 311, 311, 311, 311, 253, 311, 128, 311, 198, 311, 311, 116, 311, 311, 270, 128, 235] dX7_readCommand_21 (by decide) (by decide) (by decide) (by first | omega | (unfold rg; omega) | (simp only [rg] at *; omega) | exact bz_rg _ | grind [rg]) (fun j21 hj21 c21 => ?_) (fun c21 => ?_)
  · rcases (show j21 = 0 ∨ j21 = 1 ∨ j21 = 2 ∨ j21 = 3 ∨ j21 = 4 ∨ j21 = 5 ∨ j21 = 6 ∨ j21 = 7 ∨ j21 = 8 ∨ j21 = 9 ∨ j21 = 10 ∨ j21 = 11 ∨ j21 = 12 ∨ j21 = 13 ∨ j21 = 14 ∨ j21 = 15 ∨ j21 = 16 ∨ j21 = 17 ∨ j21 = 18 ∨ j21 = 19 by simp only [List.length_cons, List.length_nil] at hj21; omega) with rfl | rfl | rfl | rfl | rfl | rfl | rfl | rfl | rfl | rfl | rfl | rfl | rfl | rfl | rfl | rfl | rfl | rfl | rfl | rfl
    · refine a_aload_n (pc := 122) ok dX7_readCommand_122 rfl ?_
      refine a_aload_n (pc := 123) ok dX7_readCommand_123 rfl ?_
      refine x_callVi (pc := 124) ok [0, 1, 2, 3, 4, 5, 6, 7, 8, 9, 10, 11, 12, 13, 14, 15, 16] 11 dX7_readCommand_124 mv7_224 miX7_readBox (c_readBox hn ht hp hS) ⟨by decide, by decide, rfl, rfl, Nat.zero_le _, Nat.zero_le _⟩ rfl rfl (Nat.le_of_ble_eq_true rfl) rfl rfl (by decide) rfl rfl rfl ?_
      exact a_zret (pc := 127) ok dX7_readCommand_127 (by first | rfl | exact nb_bz _ | exact @nb_bz _ (Classical.propDecidable _) | decide) (by
have ek : tx p = 98 := by omega
have f := fin 98 5 (stB S (nmA tx sz (p + 1)) (nmA tx sz (p + 3)) (nmA tx sz (p + 5)) (nmA tx sz (p + 7)) (nmA tx sz (p + 9))) (bz (kB S (nmA tx sz (p + 1)) (nmA tx sz (p + 3)) (nmA tx sz (p + 5)) (nmA tx sz (p + 7)) (nmA tx sz (p + 9)))) gy ek (by omega) rfl (fun _ => ⟨by unfold exW; rw [hsg, ek, if_neg (by omega), if_pos rfl], by unfold okZ; rw [hsg, ek, if_neg (by omega), if_pos rfl]⟩)
rw [show p + 1 + 2 * ((5 : Nat) : Int) = p + 11 by omega] at f
exact f)
    · exact AW.cast (td (nd _ rfl (by omega) (by omega) (by omega) (by omega) (by omega) (by omega) (by omega) (by omega))) rfl rfl rfl
    · exact AW.cast (td (nd _ rfl (by omega) (by omega) (by omega) (by omega) (by omega) (by omega) (by omega) (by omega))) rfl rfl rfl
    · exact AW.cast (td (nd _ rfl (by omega) (by omega) (by omega) (by omega) (by omega) (by omega) (by omega) (by omega))) rfl rfl rfl
    · exact AW.cast (td (nd _ rfl (by omega) (by omega) (by omega) (by omega) (by omega) (by omega) (by omega) (by omega))) rfl rfl rfl
    · exact AW.cast (td (nd _ rfl (by omega) (by omega) (by omega) (by omega) (by omega) (by omega) (by omega) (by omega))) rfl rfl rfl
    · exact AW.cast (td (nd _ rfl (by omega) (by omega) (by omega) (by omega) (by omega) (by omega) (by omega) (by omega))) rfl rfl rfl
    · have ek : tx p = 105 := by omega
      exact AW.cast (ti ek) (by rw [ek]; rfl) rfl rfl
    · exact AW.cast (td (nd _ rfl (by omega) (by omega) (by omega) (by omega) (by omega) (by omega) (by omega) (by omega))) rfl rfl rfl
    · have ek : tx p = 107 := by omega
      exact AW.cast (tk 107 0 (Or.inr ⟨rfl, rfl⟩) ek) (by rw [ek]; rfl) rfl rfl
    · exact AW.cast (td (nd _ rfl (by omega) (by omega) (by omega) (by omega) (by omega) (by omega) (by omega) (by omega))) rfl rfl rfl
    · have ek : tx p = 109 := by omega
      exact AW.cast (tm ek) (by rw [ek]; rfl) rfl rfl
    · exact AW.cast (td (nd _ rfl (by omega) (by omega) (by omega) (by omega) (by omega) (by omega) (by omega) (by omega))) rfl rfl rfl
    · exact AW.cast (td (nd _ rfl (by omega) (by omega) (by omega) (by omega) (by omega) (by omega) (by omega) (by omega))) rfl rfl rfl
    · refine a_aload_n (pc := 116) ok dX7_readCommand_116 rfl ?_
      refine a_aload_n (pc := 117) ok dX7_readCommand_117 rfl ?_
      refine x_callVi (pc := 118) ok [0, 1, 2, 3, 4, 5, 6, 7, 8, 9, 10, 11, 12, 13, 14, 15, 16] 11 dX7_readCommand_118 mv7_220 miX7_readCell (c_readCell hn ht hp hS) ⟨by decide, by decide, rfl, rfl, Nat.zero_le _, Nat.zero_le _⟩ rfl rfl (Nat.le_of_ble_eq_true rfl) rfl rfl (by decide) rfl rfl rfl ?_
      exact a_zret (pc := 121) ok dX7_readCommand_121 (by first | rfl | exact nb_bz _ | exact @nb_bz _ (Classical.propDecidable _) | decide) (by
have ek : tx p = 112 := by omega
have f := fin 112 3 (stP S (nmA tx sz (p + 1)) (nmA tx sz (p + 3)) (nmA tx sz (p + 5))) (bz (kP S (nmA tx sz (p + 1)) (nmA tx sz (p + 3)) (nmA tx sz (p + 5)))) gy ek (by omega) rfl (fun _ => ⟨by unfold exW; rw [hsg, ek, if_pos rfl], by unfold okZ; rw [hsg, ek, if_pos rfl]⟩)
rw [show p + 1 + 2 * ((3 : Nat) : Int) = p + 7 by omega] at f
exact f)
    · exact AW.cast (td (nd _ rfl (by omega) (by omega) (by omega) (by omega) (by omega) (by omega) (by omega) (by omega))) rfl rfl rfl
    · exact AW.cast (td (nd _ rfl (by omega) (by omega) (by omega) (by omega) (by omega) (by omega) (by omega) (by omega))) rfl rfl rfl
    · have ek : tx p = 115 := by omega
      exact AW.cast (ts ek) (by rw [ek]; rfl) rfl rfl
    · have ek : tx p = 116 := by omega
      exact AW.cast (tk 116 1 (Or.inl ⟨rfl, rfl⟩) ek) (by rw [ek]; rfl) rfl rfl
    · have ek : tx p = 117 := by omega
      exact AW.cast (tu ek) (by rw [ek]; rfl) rfl rfl
  · exact AW.cast (td (nd _ rfl (by omega) (by omega) (by omega) (by omega) (by omega) (by omega) (by omega) (by omega))) rfl rfl rfl
/-- the words from the k-th on, done; how many left out -/
def xF (t : Int → Int) (n : Int) : Nat → Nat → St × Int → St × Int
  | 0, _, s => s
  | f + 1, k, s => if n ≤ wS t n k then s else xF t n f (k + 1) (exW t n (wS t n k) s.1, s.2 + (1 - okZ t n (wS t n k) s.1))
/-- the state that a text tells, and how many commands are left out -/
def xT (t : Int → Int) (n : Int) (T : Int → Int) : St × Int := xF t n 120 1 (st0 T (nmA t n 1) (nmA t n 3), 0)
theorem dX7_readText_0 : decode cX7_readText 0 = .ok (.aload_n 0, 1) := by decide +kernel
theorem dX7_readText_1 : decode cX7_readText 1 = .ok (.iconst 0, 1) := by decide +kernel
theorem dX7_readText_2 : decode cX7_readText 2 = .ok (.putfield 201, 3) := by decide +kernel
theorem dX7_readText_5 : decode cX7_readText 5 = .ok (.aload_n 0, 1) := by decide +kernel
theorem dX7_readText_6 : decode cX7_readText 6 = .ok (.iconst 0, 1) := by decide +kernel
theorem dX7_readText_7 : decode cX7_readText 7 = .ok (.putfield 196, 3) := by decide +kernel
theorem dX7_readText_10 : decode cX7_readText 10 = .ok (.aload_n 0, 1) := by decide +kernel
theorem dX7_readText_11 : decode cX7_readText 11 = .ok (.getfield 189, 3) := by decide +kernel
theorem dX7_readText_14 : decode cX7_readText 14 = .ok (.ifCond .eq 14, 3) := by decide +kernel
theorem dX7_readText_17 : decode cX7_readText 17 = .ok (.aload_n 0, 1) := by decide +kernel
theorem dX7_readText_18 : decode cX7_readText 18 = .ok (.getfield 7, 3) := by decide +kernel
theorem dX7_readText_21 : decode cX7_readText 21 = .ok (.iconst 0, 1) := by decide +kernel
theorem dX7_readText_22 : decode cX7_readText 22 = .ok (.iaload, 1) := by decide +kernel
theorem dX7_readText_23 : decode cX7_readText 23 = .ok (.bipush 69, 2) := by decide +kernel
theorem dX7_readText_25 : decode cX7_readText 25 = .ok (.if_icmp .eq 5, 3) := by decide +kernel
theorem dX7_readText_28 : decode cX7_readText 28 = .ok (.iconst 0, 1) := by decide +kernel
theorem dX7_readText_29 : decode cX7_readText 29 = .ok (.ireturn, 1) := by decide +kernel
theorem dX7_readText_30 : decode cX7_readText 30 = .ok (.aload_n 0, 1) := by decide +kernel
theorem dX7_readText_31 : decode cX7_readText 31 = .ok (.iconst 1, 1) := by decide +kernel
theorem dX7_readText_32 : decode cX7_readText 32 = .ok (.putfield 196, 3) := by decide +kernel
theorem dX7_readText_35 : decode cX7_readText 35 = .ok (.aload_n 0, 1) := by decide +kernel
theorem dX7_readText_36 : decode cX7_readText 36 = .ok (.iconst 0, 1) := by decide +kernel
theorem dX7_readText_37 : decode cX7_readText 37 = .ok (.iconst 1, 1) := by decide +kernel
theorem dX7_readText_38 : decode cX7_readText 38 = .ok (.bipush 12, 2) := by decide +kernel
theorem dX7_readText_40 : decode cX7_readText 40 = .ok (.invokevirtual 204, 3) := by decide +kernel
theorem dX7_readText_43 : decode cX7_readText 43 = .ok (.istore_n 2, 1) := by decide +kernel
theorem dX7_readText_44 : decode cX7_readText 44 = .ok (.aload_n 0, 1) := by decide +kernel
theorem dX7_readText_45 : decode cX7_readText 45 = .ok (.iload_n 2, 1) := by decide +kernel
theorem dX7_readText_46 : decode cX7_readText 46 = .ok (.iconst 1, 1) := by decide +kernel
theorem dX7_readText_47 : decode cX7_readText 47 = .ok (.bipush 12, 2) := by decide +kernel
theorem dX7_readText_49 : decode cX7_readText 49 = .ok (.invokevirtual 204, 3) := by decide +kernel
theorem dX7_readText_52 : decode cX7_readText 52 = .ok (.istore_n 3, 1) := by decide +kernel
theorem dX7_readText_53 : decode cX7_readText 53 = .ok (.iload_n 3, 1) := by decide +kernel
theorem dX7_readText_54 : decode cX7_readText 54 = .ok (.iconst (-1), 1) := by decide +kernel
theorem dX7_readText_55 : decode cX7_readText 55 = .ok (.if_icmp .ne 8, 3) := by decide +kernel
theorem dX7_readText_58 : decode cX7_readText 58 = .ok (.aload_n 0, 1) := by decide +kernel
theorem dX7_readText_59 : decode cX7_readText 59 = .ok (.getfield 196, 3) := by decide +kernel
theorem dX7_readText_62 : decode cX7_readText 62 = .ok (.ireturn, 1) := by decide +kernel
theorem dX7_readText_63 : decode cX7_readText 63 = .ok (.aload_n 1, 1) := by decide +kernel
theorem dX7_readText_64 : decode cX7_readText 64 = .ok (.iload_n 2, 1) := by decide +kernel
theorem dX7_readText_65 : decode cX7_readText 65 = .ok (.iload_n 3, 1) := by decide +kernel
theorem dX7_readText_66 : decode cX7_readText 66 = .ok (.invokestatic 56, 3) := by decide +kernel
theorem dX7_readText_69 : decode cX7_readText 69 = .ok (.aload_n 1, 1) := by decide +kernel
theorem dX7_readText_70 : decode cX7_readText 70 = .ok (.invokestatic 60, 3) := by decide +kernel
theorem dX7_readText_73 : decode cX7_readText 73 = .ok (.aload_n 0, 1) := by decide +kernel
theorem dX7_readText_74 : decode cX7_readText 74 = .ok (.getfield 196, 3) := by decide +kernel
theorem dX7_readText_77 : decode cX7_readText 77 = .ok (.aload_n 0, 1) := by decide +kernel
theorem dX7_readText_78 : decode cX7_readText 78 = .ok (.getfield 189, 3) := by decide +kernel
theorem dX7_readText_81 : decode cX7_readText 81 = .ok (.if_icmp .ge 16, 3) := by decide +kernel
theorem dX7_readText_84 : decode cX7_readText 84 = .ok (.aload_n 0, 1) := by decide +kernel
theorem dX7_readText_85 : decode cX7_readText 85 = .ok (.aload_n 1, 1) := by decide +kernel
theorem dX7_readText_86 : decode cX7_readText 86 = .ok (.invokevirtual 240, 3) := by decide +kernel
theorem dX7_readText_89 : decode cX7_readText 89 = .ok (.ifCond .ne (-16), 3) := by decide +kernel
theorem dX7_readText_92 : decode cX7_readText 92 = .ok (.aload_n 0, 1) := by decide +kernel
theorem dX7_readText_93 : decode cX7_readText 93 = .ok (.getfield 196, 3) := by decide +kernel
theorem dX7_readText_96 : decode cX7_readText 96 = .ok (.ireturn, 1) := by decide +kernel
theorem dX7_readText_97 : decode cX7_readText 97 = .ok (.iconst (-1), 1) := by decide +kernel
theorem dX7_readText_98 : decode cX7_readText 98 = .ok (.ireturn, 1) := by decide +kernel
theorem c_readText (hn : 0 ≤ sz ∧ sz ≤ 120) (ht : ∀ j, 0 ≤ tx j ∧ tx j ≤ 255) : Ct l yX7_readText cX7_readText 4 (some .int) rmX7_readText [.ref 0, .ref 1] (mtM rf sz S ac B I m Fi Co Br Wt mk gy sd rt lf wy sp ou tx)
    (fun z M => z = some (iv (eP tx sz)) ∧ ∃ (S' : St) (gy' : Int → Int) (sp' ou' : Int), M = (mtM rf sz (S') ac B I m Fi Co Br Wt mk (gy') sd rt lf wy (sp') (ou') tx) ∧ (eP tx sz = -1 → (S', ou') = xT tx sz (fun _ => 0))) := by
  refine Ct.of miX7_readText (Nat.le_of_ble_eq_true rfl) ?_
  intro X hXl hN ok
  refine AW.cast (L2 := [some (.ref 0), some (.ref 1), none, none]) ?_ rfl rfl rfl
  have e0 : eP tx sz = if wEr tx sz 0 1 ≠ -1 then wEr tx sz 0 1 else eF tx sz 120 1 := by
    show eF tx sz 121 0 = _
    have : eF tx sz 121 0 = if sz ≤ wS tx sz 0 ∧ 0 < 0 then -1 else if wEr tx sz (wS tx sz 0) (if 0 = 0 then 1 else 0) ≠ -1 then wEr tx sz (wS tx sz 0) (if 0 = 0 then 1 else 0) else eF tx sz 120 (0 + 1) := rfl
    rw [this, if_neg (by omega), if_pos rfl]
    rfl
  have ht0 := ht 0
  have hs0 : 0 < sz → sg tx sz 0 = tx 0 := fun z => if_pos ⟨Int.le_refl _, z⟩
  have noE : (sz = 0 ∨ tx 0 ≠ 69) → eP tx sz = 0 := fun z => by
    have : wEr tx sz 0 1 = 0 := wEr_no fun q => by
      have a := q.1
      have d := q.2.1
      rw [hs0 a] at d
      split at d <;> omega
    rw [e0, this, if_pos (by omega)]
  by_cases hE : 0 < sz ∧ tx 0 = 69
  · obtain ⟨hz, hE⟩ := hE
    have hw : wEr tx sz 0 1 = if dBad tx sz 69 0 2 = -1 then -1 else 0 + 1 + dBad tx sz 69 0 2 := by
      have h := wEr_ok (t := tx) (n := sz) (p := 0) (h := 1) ⟨hz, by rw [hs0 hz, if_pos hE], by rw [hs0 hz, hE]; decide⟩
      rw [hs0 hz, hE] at h
      exact h
    have l0 : loO 69 = 1 := rfl
    have h0 : hiO 69 ((0 : Nat) : Int) = 12 := rfl
    have h1 : hiO 69 ((1 : Nat) : Int) = 12 := rfl
    by_cases hb : dBad tx sz 69 0 2 = -1
    · rw [hw, if_pos hb, if_neg (by omega)] at e0
      have g0 := fq_good hn.2 (Int.le_refl 0) hb 0 (by omega) 1 (by omega)
      have g1 := fq_good hn.2 (Int.le_refl 0) hb 1 (by omega) 3 (by omega)
      obtain ⟨c, ec⟩ : ∃ x, x = nmA tx sz 1 := ⟨_, rfl⟩
      obtain ⟨r, er⟩ : ∃ x, x = nmA tx sz 3 := ⟨_, rfl⟩
      rw [← ec] at g0
      rw [← er] at g1
      have k0 := g0.2
      have k1 := g1.2
      rw [l0, h0] at k0
      rw [l0, h1] at k1
      have hd : dim c r := ⟨by omega, by omega, by omega, by omega⟩
      have eT : xT tx sz (fun _ => 0) = xF tx sz 120 1 (st0 (fun _ => 0) c r, 0) := by unfold xT; rw [← ec, ← er]
      have w1 : wS tx sz 1 = 5 := by
        show wE tx sz 0 = 5
        unfold wE
        rw [hs0 hz, hE]; rfl
      have loop : ∀ q : Nat × St × (Int → Int) × Int, (1 ≤ q.1 ∧ wS tx sz (q.1 - 1) < sz ∧ SV q.2.1 ∧ eP tx sz = eF tx sz (121 - q.1) q.1 ∧ xT tx sz (fun _ => 0) = xF tx sz (121 - q.1) q.1 (q.2.1, q.2.2.2)) →
          ∀ u v : Option Value, AW X 0 0 73 [some (.ref 0), some (.ref 1), u, v] [] (mtM rf sz (q.2.1) ac B I m Fi Co Br Wt mk (q.2.2.1) sd rt lf wy (wS tx sz q.1) (q.2.2.2) tx) := by
        refine wfl (fun q : Nat × St × (Int → Int) × Int => 121 - q.1) _ _ ?_
        rintro ⟨k, S, gy, ou⟩ ⟨q1, q2, q3, q4, q5⟩ ih u v
        dsimp only at q1 q2 q3 q4 q5 ih ⊢
        have hwk := wS_rg tx sz k
        have hwk1 := wS_rg tx sz (k - 1)
        have hwk2 : wS tx sz k ≤ wS tx sz (k - 1) + 11 := by have := hwk1.2; rw [show k - 1 + 1 = k by omega] at this; exact this
        have hk120 : k ≤ 120 := by omega
        have ek : eF tx sz (121 - k) k = if sz ≤ wS tx sz k ∧ 0 < k then -1 else if wEr tx sz (wS tx sz k) 0 ≠ -1 then wEr tx sz (wS tx sz k) 0 else eF tx sz (121 - (k + 1)) (k + 1) := by
          rw [show 121 - k = (121 - (k + 1)) + 1 by omega]
          show (if sz ≤ wS tx sz k ∧ 0 < k then -1 else if wEr tx sz (wS tx sz k) (if k = 0 then 1 else 0) ≠ -1 then wEr tx sz (wS tx sz k) (if k = 0 then 1 else 0) else eF tx sz (121 - (k + 1)) (k + 1)) = _
          rw [if_neg (show ¬ k = 0 by omega)]
        have xk : xF tx sz (121 - k) k (S, ou) = if sz ≤ wS tx sz k then (S, ou) else xF tx sz (121 - (k + 1)) (k + 1) (exW tx sz (wS tx sz k) S, ou + (1 - okZ tx sz (wS tx sz k) S)) := by
          rw [show 121 - k = (121 - (k + 1)) + 1 by omega]; rfl
        refine a_aload_n (pc := 73) ok dX7_readText_73 rfl ?_
        refine a_getf (pc := 74) ok dX7_readText_74 fl7_196 rfl rfl ?_
        refine a_aload_n (pc := 77) ok dX7_readText_77 rfl ?_
        refine a_getf (pc := 78) ok dX7_readText_78 fl7_189 rfl rfl ?_
        refine a_icmp_ge (pc := 81) (tgt := 97) ok dX7_readText_81 (by decide) (by first | omega | (unfold rg; omega) | (simp only [rg] at *; omega) | exact bz_rg _ | grind [rg]) (by first | omega | (unfold rg; omega) | (simp only [rg] at *; omega) | exact bz_rg _ | grind [rg]) (fun c81 => ?_) (fun c81 => ?_)
        · refine a_iconst (pc := 97) ok dX7_readText_97 ?_
          exact a_iret (pc := 98) ok dX7_readText_98 (⟨by rw [q4, ek, if_pos ⟨by omega, by omega⟩], S, gy, _, ou, rfl, fun _ => by rw [q5, xk, if_pos (by omega)]⟩)
        · refine a_aload_n (pc := 84) ok dX7_readText_84 rfl ?_
          refine a_aload_n (pc := 85) ok dX7_readText_85 rfl ?_
          refine x_callV (pc := 86) ok [0, 1, 2, 3, 4, 5, 6, 7, 8, 9, 10, 11, 12, 13, 14, 15, 16] 11 dX7_readText_86 mv7_240 miX7_readCommand (c_readCommand hn ht (by omega) q3) ⟨by decide, by decide, rfl, rfl, Nat.zero_le _, Nat.zero_le _⟩ rfl rfl (Nat.le_of_ble_eq_true rfl) rfl rfl (by decide) rfl rfl (fun v M' h => by obtain ⟨_, _, h⟩ := h; rw [h]; rfl) ?_
          rintro _ M' ⟨rfl, gy', rfl⟩
          rw [if_neg (by omega)] at ek xk
          refine AW.cast (st2 := [iv (bz (wEr tx sz (wS tx sz k) 0 = -1))]) (M2 := (mtM rf sz (if wEr tx sz (wS tx sz k) 0 = -1 then exW tx sz (wS tx sz k) S else S) ac B I m Fi Co Br Wt mk (gy') sd rt lf wy (if wEr tx sz (wS tx sz k) 0 = -1 then wE tx sz (wS tx sz k) else wEr tx sz (wS tx sz k) 0) (if wEr tx sz (wS tx sz k) 0 = -1 then ou + (1 - okZ tx sz (wS tx sz k) S) else ou) tx)) ?_ rfl rfl rfl
          refine a_if_ne (pc := 89) (tgt := 73) ok dX7_readText_89 (by decide) (by exact bz_rg _) (fun c89 => ?_) (fun c89 => ?_)
          · have hw1 : wEr tx sz (wS tx sz k) 0 = -1 := Classical.byContradiction fun z => c89 (bz_neg z)
            rw [if_neg (fun y => y hw1)] at ek
            refine AW.cast (ih (k + 1, exW tx sz (wS tx sz k) S, gy', ou + (1 - okZ tx sz (wS tx sz k) S)) ⟨by dsimp only; omega, by dsimp only; rw [show k + 1 - 1 = k by omega]; omega, SV_exW q3, by dsimp only; rw [q4, ek], by dsimp only; rw [q5, xk]⟩ (by dsimp only; omega) u v) rfl rfl ?_
            rw [if_pos hw1, if_pos hw1, if_pos hw1]; rfl
          · have hw1 : ¬ wEr tx sz (wS tx sz k) 0 = -1 := fun z => by rw [bz_pos z] at c89; exact absurd c89 (by decide)
            rw [if_pos hw1] at ek
            rw [if_neg hw1, if_neg hw1, if_neg hw1]
            refine a_aload_n (pc := 92) ok dX7_readText_92 rfl ?_
            refine a_getf (pc := 93) ok dX7_readText_93 fl7_196 rfl rfl ?_
            exact a_iret (pc := 96) ok dX7_readText_96 (⟨by rw [q4, ek], S, gy', _, ou, rfl, fun z => by rw [q4, ek] at z; exact absurd z hw1⟩)
      refine a_aload_n (pc := 0) ok dX7_readText_0 rfl ?_
      refine a_iconst (pc := 1) ok dX7_readText_1 ?_
      refine a_putf (pc := 2) ok dX7_readText_2 fp7_201 rfl (by first | rfl | decide) (by first | rfl | decide) (Nat.le_of_ble_eq_true rfl) ?_
      refine a_aload_n (pc := 5) ok dX7_readText_5 rfl ?_
      refine a_iconst (pc := 6) ok dX7_readText_6 ?_
      refine a_putf (pc := 7) ok dX7_readText_7 fp7_196 rfl (by first | rfl | decide) (by first | rfl | decide) (Nat.le_of_ble_eq_true rfl) ?_
      refine a_aload_n (pc := 10) ok dX7_readText_10 rfl ?_
      refine a_getf (pc := 11) ok dX7_readText_11 fl7_189 rfl rfl ?_
      refine a_if_eq (pc := 14) (tgt := 28) ok dX7_readText_14 (by decide) (by first | omega | (unfold rg; omega) | (simp only [rg] at *; omega) | exact bz_rg _ | grind [rg]) (fun c14 => ?_) (fun c14 => ?_)
      · omega
      · refine a_aload_n (pc := 17) ok dX7_readText_17 rfl ?_
        refine a_getf (pc := 18) ok dX7_readText_18 fl7_7 rfl rfl ?_
        refine a_iconst (pc := 21) ok dX7_readText_21 ?_
        refine a_iald (pc := 22) ok dX7_readText_22 rfl (by first | decide | omega) (by first | omega | (unfold rg; omega) | (simp only [rg] at *; omega) | exact bz_rg _ | grind [rg]) ?_
        refine a_bipush (pc := 23) ok dX7_readText_23 (by decide) ?_
        refine a_icmp_eq (pc := 25) (tgt := 30) ok dX7_readText_25 (by decide) (by first | omega | (unfold rg; omega) | (simp only [rg] at *; omega) | exact bz_rg _ | grind [rg]) (by first | omega | (unfold rg; omega) | (simp only [rg] at *; omega) | exact bz_rg _ | grind [rg]) (fun c25 => ?_) (fun c25 => ?_)
        · refine a_aload_n (pc := 30) ok dX7_readText_30 rfl ?_
          refine a_iconst (pc := 31) ok dX7_readText_31 ?_
          refine a_putf (pc := 32) ok dX7_readText_32 fp7_196 rfl (by first | rfl | decide) (by first | rfl | decide) (Nat.le_of_ble_eq_true rfl) ?_
          refine a_aload_n (pc := 35) ok dX7_readText_35 rfl ?_
          refine a_iconst (pc := 36) ok dX7_readText_36 ?_
          refine a_iconst (pc := 37) ok dX7_readText_37 ?_
          refine a_bipush (pc := 38) ok dX7_readText_38 (by decide) ?_
          refine x_callVi (pc := 40) ok [0, 1, 2, 3, 4, 5, 6, 7, 8, 9, 10, 11, 12, 13, 14, 15, 16] 11 dX7_readText_40 mv7_204 miX7_figures (c_figuresR hn ht (by omega) (show fq tx sz 69 0 0 = (0, 1) from rfl) g0.1 rfl rfl (by unfold rg; omega)) ⟨by decide, by decide, rfl, rfl, Nat.zero_le _, Nat.zero_le _⟩ rfl rfl (Nat.le_of_ble_eq_true rfl) rfl rfl (by decide) rfl rfl rfl ?_
          refine a_istore_n (pc := 43) ok dX7_readText_43 rfl (by rw [hN]; decide) ?_
          refine a_aload_n (pc := 44) ok dX7_readText_44 rfl ?_
          refine a_iload_n (pc := 45) ok dX7_readText_45 rfl ?_
          refine a_iconst (pc := 46) ok dX7_readText_46 ?_
          refine a_bipush (pc := 47) ok dX7_readText_47 (by decide) ?_
          refine x_callVi (pc := 49) ok [0, 1, 2, 3, 4, 5, 6, 7, 8, 9, 10, 11, 12, 13, 14, 15, 16] 11 dX7_readText_49 mv7_204 miX7_figures (c_figuresR hn ht (by omega) (by rw [g0.1]) g1.1 rfl rfl (by unfold rg; omega)) ⟨by decide, by decide, rfl, rfl, Nat.zero_le _, Nat.zero_le _⟩ rfl rfl (Nat.le_of_ble_eq_true rfl) rfl rfl (by decide) rfl rfl rfl ?_
          refine a_istore_n (pc := 52) ok dX7_readText_52 rfl (by rw [hN]; decide) ?_
          refine a_iload_n (pc := 53) ok dX7_readText_53 rfl ?_
          refine a_iconst (pc := 54) ok dX7_readText_54 ?_
          refine a_icmp_ne (pc := 55) (tgt := 63) ok dX7_readText_55 (by decide) (by first | omega | (unfold rg; omega) | (simp only [rg] at *; omega) | exact bz_rg _ | grind [rg]) (by first | omega | (unfold rg; omega) | (simp only [rg] at *; omega) | exact bz_rg _ | grind [rg]) (fun c55 => ?_) (fun c55 => ?_)
          · refine a_aload_n (pc := 63) ok dX7_readText_63 rfl ?_
            refine a_iload_n (pc := 64) ok dX7_readText_64 rfl ?_
            refine a_iload_n (pc := 65) ok dX7_readText_65 rfl ?_
            refine a_callSv (pc := 66) ok [1] dX7_readText_66 mv7_56 miX7_clear (c_clear) ⟨by decide, by decide, rfl, rfl, Nat.zero_le _, Nat.zero_le _⟩ rfl rfl (Nat.le_of_ble_eq_true rfl) rfl (by decide) rfl ?_
            refine a_aload_n (pc := 69) ok dX7_readText_69 rfl ?_
            refine a_callSv (pc := 70) ok [1] dX7_readText_70 mv7_60 miX7_firstSettings (c_firstSettings) ⟨by decide, by decide, rfl, rfl, Nat.zero_le _, Nat.zero_le _⟩ rfl rfl (Nat.le_of_ble_eq_true rfl) rfl (by decide) rfl ?_
            refine AW.forget (AW.cast (loop (1, st0 (fun _ => 0) c r, gy, 0) ⟨by dsimp only; omega, by dsimp only; show (0 : Int) < sz; exact hz, SV_st0 (fun _ => ⟨Int.le_refl _, by omega⟩) hd, e0, eT⟩ none none) rfl rfl (by dsimp only; rw [w1]; rfl)) (by repeat' (first | exact trivial | refine ⟨rfl, ?_⟩))
          · omega
        · omega
    · have hbr := dBad_rg (t := tx) (n := sz) (k := 69) (p := 0) 2
      rw [hw, if_neg hb, if_pos (by omega)] at e0
      have g2 := fq_bad hn.2 (Int.le_refl 0) hb
      have r1 := fq_rg (t := tx) (n := sz) (k := 69) (p := 0) 1
      obtain ⟨⟨v1, s1⟩, g1⟩ : ∃ q, q = fq tx sz 69 0 1 := ⟨_, rfl⟩
      rw [← g1] at r1
      dsimp only at r1
      refine a_aload_n (pc := 0) ok dX7_readText_0 rfl ?_
      refine a_iconst (pc := 1) ok dX7_readText_1 ?_
      refine a_putf (pc := 2) ok dX7_readText_2 fp7_201 rfl (by first | rfl | decide) (by first | rfl | decide) (Nat.le_of_ble_eq_true rfl) ?_
      refine a_aload_n (pc := 5) ok dX7_readText_5 rfl ?_
      refine a_iconst (pc := 6) ok dX7_readText_6 ?_
      refine a_putf (pc := 7) ok dX7_readText_7 fp7_196 rfl (by first | rfl | decide) (by first | rfl | decide) (Nat.le_of_ble_eq_true rfl) ?_
      refine a_aload_n (pc := 10) ok dX7_readText_10 rfl ?_
      refine a_getf (pc := 11) ok dX7_readText_11 fl7_189 rfl rfl ?_
      refine a_if_eq (pc := 14) (tgt := 28) ok dX7_readText_14 (by decide) (by first | omega | (unfold rg; omega) | (simp only [rg] at *; omega) | exact bz_rg _ | grind [rg]) (fun c14 => ?_) (fun c14 => ?_)
      · omega
      · refine a_aload_n (pc := 17) ok dX7_readText_17 rfl ?_
        refine a_getf (pc := 18) ok dX7_readText_18 fl7_7 rfl rfl ?_
        refine a_iconst (pc := 21) ok dX7_readText_21 ?_
        refine a_iald (pc := 22) ok dX7_readText_22 rfl (by first | decide | omega) (by first | omega | (unfold rg; omega) | (simp only [rg] at *; omega) | exact bz_rg _ | grind [rg]) ?_
        refine a_bipush (pc := 23) ok dX7_readText_23 (by decide) ?_
        refine a_icmp_eq (pc := 25) (tgt := 30) ok dX7_readText_25 (by decide) (by first | omega | (unfold rg; omega) | (simp only [rg] at *; omega) | exact bz_rg _ | grind [rg]) (by first | omega | (unfold rg; omega) | (simp only [rg] at *; omega) | exact bz_rg _ | grind [rg]) (fun c25 => ?_) (fun c25 => ?_)
        · refine a_aload_n (pc := 30) ok dX7_readText_30 rfl ?_
          refine a_iconst (pc := 31) ok dX7_readText_31 ?_
          refine a_putf (pc := 32) ok dX7_readText_32 fp7_196 rfl (by first | rfl | decide) (by first | rfl | decide) (Nat.le_of_ble_eq_true rfl) ?_
          refine a_aload_n (pc := 35) ok dX7_readText_35 rfl ?_
          refine a_iconst (pc := 36) ok dX7_readText_36 ?_
          refine a_iconst (pc := 37) ok dX7_readText_37 ?_
          refine a_bipush (pc := 38) ok dX7_readText_38 (by decide) ?_
          refine x_callVi (pc := 40) ok [0, 1, 2, 3, 4, 5, 6, 7, 8, 9, 10, 11, 12, 13, 14, 15, 16] 11 dX7_readText_40 mv7_204 miX7_figures (c_figuresR hn ht (by omega) (show fq tx sz 69 0 0 = (0, 1) from rfl) g1.symm rfl rfl (by unfold rg; omega)) ⟨by decide, by decide, rfl, rfl, Nat.zero_le _, Nat.zero_le _⟩ rfl rfl (Nat.le_of_ble_eq_true rfl) rfl rfl (by decide) rfl rfl rfl ?_
          refine a_istore_n (pc := 43) ok dX7_readText_43 rfl (by rw [hN]; decide) ?_
          refine a_aload_n (pc := 44) ok dX7_readText_44 rfl ?_
          refine a_iload_n (pc := 45) ok dX7_readText_45 rfl ?_
          refine a_iconst (pc := 46) ok dX7_readText_46 ?_
          refine a_bipush (pc := 47) ok dX7_readText_47 (by decide) ?_
          refine x_callVi (pc := 49) ok [0, 1, 2, 3, 4, 5, 6, 7, 8, 9, 10, 11, 12, 13, 14, 15, 16] 11 dX7_readText_49 mv7_204 miX7_figures (c_figuresR hn ht (by omega) g1.symm g2 rfl rfl (by unfold rg; omega)) ⟨by decide, by decide, rfl, rfl, Nat.zero_le _, Nat.zero_le _⟩ rfl rfl (Nat.le_of_ble_eq_true rfl) rfl rfl (by decide) rfl rfl rfl ?_
          refine a_istore_n (pc := 52) ok dX7_readText_52 rfl (by rw [hN]; decide) ?_
          refine a_iload_n (pc := 53) ok dX7_readText_53 rfl ?_
          refine a_iconst (pc := 54) ok dX7_readText_54 ?_
          refine a_icmp_ne (pc := 55) (tgt := 63) ok dX7_readText_55 (by decide) (by first | omega | (unfold rg; omega) | (simp only [rg] at *; omega) | exact bz_rg _ | grind [rg]) (by first | omega | (unfold rg; omega) | (simp only [rg] at *; omega) | exact bz_rg _ | grind [rg]) (fun c55 => ?_) (fun c55 => ?_)
          · omega
          · refine a_aload_n (pc := 58) ok dX7_readText_58 rfl ?_
            refine a_getf (pc := 59) ok dX7_readText_59 fl7_196 rfl rfl ?_
            exact a_iret (pc := 62) ok dX7_readText_62 (⟨by rw [e0], S, gy, _, 0, rfl, fun z => by omega⟩)
        · omega
  · have he := noE (by omega)
    rw [he] at ok
    refine a_aload_n (pc := 0) ok dX7_readText_0 rfl ?_
    refine a_iconst (pc := 1) ok dX7_readText_1 ?_
    refine a_putf (pc := 2) ok dX7_readText_2 fp7_201 rfl (by first | rfl | decide) (by first | rfl | decide) (Nat.le_of_ble_eq_true rfl) ?_
    refine a_aload_n (pc := 5) ok dX7_readText_5 rfl ?_
    refine a_iconst (pc := 6) ok dX7_readText_6 ?_
    refine a_putf (pc := 7) ok dX7_readText_7 fp7_196 rfl (by first | rfl | decide) (by first | rfl | decide) (Nat.le_of_ble_eq_true rfl) ?_
    refine a_aload_n (pc := 10) ok dX7_readText_10 rfl ?_
    refine a_getf (pc := 11) ok dX7_readText_11 fl7_189 rfl rfl ?_
    refine a_if_eq (pc := 14) (tgt := 28) ok dX7_readText_14 (by decide) (by first | omega | (unfold rg; omega) | (simp only [rg] at *; omega) | exact bz_rg _ | grind [rg]) (fun c14 => ?_) (fun c14 => ?_)
    · refine a_iconst (pc := 28) ok dX7_readText_28 ?_
      exact a_iret (pc := 29) ok dX7_readText_29 (⟨rfl, S, gy, 0, 0, rfl, fun z => by omega⟩)
    · refine a_aload_n (pc := 17) ok dX7_readText_17 rfl ?_
      refine a_getf (pc := 18) ok dX7_readText_18 fl7_7 rfl rfl ?_
      refine a_iconst (pc := 21) ok dX7_readText_21 ?_
      refine a_iald (pc := 22) ok dX7_readText_22 rfl (by first | decide | omega) (by first | omega | (unfold rg; omega) | (simp only [rg] at *; omega) | exact bz_rg _ | grind [rg]) ?_
      refine a_bipush (pc := 23) ok dX7_readText_23 (by decide) ?_
      refine a_icmp_eq (pc := 25) (tgt := 30) ok dX7_readText_25 (by decide) (by first | omega | (unfold rg; omega) | (simp only [rg] at *; omega) | exact bz_rg _ | grind [rg]) (by first | omega | (unfold rg; omega) | (simp only [rg] at *; omega) | exact bz_rg _ | grind [rg]) (fun c25 => ?_) (fun c25 => ?_)
      · omega
      · refine a_iconst (pc := 28) ok dX7_readText_28 ?_
        exact a_iret (pc := 29) ok dX7_readText_29 (⟨rfl, S, gy, 0, 0, rfl, fun z => by omega⟩)
end TM3
