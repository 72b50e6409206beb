/-! OUTLINES: the Model's walk. -/
section OW
variable {l : Launch} {rf sz c r : Int} {G T : Int → Int} {le : Int} {Hh : Int → Int} {li ac : Int} {B I : Int → Int} {m : Int} {Fi Co Br Wt mk gy : Int → Int} {sd rt lf wy sp ou : Int} {b : Int → Int}
theorem dX7_walk_0 : decode cX7_walk 0 = .ok (.aload_n 0, 1) := by decide +kernel
theorem dX7_walk_1 : decode cX7_walk 1 = .ok (.getfield 35, 3) := by decide +kernel
theorem dX7_walk_4 : decode cX7_walk 4 = .ok (.iload_n 2, 1) := by decide +kernel
theorem dX7_walk_5 : decode cX7_walk 5 = .ok (.iaload, 1) := by decide +kernel
theorem dX7_walk_6 : decode cX7_walk 6 = .ok (.aload_n 1, 1) := by decide +kernel
theorem dX7_walk_7 : decode cX7_walk 7 = .ok (.iconst 0, 1) := by decide +kernel
theorem dX7_walk_8 : decode cX7_walk 8 = .ok (.iaload, 1) := by decide +kernel
theorem dX7_walk_9 : decode cX7_walk 9 = .ok (.irem, 1) := by decide +kernel
theorem dX7_walk_10 : decode cX7_walk 10 = .ok (.istore 4, 2) := by decide +kernel
theorem dX7_walk_12 : decode cX7_walk 12 = .ok (.aload_n 0, 1) := by decide +kernel
theorem dX7_walk_13 : decode cX7_walk 13 = .ok (.getfield 35, 3) := by decide +kernel
theorem dX7_walk_16 : decode cX7_walk 16 = .ok (.iload_n 2, 1) := by decide +kernel
theorem dX7_walk_17 : decode cX7_walk 17 = .ok (.iaload, 1) := by decide +kernel
theorem dX7_walk_18 : decode cX7_walk 18 = .ok (.aload_n 1, 1) := by decide +kernel
theorem dX7_walk_19 : decode cX7_walk 19 = .ok (.iconst 0, 1) := by decide +kernel
theorem dX7_walk_20 : decode cX7_walk 20 = .ok (.iaload, 1) := by decide +kernel
theorem dX7_walk_21 : decode cX7_walk 21 = .ok (.idiv, 1) := by decide +kernel
theorem dX7_walk_22 : decode cX7_walk 22 = .ok (.istore 5, 2) := by decide +kernel
theorem dX7_walk_24 : decode cX7_walk 24 = .ok (.iload 4, 2) := by decide +kernel
theorem dX7_walk_26 : decode cX7_walk 26 = .ok (.istore 6, 2) := by decide +kernel
theorem dX7_walk_28 : decode cX7_walk 28 = .ok (.iload 5, 2) := by decide +kernel
theorem dX7_walk_30 : decode cX7_walk 30 = .ok (.istore 7, 2) := by decide +kernel
theorem dX7_walk_32 : decode cX7_walk 32 = .ok (.iconst 0, 1) := by decide +kernel
theorem dX7_walk_33 : decode cX7_walk 33 = .ok (.istore 8, 2) := by decide +kernel
theorem dX7_walk_35 : decode cX7_walk 35 = .ok (.aload_n 0, 1) := by decide +kernel
theorem dX7_walk_36 : decode cX7_walk 36 = .ok (.iconst 0, 1) := by decide +kernel
theorem dX7_walk_37 : decode cX7_walk 37 = .ok (.putfield 142, 3) := by decide +kernel
theorem dX7_walk_40 : decode cX7_walk 40 = .ok (.aload_n 0, 1) := by decide +kernel
theorem dX7_walk_41 : decode cX7_walk 41 = .ok (.iconst 0, 1) := by decide +kernel
theorem dX7_walk_42 : decode cX7_walk 42 = .ok (.putfield 145, 3) := by decide +kernel
theorem dX7_walk_45 : decode cX7_walk 45 = .ok (.aload_n 0, 1) := by decide +kernel
theorem dX7_walk_46 : decode cX7_walk 46 = .ok (.iconst 0, 1) := by decide +kernel
theorem dX7_walk_47 : decode cX7_walk 47 = .ok (.putfield 148, 3) := by decide +kernel
theorem dX7_walk_50 : decode cX7_walk 50 = .ok (.aload_n 0, 1) := by decide +kernel
theorem dX7_walk_51 : decode cX7_walk 51 = .ok (.iconst (-1), 1) := by decide +kernel
theorem dX7_walk_52 : decode cX7_walk 52 = .ok (.putfield 151, 3) := by decide +kernel
theorem dX7_walk_55 : decode cX7_walk 55 = .ok (.iconst 1, 1) := by decide +kernel
theorem dX7_walk_56 : decode cX7_walk 56 = .ok (.istore 9, 2) := by decide +kernel
theorem dX7_walk_58 : decode cX7_walk 58 = .ok (.iload 9, 2) := by decide +kernel
theorem dX7_walk_60 : decode cX7_walk 60 = .ok (.ifCond .eq 273, 3) := by decide +kernel
theorem dX7_walk_63 : decode cX7_walk 63 = .ok (.aload_n 0, 1) := by decide +kernel
theorem dX7_walk_64 : decode cX7_walk 64 = .ok (.aload_n 0, 1) := by decide +kernel
theorem dX7_walk_65 : decode cX7_walk 65 = .ok (.getfield 142, 3) := by decide +kernel
theorem dX7_walk_68 : decode cX7_walk 68 = .ok (.iload_n 3, 1) := by decide +kernel
theorem dX7_walk_69 : decode cX7_walk 69 = .ok (.if_icmp .ne 8, 3) := by decide +kernel
theorem dX7_walk_72 : decode cX7_walk 72 = .ok (.iload 8, 2) := by decide +kernel
theorem dX7_walk_74 : decode cX7_walk 74 = .ok (.goto 7, 3) := by decide +kernel
theorem dX7_walk_77 : decode cX7_walk 77 = .ok (.aload_n 0, 1) := by decide +kernel
theorem dX7_walk_78 : decode cX7_walk 78 = .ok (.getfield 151, 3) := by decide +kernel
theorem dX7_walk_81 : decode cX7_walk 81 = .ok (.putfield 151, 3) := by decide +kernel
theorem dX7_walk_84 : decode cX7_walk 84 = .ok (.aload_n 0, 1) := by decide +kernel
theorem dX7_walk_85 : decode cX7_walk 85 = .ok (.dup, 1) := by decide +kernel
theorem dX7_walk_86 : decode cX7_walk 86 = .ok (.getfield 142, 3) := by decide +kernel
theorem dX7_walk_89 : decode cX7_walk 89 = .ok (.iconst 1, 1) := by decide +kernel
theorem dX7_walk_90 : decode cX7_walk 90 = .ok (.iadd, 1) := by decide +kernel
theorem dX7_walk_91 : decode cX7_walk 91 = .ok (.putfield 142, 3) := by decide +kernel
theorem dX7_walk_94 : decode cX7_walk 94 = .ok (.iload 6, 2) := by decide +kernel
theorem dX7_walk_96 : decode cX7_walk 96 = .ok (.iload 8, 2) := by decide +kernel
theorem dX7_walk_98 : decode cX7_walk 98 = .ok (.ifCond .ne 7, 3) := by decide +kernel
theorem dX7_walk_101 : decode cX7_walk 101 = .ok (.iconst 1, 1) := by decide +kernel
theorem dX7_walk_102 : decode cX7_walk 102 = .ok (.goto 14, 3) := by decide +kernel
theorem dX7_walk_105 : decode cX7_walk 105 = .ok (.iload 8, 2) := by decide +kernel
theorem dX7_walk_107 : decode cX7_walk 107 = .ok (.iconst 2, 1) := by decide +kernel
theorem dX7_walk_108 : decode cX7_walk 108 = .ok (.if_icmp .ne 7, 3) := by decide +kernel
theorem dX7_walk_111 : decode cX7_walk 111 = .ok (.iconst (-1), 1) := by decide +kernel
theorem dX7_walk_112 : decode cX7_walk 112 = .ok (.goto 4, 3) := by decide +kernel
theorem dX7_walk_115 : decode cX7_walk 115 = .ok (.iconst 0, 1) := by decide +kernel
theorem dX7_walk_116 : decode cX7_walk 116 = .ok (.iadd, 1) := by decide +kernel
theorem dX7_walk_117 : decode cX7_walk 117 = .ok (.istore 6, 2) := by decide +kernel
theorem dX7_walk_119 : decode cX7_walk 119 = .ok (.iload 7, 2) := by decide +kernel
theorem dX7_walk_121 : decode cX7_walk 121 = .ok (.iload 8, 2) := by decide +kernel
theorem dX7_walk_123 : decode cX7_walk 123 = .ok (.iconst 1, 1) := by decide +kernel
theorem dX7_walk_124 : decode cX7_walk 124 = .ok (.if_icmp .ne 7, 3) := by decide +kernel
theorem dX7_walk_127 : decode cX7_walk 127 = .ok (.iconst 1, 1) := by decide +kernel
theorem dX7_walk_128 : decode cX7_walk 128 = .ok (.goto 19, 3) := by decide +kernel
theorem dX7_walk_131 : decode cX7_walk 131 = .ok (.iload 8, 2) := by decide +kernel
theorem dX7_walk_133 : decode cX7_walk 133 = .ok (.ifCond .eq 9, 3) := by decide +kernel
theorem dX7_walk_136 : decode cX7_walk 136 = .ok (.iload 8, 2) := by decide +kernel
theorem dX7_walk_138 : decode cX7_walk 138 = .ok (.iconst 2, 1) := by decide +kernel
theorem dX7_walk_139 : decode cX7_walk 139 = .ok (.if_icmp .ne 7, 3) := by decide +kernel
theorem dX7_walk_142 : decode cX7_walk 142 = .ok (.iconst 0, 1) := by decide +kernel
theorem dX7_walk_143 : decode cX7_walk 143 = .ok (.goto 4, 3) := by decide +kernel
theorem dX7_walk_146 : decode cX7_walk 146 = .ok (.iconst (-1), 1) := by decide +kernel
theorem dX7_walk_147 : decode cX7_walk 147 = .ok (.iadd, 1) := by decide +kernel
theorem dX7_walk_148 : decode cX7_walk 148 = .ok (.istore 7, 2) := by decide +kernel
theorem dX7_walk_150 : decode cX7_walk 150 = .ok (.iload 8, 2) := by decide +kernel
theorem dX7_walk_152 : decode cX7_walk 152 = .ok (.ifCond .eq 9, 3) := by decide +kernel
theorem dX7_walk_155 : decode cX7_walk 155 = .ok (.iload 8, 2) := by decide +kernel
theorem dX7_walk_157 : decode cX7_walk 157 = .ok (.iconst 2, 1) := by decide +kernel
theorem dX7_walk_158 : decode cX7_walk 158 = .ok (.if_icmp .le 8, 3) := by decide +kernel
theorem dX7_walk_161 : decode cX7_walk 161 = .ok (.iload 6, 2) := by decide +kernel
theorem dX7_walk_163 : decode cX7_walk 163 = .ok (.goto 7, 3) := by decide +kernel
theorem dX7_walk_166 : decode cX7_walk 166 = .ok (.iload 6, 2) := by decide +kernel
theorem dX7_walk_168 : decode cX7_walk 168 = .ok (.iconst 1, 1) := by decide +kernel
theorem dX7_walk_169 : decode cX7_walk 169 = .ok (.isub, 1) := by decide +kernel
theorem dX7_walk_170 : decode cX7_walk 170 = .ok (.istore 10, 2) := by decide +kernel
theorem dX7_walk_172 : decode cX7_walk 172 = .ok (.iload 8, 2) := by decide +kernel
theorem dX7_walk_174 : decode cX7_walk 174 = .ok (.ifCond .eq 9, 3) := by decide +kernel
theorem dX7_walk_177 : decode cX7_walk 177 = .ok (.iload 8, 2) := by decide +kernel
theorem dX7_walk_179 : decode cX7_walk 179 = .ok (.iconst 1, 1) := by decide +kernel
theorem dX7_walk_180 : decode cX7_walk 180 = .ok (.if_icmp .ne 8, 3) := by decide +kernel
theorem dX7_walk_183 : decode cX7_walk 183 = .ok (.iload 7, 2) := by decide +kernel
theorem dX7_walk_185 : decode cX7_walk 185 = .ok (.goto 7, 3) := by decide +kernel
theorem dX7_walk_188 : decode cX7_walk 188 = .ok (.iload 7, 2) := by decide +kernel
theorem dX7_walk_190 : decode cX7_walk 190 = .ok (.iconst 1, 1) := by decide +kernel
theorem dX7_walk_191 : decode cX7_walk 191 = .ok (.isub, 1) := by decide +kernel
theorem dX7_walk_192 : decode cX7_walk 192 = .ok (.istore 11, 2) := by decide +kernel
theorem dX7_walk_194 : decode cX7_walk 194 = .ok (.iload 8, 2) := by decide +kernel
theorem dX7_walk_196 : decode cX7_walk 196 = .ok (.ifCond .eq 9, 3) := by decide +kernel
theorem dX7_walk_199 : decode cX7_walk 199 = .ok (.iload 8, 2) := by decide +kernel
theorem dX7_walk_201 : decode cX7_walk 201 = .ok (.iconst 1, 1) := by decide +kernel
theorem dX7_walk_202 : decode cX7_walk 202 = .ok (.if_icmp .ne 8, 3) := by decide +kernel
theorem dX7_walk_205 : decode cX7_walk 205 = .ok (.iload 6, 2) := by decide +kernel
theorem dX7_walk_207 : decode cX7_walk 207 = .ok (.goto 7, 3) := by decide +kernel
theorem dX7_walk_210 : decode cX7_walk 210 = .ok (.iload 6, 2) := by decide +kernel
theorem dX7_walk_212 : decode cX7_walk 212 = .ok (.iconst 1, 1) := by decide +kernel
theorem dX7_walk_213 : decode cX7_walk 213 = .ok (.isub, 1) := by decide +kernel
theorem dX7_walk_214 : decode cX7_walk 214 = .ok (.istore 12, 2) := by decide +kernel
theorem dX7_walk_216 : decode cX7_walk 216 = .ok (.iload 8, 2) := by decide +kernel
theorem dX7_walk_218 : decode cX7_walk 218 = .ok (.iconst 1, 1) := by decide +kernel
theorem dX7_walk_219 : decode cX7_walk 219 = .ok (.if_icmp .eq 9, 3) := by decide +kernel
theorem dX7_walk_222 : decode cX7_walk 222 = .ok (.iload 8, 2) := by decide +kernel
theorem dX7_walk_224 : decode cX7_walk 224 = .ok (.iconst 2, 1) := by decide +kernel
theorem dX7_walk_225 : decode cX7_walk 225 = .ok (.if_icmp .ne 8, 3) := by decide +kernel
theorem dX7_walk_228 : decode cX7_walk 228 = .ok (.iload 7, 2) := by decide +kernel
theorem dX7_walk_230 : decode cX7_walk 230 = .ok (.goto 7, 3) := by decide +kernel
theorem dX7_walk_233 : decode cX7_walk 233 = .ok (.iload 7, 2) := by decide +kernel
theorem dX7_walk_235 : decode cX7_walk 235 = .ok (.iconst 1, 1) := by decide +kernel
theorem dX7_walk_236 : decode cX7_walk 236 = .ok (.isub, 1) := by decide +kernel
theorem dX7_walk_237 : decode cX7_walk 237 = .ok (.istore 13, 2) := by decide +kernel
theorem dX7_walk_239 : decode cX7_walk 239 = .ok (.aload_n 0, 1) := by decide +kernel
theorem dX7_walk_240 : decode cX7_walk 240 = .ok (.aload_n 1, 1) := by decide +kernel
theorem dX7_walk_241 : decode cX7_walk 241 = .ok (.iload_n 2, 1) := by decide +kernel
theorem dX7_walk_242 : decode cX7_walk 242 = .ok (.iload 10, 2) := by decide +kernel
theorem dX7_walk_244 : decode cX7_walk 244 = .ok (.iload 11, 2) := by decide +kernel
theorem dX7_walk_246 : decode cX7_walk 246 = .ok (.invokevirtual 154, 3) := by decide +kernel
theorem dX7_walk_249 : decode cX7_walk 249 = .ok (.ifCond .ne 24, 3) := by decide +kernel
theorem dX7_walk_252 : decode cX7_walk 252 = .ok (.iload 8, 2) := by decide +kernel
theorem dX7_walk_254 : decode cX7_walk 254 = .ok (.iconst 1, 1) := by decide +kernel
theorem dX7_walk_255 : decode cX7_walk 255 = .ok (.iadd, 1) := by decide +kernel
theorem dX7_walk_256 : decode cX7_walk 256 = .ok (.iconst 4, 1) := by decide +kernel
theorem dX7_walk_257 : decode cX7_walk 257 = .ok (.irem, 1) := by decide +kernel
theorem dX7_walk_258 : decode cX7_walk 258 = .ok (.istore 8, 2) := by decide +kernel
theorem dX7_walk_260 : decode cX7_walk 260 = .ok (.aload_n 0, 1) := by decide +kernel
theorem dX7_walk_261 : decode cX7_walk 261 = .ok (.dup, 1) := by decide +kernel
theorem dX7_walk_262 : decode cX7_walk 262 = .ok (.getfield 145, 3) := by decide +kernel
theorem dX7_walk_265 : decode cX7_walk 265 = .ok (.iconst 1, 1) := by decide +kernel
theorem dX7_walk_266 : decode cX7_walk 266 = .ok (.iadd, 1) := by decide +kernel
theorem dX7_walk_267 : decode cX7_walk 267 = .ok (.putfield 145, 3) := by decide +kernel
theorem dX7_walk_270 : decode cX7_walk 270 = .ok (.goto 34, 3) := by decide +kernel
theorem dX7_walk_273 : decode cX7_walk 273 = .ok (.aload_n 0, 1) := by decide +kernel
theorem dX7_walk_274 : decode cX7_walk 274 = .ok (.aload_n 1, 1) := by decide +kernel
theorem dX7_walk_275 : decode cX7_walk 275 = .ok (.iload_n 2, 1) := by decide +kernel
theorem dX7_walk_276 : decode cX7_walk 276 = .ok (.iload 12, 2) := by decide +kernel
theorem dX7_walk_278 : decode cX7_walk 278 = .ok (.iload 13, 2) := by decide +kernel
theorem dX7_walk_280 : decode cX7_walk 280 = .ok (.invokevirtual 154, 3) := by decide +kernel
theorem dX7_walk_283 : decode cX7_walk 283 = .ok (.ifCond .eq 21, 3) := by decide +kernel
theorem dX7_walk_286 : decode cX7_walk 286 = .ok (.iload 8, 2) := by decide +kernel
theorem dX7_walk_288 : decode cX7_walk 288 = .ok (.iconst 3, 1) := by decide +kernel
theorem dX7_walk_289 : decode cX7_walk 289 = .ok (.iadd, 1) := by decide +kernel
theorem dX7_walk_290 : decode cX7_walk 290 = .ok (.iconst 4, 1) := by decide +kernel
theorem dX7_walk_291 : decode cX7_walk 291 = .ok (.irem, 1) := by decide +kernel
theorem dX7_walk_292 : decode cX7_walk 292 = .ok (.istore 8, 2) := by decide +kernel
theorem dX7_walk_294 : decode cX7_walk 294 = .ok (.aload_n 0, 1) := by decide +kernel
theorem dX7_walk_295 : decode cX7_walk 295 = .ok (.dup, 1) := by decide +kernel
theorem dX7_walk_296 : decode cX7_walk 296 = .ok (.getfield 148, 3) := by decide +kernel
theorem dX7_walk_299 : decode cX7_walk 299 = .ok (.iconst 1, 1) := by decide +kernel
theorem dX7_walk_300 : decode cX7_walk 300 = .ok (.iadd, 1) := by decide +kernel
theorem dX7_walk_301 : decode cX7_walk 301 = .ok (.putfield 148, 3) := by decide +kernel
theorem dX7_walk_304 : decode cX7_walk 304 = .ok (.iload 6, 2) := by decide +kernel
theorem dX7_walk_306 : decode cX7_walk 306 = .ok (.iload 4, 2) := by decide +kernel
theorem dX7_walk_308 : decode cX7_walk 308 = .ok (.if_icmp .ne 15, 3) := by decide +kernel
theorem dX7_walk_311 : decode cX7_walk 311 = .ok (.iload 7, 2) := by decide +kernel
theorem dX7_walk_313 : decode cX7_walk 313 = .ok (.iload 5, 2) := by decide +kernel
theorem dX7_walk_315 : decode cX7_walk 315 = .ok (.if_icmp .ne 8, 3) := by decide +kernel
theorem dX7_walk_318 : decode cX7_walk 318 = .ok (.iload 8, 2) := by decide +kernel
theorem dX7_walk_320 : decode cX7_walk 320 = .ok (.ifCond .eq 7, 3) := by decide +kernel
theorem dX7_walk_323 : decode cX7_walk 323 = .ok (.iconst 1, 1) := by decide +kernel
theorem dX7_walk_324 : decode cX7_walk 324 = .ok (.goto 4, 3) := by decide +kernel
theorem dX7_walk_327 : decode cX7_walk 327 = .ok (.iconst 0, 1) := by decide +kernel
theorem dX7_walk_328 : decode cX7_walk 328 = .ok (.istore 9, 2) := by decide +kernel
theorem dX7_walk_330 : decode cX7_walk 330 = .ok (.goto (-272), 3) := by decide +kernel
theorem dX7_walk_333 : decode cX7_walk 333 = .ok (.return_, 1) := by decide +kernel
theorem c_walk {n L i a : Int} (hd : dim c r) (hL : cel c r L) (hl : lw c r b L = L) (hi : rk c r b L = i) (ha : rg a) (hJ : JW c r b B I m Fi Co) : Cd l yX7_walk cX7_walk 14 none rmX7_walk [.ref 0, .ref 1, iv i, iv a] (mdM rf sz c r G T n le Hh li ac B I m Fi Co Br Wt mk gy sd rt lf wy sp ou) none
    (mdM rf sz c r G T n le Hh li ac B I m Fi Co Br Wt mk gy (oN1 c r b L) (oR (inI c r b L) (o0 c L) (oN1 c r b L).toNat) (oL (inI c r b L) (o0 c L) (oN1 c r b L).toNat) (oA (inI c r b L) (o0 c L) a (oN1 c r b L).toNat) sp ou) := by
  refine Ct.of miX7_walk (Nat.le_of_ble_eq_true rfl) ?_
  intro X hXl hN ok
  refine AW.cast (L2 := [some (.ref 0), some (.ref 1), some (iv i), some (iv a), none, none, none, none, none, none, none, none, none, none]) ?_ rfl rfl rfl
  have hk := dim_k hd hL
  have hL1 := hL.1
  have hL2 := hL.2
  have hc := dim_cells hd
  have hm := mny_1 (B := b) hd
  have hrL := rk_mny hd hL hl
  have hV := o0_V hd hL hl
  have hO := oLen_ok hd inI_P hV
  have eN : oN1 c r b L = oLen (inI c r b L) (o0 c L) := rfl
  rw [← eN] at hO
  obtain ⟨d1, d2, d3, d4⟩ := id hd
  have eF := (hJ.2.2.2.2.2 L hL hl).1
  rw [hi] at eF hrL
  have fin : AW X 0 0 58 [some (.ref 0), some (.ref 1), some (iv i), some (iv a), some (iv (L % c)), some (iv (L / c)), none, none, none, some (iv 0), none, none, none, none] [] (mdM rf sz c r G T n le Hh li ac B I m Fi Co Br Wt mk gy (oN1 c r b L) (oR (inI c r b L) (o0 c L) (oN1 c r b L).toNat) (oL (inI c r b L) (o0 c L) (oN1 c r b L).toNat) (oA (inI c r b L) (o0 c L) a (oN1 c r b L).toNat) sp ou) := by
    refine a_iload (pc := 58) ok dX7_walk_58 rfl ?_
    refine a_if_eq (pc := 60) (tgt := 333) ok dX7_walk_60 (by decide) (by first | omega | (unfold rg; omega) | (simp only [rg] at *; omega) | exact bz_rg _ | grind [rg]) (fun c60 => ?_) (fun c60 => ?_)
    · exact a_vret (pc := 333) ok dX7_walk_333 (⟨rfl, rfl⟩)
    · exfalso; first | omega | grind
  have loop : ∀ k : Nat, (k : Int) < oN1 c r b L → AW X 0 0 58 [some (.ref 0), some (.ref 1), some (iv i), some (iv a), some (iv (L % c)), some (iv (L / c)), some (iv (oN (inI c r b L) (o0 c L) k).1), some (iv (oN (inI c r b L) (o0 c L) k).2.1), some (iv (oN (inI c r b L) (o0 c L) k).2.2), some (iv 1), none, none, none, none] []
      (mdM rf sz c r G T n le Hh li ac B I m Fi Co Br Wt mk gy (k) (oR (inI c r b L) (o0 c L) k) (oL (inI c r b L) (o0 c L) k) (oA (inI c r b L) (o0 c L) a k) sp ou) := by
    refine wfl (fun k : Nat => 577 - k) _ _ ?_
    intro k hk1 ih
    have hq := oN_rg hV hd inI_P k
    have hq1 := oN_rg hV hd inI_P (k + 1)
    have e1 : (oN (inI c r b L) (o0 c L) (k + 1)).1 = (oN (inI c r b L) (o0 c L) k).1 + dx (oN (inI c r b L) (o0 c L) k).2.2 := rfl
    have e2 : (oN (inI c r b L) (o0 c L) (k + 1)).2.1 = (oN (inI c r b L) (o0 c L) k).2.1 + dy (oN (inI c r b L) (o0 c L) k).2.2 := rfl
    have e3 : (oN (inI c r b L) (o0 c L) (k + 1)).2.2 = tn (cn (inI c r b L) (oN (inI c r b L) (o0 c L) (k + 1)).1 (oN (inI c r b L) (o0 c L) (k + 1)).2.1) (oN (inI c r b L) (o0 c L) k).2.2 := rfl
    have eA := oA_s (P := inI c r b L) (q := o0 c L) a k
    have eR : oR (inI c r b L) (o0 c L) (k + 1) = oR (inI c r b L) (o0 c L) k + if cn (inI c r b L) (oN (inI c r b L) (o0 c L) (k + 1)).1 (oN (inI c r b L) (o0 c L) (k + 1)).2.1 (oN (inI c r b L) (o0 c L) k).2.2 = false then 1 else 0 := rfl
    have eL : oL (inI c r b L) (o0 c L) (k + 1) = oL (inI c r b L) (o0 c L) k + if cn (inI c r b L) (oN (inI c r b L) (o0 c L) (k + 1)).1 (oN (inI c r b L) (o0 c L) (k + 1)).2.1 (oN (inI c r b L) (o0 c L) k).2.2 = true ∧ cn (inI c r b L) (oN (inI c r b L) (o0 c L) (k + 1)).1 (oN (inI c r b L) (o0 c L) (k + 1)).2.1 (((oN (inI c r b L) (o0 c L) k).2.2 + 3) % 4) = true then 1 else 0 := rfl
    have hback : (oN (inI c r b L) (o0 c L) (k + 1)).1 = L % c → (oN (inI c r b L) (o0 c L) (k + 1)).2.1 = L / c → (oN (inI c r b L) (o0 c L) (k + 1)).2.2 = 0 → ((k + 1 : Nat) : Int) = oN1 c r b L := fun z1 z2 z3 => by
      refine Classical.byContradiction fun z => hO.2.2.2 (k + 1) (by omega) (by omega) ?_
      exact Prod.ext z1 (Prod.ext z2 z3)
    have hgo : ¬ ((oN (inI c r b L) (o0 c L) (k + 1)).1 = L % c ∧ (oN (inI c r b L) (o0 c L) (k + 1)).2.1 = L / c ∧ (oN (inI c r b L) (o0 c L) (k + 1)).2.2 = 0) → ((k + 1 : Nat) : Int) < oN1 c r b L := fun z => by
      refine Classical.byContradiction fun y => z ?_
      have e : (oN1 c r b L).toNat = k + 1 := by omega
      have := hO.2.2.1
      rw [e] at this
      rw [this]
      exact ⟨rfl, rfl, rfl⟩
    obtain ⟨x, ex⟩ : ∃ x, x = (oN (inI c r b L) (o0 c L) k).1 := ⟨_, rfl⟩
    obtain ⟨y, ey⟩ : ∃ y, y = (oN (inI c r b L) (o0 c L) k).2.1 := ⟨_, rfl⟩
    obtain ⟨w, ew⟩ : ∃ w, w = (oN (inI c r b L) (o0 c L) k).2.2 := ⟨_, rfl⟩
    obtain ⟨x1, ex1⟩ : ∃ x, x = (oN (inI c r b L) (o0 c L) (k + 1)).1 := ⟨_, rfl⟩
    obtain ⟨y1, ey1⟩ : ∃ y, y = (oN (inI c r b L) (o0 c L) (k + 1)).2.1 := ⟨_, rfl⟩
    obtain ⟨w1, ew1⟩ : ∃ w, w = (oN (inI c r b L) (o0 c L) (k + 1)).2.2 := ⟨_, rfl⟩
    rw [← ex, ← ey, ← ew] at hq ⊢
    rw [← ew] at e1 e2 e3 eA eR eL
    rw [← ex1] at e1 e3 eR eL hback hgo
    rw [← ey1] at e2 e3 eR eL hback hgo
    rw [← ew1] at e3 hback hgo
    rw [← ex1, ← ey1, ← ew1] at hq1
    rw [← ex] at e1
    rw [← ey] at e2
    have ihk := fun h => ih (k + 1) h (by omega)
    rw [← ex1, ← ey1, ← ew1] at ihk
    have w3 : 0 ≤ (w + 3) % 4 ∧ (w + 3) % 4 < 4 := by omega
    have s304 : ∀ R2 L2 z : Int, z = w1 → R2 = oR (inI c r b L) (o0 c L) (k + 1) → L2 = oL (inI c r b L) (o0 c L) (k + 1) → ∀ u1 u2 u3 u4 : Option Value, AW X 0 0 304 [some (.ref 0), some (.ref 1), some (iv i), some (iv a), some (iv (L % c)), some (iv (L / c)), some (iv x1), some (iv y1), some (iv z), some (iv 1), u1, u2, u3, u4] [] (mdM rf sz c r G T n le Hh li ac B I m Fi Co Br Wt mk gy (k + 1) (R2) (L2) (oA (inI c r b L) (o0 c L) a (k + 1)) sp ou) := by
      intro R2 L2 z z1 z2 z3 u1 u2 u3 u4
      subst z1; subst z2; subst z3
      refine a_iload (pc := 304) ok dX7_walk_304 rfl ?_
      refine a_iload (pc := 306) ok dX7_walk_306 rfl ?_
      refine a_icmp_ne (pc := 308) (tgt := 323) ok dX7_walk_308 (by decide) (by first | omega | (unfold rg; omega) | (simp only [rg] at *; omega) | exact bz_rg _ | grind [rg]) (by first | omega | (unfold rg; omega) | (simp only [rg] at *; omega) | exact bz_rg _ | grind [rg]) (fun c308 => ?_) (fun c308 => ?_)
      · refine a_iconst (pc := 323) ok dX7_walk_323 ?_
        refine a_goto (pc := 324) (tgt := 328) ok dX7_walk_324 (by decide) ?_
        refine a_istore (pc := 328) ok dX7_walk_328 rfl (by rw [hN]; decide) ?_
        refine a_goto (pc := 330) (tgt := 58) ok dX7_walk_330 (by decide) ?_
        exact AW.forget (AW.cast (ihk (hgo (fun z => by omega))) rfl rfl rfl) (by repeat' (first | exact trivial | refine ⟨rfl, ?_⟩))
      · refine a_iload (pc := 311) ok dX7_walk_311 rfl ?_
        refine a_iload (pc := 313) ok dX7_walk_313 rfl ?_
        refine a_icmp_ne (pc := 315) (tgt := 323) ok dX7_walk_315 (by decide) (by first | omega | (unfold rg; omega) | (simp only [rg] at *; omega) | exact bz_rg _ | grind [rg]) (by first | omega | (unfold rg; omega) | (simp only [rg] at *; omega) | exact bz_rg _ | grind [rg]) (fun c315 => ?_) (fun c315 => ?_)
        · refine a_iconst (pc := 323) ok dX7_walk_323 ?_
          refine a_goto (pc := 324) (tgt := 328) ok dX7_walk_324 (by decide) ?_
          refine a_istore (pc := 328) ok dX7_walk_328 rfl (by rw [hN]; decide) ?_
          refine a_goto (pc := 330) (tgt := 58) ok dX7_walk_330 (by decide) ?_
          exact AW.forget (AW.cast (ihk (hgo (fun z => by omega))) rfl rfl rfl) (by repeat' (first | exact trivial | refine ⟨rfl, ?_⟩))
        · refine a_iload (pc := 318) ok dX7_walk_318 rfl ?_
          refine a_if_eq (pc := 320) (tgt := 327) ok dX7_walk_320 (by decide) (by first | omega | (unfold rg; omega) | (simp only [rg] at *; omega) | exact bz_rg _ | grind [rg]) (fun c320 => ?_) (fun c320 => ?_)
          · refine a_iconst (pc := 327) ok dX7_walk_327 ?_
            refine a_istore (pc := 328) ok dX7_walk_328 rfl (by rw [hN]; decide) ?_
            refine a_goto (pc := 330) (tgt := 58) ok dX7_walk_330 (by decide) ?_
            have ek := hback (by first | exact c308 | exact Decidable.not_not.mp c308) (by first | exact c315 | exact Decidable.not_not.mp c315) (by omega)
            have ek2 : k + 1 = (oN1 c r b L).toNat := by omega
            refine AW.forget (AW.cast fin rfl rfl ?_) (by repeat' (first | exact trivial | refine ⟨rfl, ?_⟩))
            rw [← ek2, ← ek]; rfl
          · refine a_iconst (pc := 323) ok dX7_walk_323 ?_
            refine a_goto (pc := 324) (tgt := 328) ok dX7_walk_324 (by decide) ?_
            refine a_istore (pc := 328) ok dX7_walk_328 rfl (by rw [hN]; decide) ?_
            refine a_goto (pc := 330) (tgt := 58) ok dX7_walk_330 (by decide) ?_
            exact AW.forget (AW.cast (ihk (hgo (fun z => by omega))) rfl rfl rfl) (by repeat' (first | exact trivial | refine ⟨rfl, ?_⟩))
    have s239 : ∀ z1 z2 z3 z4 : Int, z1 = rx x1 w → z2 = ry y1 w → z3 = rx x1 ((w + 3) % 4) → z4 = ry y1 ((w + 3) % 4) → AW X 0 0 239 [some (.ref 0), some (.ref 1), some (iv i), some (iv a), some (iv (L % c)), some (iv (L / c)), some (iv x1), some (iv y1), some (iv w), some (iv 1), some (iv z1), some (iv z2), some (iv z3), some (iv z4)] [] (mdM rf sz c r G T n le Hh li ac B I m Fi Co Br Wt mk gy (k + 1) (oR (inI c r b L) (o0 c L) k) (oL (inI c r b L) (o0 c L) k) (oA (inI c r b L) (o0 c L) a (k + 1)) sp ou) := by
      intro z1 z2 z3 z4 y1e y2e y3e y4e
      have g1 : x1 - 1 ≤ z1 ∧ z1 ≤ x1 := by rw [y1e]; unfold rx; split <;> omega
      have g2 : y1 - 1 ≤ z2 ∧ z2 ≤ y1 := by rw [y2e]; unfold ry; split <;> omega
      have g3 : x1 - 1 ≤ z3 ∧ z3 ≤ x1 := by rw [y3e]; unfold rx; split <;> omega
      have g4 : y1 - 1 ≤ z4 ∧ z4 ≤ y1 := by rw [y4e]; unfold ry; split <;> omega
      have q1 : cn (inI c r b L) x1 y1 w = true ↔ inI c r b L z1 z2 := by rw [y1e, y2e]; exact tr_t
      have q2 : cn (inI c r b L) x1 y1 ((w + 3) % 4) = true ↔ inI c r b L z3 z4 := by rw [y3e, y4e]; exact tr_t
      have f1 : ¬ inI c r b L z1 z2 → cn (inI c r b L) x1 y1 w = false := fun h => by
        cases h2 : cn (inI c r b L) x1 y1 w
        · rfl
        · exact absurd (q1.mp h2) h
      refine a_aload_n (pc := 239) ok dX7_walk_239 rfl ?_
      refine a_aload_n (pc := 240) ok dX7_walk_240 rfl ?_
      refine a_iload_n (pc := 241) ok dX7_walk_241 rfl ?_
      refine a_iload (pc := 242) ok dX7_walk_242 rfl ?_
      refine a_iload (pc := 244) ok dX7_walk_244 rfl ?_
      refine x_callVp (pc := 246) ok [0, 1, 2, 3, 4, 5, 6, 7, 8, 9, 10, 11, 12, 13, 14, 15, 16] 10 dX7_walk_246 mv7_154 miX7_isOf (c_isOf hd hL hl hi (by unfold rg; omega) (by unfold rg; omega) hJ) ⟨by decide, by decide, rfl, rfl, Nat.zero_le _, Nat.zero_le _⟩ rfl rfl (Nat.le_of_ble_eq_true rfl) rfl rfl (by decide) rfl rfl ?_
      refine a_if_ne (pc := 249) (tgt := 273) ok dX7_walk_249 (by decide) (by exact @bz_rg _ (Classical.propDecidable _)) (fun c249 => ?_) (fun c249 => ?_)
      · refine a_aload_n (pc := 273) ok dX7_walk_273 rfl ?_
        refine a_aload_n (pc := 274) ok dX7_walk_274 rfl ?_
        refine a_iload_n (pc := 275) ok dX7_walk_275 rfl ?_
        refine a_iload (pc := 276) ok dX7_walk_276 rfl ?_
        refine a_iload (pc := 278) ok dX7_walk_278 rfl ?_
        refine x_callVp (pc := 280) ok [0, 1, 2, 3, 4, 5, 6, 7, 8, 9, 10, 11, 12, 13, 14, 15, 16] 10 dX7_walk_280 mv7_154 miX7_isOf (c_isOf hd hL hl hi (by unfold rg; omega) (by unfold rg; omega) hJ) ⟨by decide, by decide, rfl, rfl, Nat.zero_le _, Nat.zero_le _⟩ rfl rfl (Nat.le_of_ble_eq_true rfl) rfl rfl (by decide) rfl rfl ?_
        refine a_if_eq (pc := 283) (tgt := 304) ok dX7_walk_283 (by decide) (by exact @bz_rg _ (Classical.propDecidable _)) (fun c283 => ?_) (fun c283 => ?_)
        · have h0 : inI c r b L z1 z2 := Classical.byContradiction fun z => c249 (@bz_neg _ (Classical.propDecidable _) z)
          have h1 := q1.mpr h0
          have h2 : ¬ cn (inI c r b L) x1 y1 ((w + 3) % 4) = true := fun z => by rw [@bz_pos _ (Classical.propDecidable _) (q2.mp z)] at c283; exact absurd c283 (by decide)
          exact AW.cast (s304 (oR (inI c r b L) (o0 c L) k) (oL (inI c r b L) (o0 c L) k) w (by rw [e3]; unfold tn; rw [if_neg (by rw [h1]; decide), if_neg h2]) (by rw [eR, if_neg (by rw [h1]; decide), Int.add_zero]) (by rw [eL, if_neg (fun z => h2 z.2), Int.add_zero]) _ _ _ _) rfl rfl rfl
        · refine a_iload (pc := 286) ok dX7_walk_286 rfl ?_
          refine a_iconst (pc := 288) ok dX7_walk_288 ?_
          refine a_iadd (pc := 289) ok dX7_walk_289 ?_
          refine a_iconst (pc := 290) ok dX7_walk_290 ?_
          refine a_irem (pc := 291) ok dX7_walk_291 (by first | omega | (unfold rg; omega) | (simp only [rg] at *; omega) | exact bz_rg _ | grind [rg]) (by first | omega | (unfold rg; omega) | (simp only [rg] at *; omega) | exact bz_rg _ | grind [rg]) ?_
          refine a_istore (pc := 292) ok dX7_walk_292 rfl (by rw [hN]; decide) ?_
          refine a_aload_n (pc := 294) ok dX7_walk_294 rfl ?_
          refine a_dup (pc := 295) ok dX7_walk_295 rfl ?_
          refine a_getf (pc := 296) ok dX7_walk_296 fl7_148 rfl rfl ?_
          refine a_iconst (pc := 299) ok dX7_walk_299 ?_
          refine a_iadd (pc := 300) ok dX7_walk_300 ?_
          refine a_putf (pc := 301) ok dX7_walk_301 fp7_148 rfl (by first | rfl | decide) (by first | rfl | decide) (Nat.le_of_ble_eq_true rfl) ?_
          have h0 : inI c r b L z1 z2 := Classical.byContradiction fun z => c249 (@bz_neg _ (Classical.propDecidable _) z)
          have h1 := q1.mpr h0
          have h2 : cn (inI c r b L) x1 y1 ((w + 3) % 4) = true := q2.mpr (Classical.byContradiction fun z => c283 (@bz_neg _ (Classical.propDecidable _) z))
          exact AW.cast (s304 (oR (inI c r b L) (o0 c L) k) (oL (inI c r b L) (o0 c L) k + 1) ((w + 3) % 4) (by rw [e3]; unfold tn; rw [if_neg (by rw [h1]; decide), if_pos h2]) (by rw [eR, if_neg (by rw [h1]; decide), Int.add_zero]) (by rw [eL, if_pos ⟨h1, h2⟩]) _ _ _ _) rfl rfl rfl
      · refine a_iload (pc := 252) ok dX7_walk_252 rfl ?_
        refine a_iconst (pc := 254) ok dX7_walk_254 ?_
        refine a_iadd (pc := 255) ok dX7_walk_255 ?_
        refine a_iconst (pc := 256) ok dX7_walk_256 ?_
        refine a_irem (pc := 257) ok dX7_walk_257 (by first | omega | (unfold rg; omega) | (simp only [rg] at *; omega) | exact bz_rg _ | grind [rg]) (by first | omega | (unfold rg; omega) | (simp only [rg] at *; omega) | exact bz_rg _ | grind [rg]) ?_
        refine a_istore (pc := 258) ok dX7_walk_258 rfl (by rw [hN]; decide) ?_
        refine a_aload_n (pc := 260) ok dX7_walk_260 rfl ?_
        refine a_dup (pc := 261) ok dX7_walk_261 rfl ?_
        refine a_getf (pc := 262) ok dX7_walk_262 fl7_145 rfl rfl ?_
        refine a_iconst (pc := 265) ok dX7_walk_265 ?_
        refine a_iadd (pc := 266) ok dX7_walk_266 ?_
        refine a_putf (pc := 267) ok dX7_walk_267 fp7_145 rfl (by first | rfl | decide) (by first | rfl | decide) (Nat.le_of_ble_eq_true rfl) ?_
        refine a_goto (pc := 270) (tgt := 304) ok dX7_walk_270 (by decide) ?_
        have h0 : ¬ inI c r b L z1 z2 := fun z => by rw [@bz_pos _ (Classical.propDecidable _) z] at c249; exact absurd c249 (by decide)
        have h1 := f1 h0
        exact AW.cast (s304 (oR (inI c r b L) (o0 c L) k + 1) (oL (inI c r b L) (o0 c L) k) ((w + 1) % 4) (by rw [e3]; unfold tn; rw [if_pos h1]) (by rw [eR, if_pos h1]) (by rw [eL, if_neg (fun z => by rw [h1] at z; exact absurd z.1 (by decide)), Int.add_zero]) _ _ _ _) rfl rfl rfl
    have s237 : ∀ z1 z2 z3 z4 : Int, z1 = rx x1 w → z2 = ry y1 w → z3 = rx x1 ((w + 3) % 4) → z4 = ry y1 ((w + 3) % 4) → AW X 0 0 237 [some (.ref 0), some (.ref 1), some (iv i), some (iv a), some (iv (L % c)), some (iv (L / c)), some (iv x1), some (iv y1), some (iv w), some (iv 1), some (iv z1), some (iv z2), some (iv z3), none] [iv z4] (mdM rf sz c r G T n le Hh li ac B I m Fi Co Br Wt mk gy (k + 1) (oR (inI c r b L) (o0 c L) k) (oL (inI c r b L) (o0 c L) k) (oA (inI c r b L) (o0 c L) a (k + 1)) sp ou) := by
      intro z1 z2 z3 z4 y1e y2e y3e y4e
      refine a_istore (pc := 237) ok dX7_walk_237 rfl (by rw [hN]; decide) ?_
      exact AW.cast (s239 z1 z2 z3 z4 y1e y2e y3e y4e) rfl rfl rfl
    have s214 : ∀ z1 z2 z3 : Int, z1 = rx x1 w → z2 = ry y1 w → z3 = rx x1 ((w + 3) % 4) → AW X 0 0 214 [some (.ref 0), some (.ref 1), some (iv i), some (iv a), some (iv (L % c)), some (iv (L / c)), some (iv x1), some (iv y1), some (iv w), some (iv 1), some (iv z1), some (iv z2), none, none] [iv z3] (mdM rf sz c r G T n le Hh li ac B I m Fi Co Br Wt mk gy (k + 1) (oR (inI c r b L) (o0 c L) k) (oL (inI c r b L) (o0 c L) k) (oA (inI c r b L) (o0 c L) a (k + 1)) sp ou) := by
      intro z1 z2 z3 y1e y2e y3e
      refine a_istore (pc := 214) ok dX7_walk_214 rfl (by rw [hN]; decide) ?_
      refine a_iload (pc := 216) ok dX7_walk_216 rfl ?_
      refine a_iconst (pc := 218) ok dX7_walk_218 ?_
      refine a_icmp_eq (pc := 219) (tgt := 228) ok dX7_walk_219 (by decide) (by first | omega | (unfold rg; omega) | (simp only [rg] at *; omega) | exact bz_rg _ | grind [rg]) (by first | omega | (unfold rg; omega) | (simp only [rg] at *; omega) | exact bz_rg _ | grind [rg]) (fun c219 => ?_) (fun c219 => ?_)
      · refine a_iload (pc := 228) ok dX7_walk_228 rfl ?_
        refine a_goto (pc := 230) (tgt := 237) ok dX7_walk_230 (by decide) ?_
        exact AW.cast (s237 z1 z2 z3 y1 y1e y2e y3e (by unfold ry; rw [if_neg (by omega)])) rfl rfl rfl
      · refine a_iload (pc := 222) ok dX7_walk_222 rfl ?_
        refine a_iconst (pc := 224) ok dX7_walk_224 ?_
        refine a_icmp_ne (pc := 225) (tgt := 233) ok dX7_walk_225 (by decide) (by first | omega | (unfold rg; omega) | (simp only [rg] at *; omega) | exact bz_rg _ | grind [rg]) (by first | omega | (unfold rg; omega) | (simp only [rg] at *; omega) | exact bz_rg _ | grind [rg]) (fun c225 => ?_) (fun c225 => ?_)
        · refine a_iload (pc := 233) ok dX7_walk_233 rfl ?_
          refine a_iconst (pc := 235) ok dX7_walk_235 ?_
          refine a_isub (pc := 236) ok dX7_walk_236 ?_
          exact AW.cast (s237 z1 z2 z3 (y1 - 1) y1e y2e y3e (by unfold ry; rw [if_pos (by omega)])) rfl rfl rfl
        · refine a_iload (pc := 228) ok dX7_walk_228 rfl ?_
          refine a_goto (pc := 230) (tgt := 237) ok dX7_walk_230 (by decide) ?_
          exact AW.cast (s237 z1 z2 z3 y1 y1e y2e y3e (by unfold ry; rw [if_neg (by omega)])) rfl rfl rfl
    have s192 : ∀ z1 z2 : Int, z1 = rx x1 w → z2 = ry y1 w → AW X 0 0 192 [some (.ref 0), some (.ref 1), some (iv i), some (iv a), some (iv (L % c)), some (iv (L / c)), some (iv x1), some (iv y1), some (iv w), some (iv 1), some (iv z1), none, none, none] [iv z2] (mdM rf sz c r G T n le Hh li ac B I m Fi Co Br Wt mk gy (k + 1) (oR (inI c r b L) (o0 c L) k) (oL (inI c r b L) (o0 c L) k) (oA (inI c r b L) (o0 c L) a (k + 1)) sp ou) := by
      intro z1 z2 y1e y2e
      refine a_istore (pc := 192) ok dX7_walk_192 rfl (by rw [hN]; decide) ?_
      refine a_iload (pc := 194) ok dX7_walk_194 rfl ?_
      refine a_if_eq (pc := 196) (tgt := 205) ok dX7_walk_196 (by decide) (by first | omega | (unfold rg; omega) | (simp only [rg] at *; omega) | exact bz_rg _ | grind [rg]) (fun c196 => ?_) (fun c196 => ?_)
      · refine a_iload (pc := 205) ok dX7_walk_205 rfl ?_
        refine a_goto (pc := 207) (tgt := 214) ok dX7_walk_207 (by decide) ?_
        exact AW.cast (s214 z1 z2 x1 y1e y2e (by unfold rx; rw [if_neg (by omega)])) rfl rfl rfl
      · refine a_iload (pc := 199) ok dX7_walk_199 rfl ?_
        refine a_iconst (pc := 201) ok dX7_walk_201 ?_
        refine a_icmp_ne (pc := 202) (tgt := 210) ok dX7_walk_202 (by decide) (by first | omega | (unfold rg; omega) | (simp only [rg] at *; omega) | exact bz_rg _ | grind [rg]) (by first | omega | (unfold rg; omega) | (simp only [rg] at *; omega) | exact bz_rg _ | grind [rg]) (fun c202 => ?_) (fun c202 => ?_)
        · refine a_iload (pc := 210) ok dX7_walk_210 rfl ?_
          refine a_iconst (pc := 212) ok dX7_walk_212 ?_
          refine a_isub (pc := 213) ok dX7_walk_213 ?_
          exact AW.cast (s214 z1 z2 (x1 - 1) y1e y2e (by unfold rx; rw [if_pos (by omega)])) rfl rfl rfl
        · refine a_iload (pc := 205) ok dX7_walk_205 rfl ?_
          refine a_goto (pc := 207) (tgt := 214) ok dX7_walk_207 (by decide) ?_
          exact AW.cast (s214 z1 z2 x1 y1e y2e (by unfold rx; rw [if_neg (by omega)])) rfl rfl rfl
    have s170 : ∀ z1 : Int, z1 = rx x1 w → AW X 0 0 170 [some (.ref 0), some (.ref 1), some (iv i), some (iv a), some (iv (L % c)), some (iv (L / c)), some (iv x1), some (iv y1), some (iv w), some (iv 1), none, none, none, none] [iv z1] (mdM rf sz c r G T n le Hh li ac B I m Fi Co Br Wt mk gy (k + 1) (oR (inI c r b L) (o0 c L) k) (oL (inI c r b L) (o0 c L) k) (oA (inI c r b L) (o0 c L) a (k + 1)) sp ou) := by
      intro z1 y1e
      refine a_istore (pc := 170) ok dX7_walk_170 rfl (by rw [hN]; decide) ?_
      refine a_iload (pc := 172) ok dX7_walk_172 rfl ?_
      refine a_if_eq (pc := 174) (tgt := 183) ok dX7_walk_174 (by decide) (by first | omega | (unfold rg; omega) | (simp only [rg] at *; omega) | exact bz_rg _ | grind [rg]) (fun c174 => ?_) (fun c174 => ?_)
      · refine a_iload (pc := 183) ok dX7_walk_183 rfl ?_
        refine a_goto (pc := 185) (tgt := 192) ok dX7_walk_185 (by decide) ?_
        exact AW.cast (s192 z1 y1 y1e (by unfold ry; rw [if_neg (by omega)])) rfl rfl rfl
      · refine a_iload (pc := 177) ok dX7_walk_177 rfl ?_
        refine a_iconst (pc := 179) ok dX7_walk_179 ?_
        refine a_icmp_ne (pc := 180) (tgt := 188) ok dX7_walk_180 (by decide) (by first | omega | (unfold rg; omega) | (simp only [rg] at *; omega) | exact bz_rg _ | grind [rg]) (by first | omega | (unfold rg; omega) | (simp only [rg] at *; omega) | exact bz_rg _ | grind [rg]) (fun c180 => ?_) (fun c180 => ?_)
        · refine a_iload (pc := 188) ok dX7_walk_188 rfl ?_
          refine a_iconst (pc := 190) ok dX7_walk_190 ?_
          refine a_isub (pc := 191) ok dX7_walk_191 ?_
          exact AW.cast (s192 z1 (y1 - 1) y1e (by unfold ry; rw [if_pos (by omega)])) rfl rfl rfl
        · refine a_iload (pc := 183) ok dX7_walk_183 rfl ?_
          refine a_goto (pc := 185) (tgt := 192) ok dX7_walk_185 (by decide) ?_
          exact AW.cast (s192 z1 y1 y1e (by unfold ry; rw [if_neg (by omega)])) rfl rfl rfl
    have s147 : ∀ z : Int, z = dy w → AW X 0 0 147 [some (.ref 0), some (.ref 1), some (iv i), some (iv a), some (iv (L % c)), some (iv (L / c)), some (iv x1), some (iv y), some (iv w), some (iv 1), none, none, none, none] [iv z, iv y] (mdM rf sz c r G T n le Hh li ac B I m Fi Co Br Wt mk gy (k + 1) (oR (inI c r b L) (o0 c L) k) (oL (inI c r b L) (o0 c L) k) (oA (inI c r b L) (o0 c L) a (k + 1)) sp ou) := by
      intro z ze
      subst ze
      refine a_iadd (pc := 147) ok dX7_walk_147 ?_
      rw [← e2]
      refine a_istore (pc := 148) ok dX7_walk_148 rfl (by rw [hN]; decide) ?_
      refine a_iload (pc := 150) ok dX7_walk_150 rfl ?_
      refine a_if_eq (pc := 152) (tgt := 161) ok dX7_walk_152 (by decide) (by first | omega | (unfold rg; omega) | (simp only [rg] at *; omega) | exact bz_rg _ | grind [rg]) (fun c152 => ?_) (fun c152 => ?_)
      · refine a_iload (pc := 161) ok dX7_walk_161 rfl ?_
        refine a_goto (pc := 163) (tgt := 170) ok dX7_walk_163 (by decide) ?_
        exact AW.cast (s170 x1 (by unfold rx; rw [if_neg (by omega)])) rfl rfl rfl
      · refine a_iload (pc := 155) ok dX7_walk_155 rfl ?_
        refine a_iconst (pc := 157) ok dX7_walk_157 ?_
        refine a_icmp_le (pc := 158) (tgt := 166) ok dX7_walk_158 (by decide) (by first | omega | (unfold rg; omega) | (simp only [rg] at *; omega) | exact bz_rg _ | grind [rg]) (by first | omega | (unfold rg; omega) | (simp only [rg] at *; omega) | exact bz_rg _ | grind [rg]) (fun c158 => ?_) (fun c158 => ?_)
        · refine a_iload (pc := 166) ok dX7_walk_166 rfl ?_
          refine a_iconst (pc := 168) ok dX7_walk_168 ?_
          refine a_isub (pc := 169) ok dX7_walk_169 ?_
          exact AW.cast (s170 (x1 - 1) (by unfold rx; rw [if_pos (by omega)])) rfl rfl rfl
        · refine a_iload (pc := 161) ok dX7_walk_161 rfl ?_
          refine a_goto (pc := 163) (tgt := 170) ok dX7_walk_163 (by decide) ?_
          exact AW.cast (s170 x1 (by unfold rx; rw [if_neg (by omega)])) rfl rfl rfl
    have s116 : ∀ z : Int, z = dx w → AW X 0 0 116 [some (.ref 0), some (.ref 1), some (iv i), some (iv a), some (iv (L % c)), some (iv (L / c)), some (iv x), some (iv y), some (iv w), some (iv 1), none, none, none, none] [iv z, iv x] (mdM rf sz c r G T n le Hh li ac B I m Fi Co Br Wt mk gy (k + 1) (oR (inI c r b L) (o0 c L) k) (oL (inI c r b L) (o0 c L) k) (oA (inI c r b L) (o0 c L) a (k + 1)) sp ou) := by
      intro z ze
      subst ze
      refine a_iadd (pc := 116) ok dX7_walk_116 ?_
      rw [← e1]
      refine a_istore (pc := 117) ok dX7_walk_117 rfl (by rw [hN]; decide) ?_
      refine a_iload (pc := 119) ok dX7_walk_119 rfl ?_
      refine a_iload (pc := 121) ok dX7_walk_121 rfl ?_
      refine a_iconst (pc := 123) ok dX7_walk_123 ?_
      refine a_icmp_ne (pc := 124) (tgt := 131) ok dX7_walk_124 (by decide) (by first | omega | (unfold rg; omega) | (simp only [rg] at *; omega) | exact bz_rg _ | grind [rg]) (by first | omega | (unfold rg; omega) | (simp only [rg] at *; omega) | exact bz_rg _ | grind [rg]) (fun c124 => ?_) (fun c124 => ?_)
      · refine a_iload (pc := 131) ok dX7_walk_131 rfl ?_
        refine a_if_eq (pc := 133) (tgt := 142) ok dX7_walk_133 (by decide) (by first | omega | (unfold rg; omega) | (simp only [rg] at *; omega) | exact bz_rg _ | grind [rg]) (fun c133 => ?_) (fun c133 => ?_)
        · refine a_iconst (pc := 142) ok dX7_walk_142 ?_
          refine a_goto (pc := 143) (tgt := 147) ok dX7_walk_143 (by decide) ?_
          exact AW.cast (s147 0 (by unfold dy; rw [if_neg (by omega), if_neg (by omega)])) rfl rfl rfl
        · refine a_iload (pc := 136) ok dX7_walk_136 rfl ?_
          refine a_iconst (pc := 138) ok dX7_walk_138 ?_
          refine a_icmp_ne (pc := 139) (tgt := 146) ok dX7_walk_139 (by decide) (by first | omega | (unfold rg; omega) | (simp only [rg] at *; omega) | exact bz_rg _ | grind [rg]) (by first | omega | (unfold rg; omega) | (simp only [rg] at *; omega) | exact bz_rg _ | grind [rg]) (fun c139 => ?_) (fun c139 => ?_)
          · refine a_iconst (pc := 146) ok dX7_walk_146 ?_
            exact AW.cast (s147 (-1) (by unfold dy; rw [if_neg (by omega), if_pos (by omega)])) rfl rfl rfl
          · refine a_iconst (pc := 142) ok dX7_walk_142 ?_
            refine a_goto (pc := 143) (tgt := 147) ok dX7_walk_143 (by decide) ?_
            exact AW.cast (s147 0 (by unfold dy; rw [if_neg (by omega), if_neg (by omega)])) rfl rfl rfl
      · refine a_iconst (pc := 127) ok dX7_walk_127 ?_
        refine a_goto (pc := 128) (tgt := 147) ok dX7_walk_128 (by decide) ?_
        exact AW.cast (s147 1 (by unfold dy; rw [if_pos (by omega)])) rfl rfl rfl
    have s81 : ∀ z : Int, z = oA (inI c r b L) (o0 c L) a (k + 1) → AW X 0 0 81 [some (.ref 0), some (.ref 1), some (iv i), some (iv a), some (iv (L % c)), some (iv (L / c)), some (iv x), some (iv y), some (iv w), some (iv 1), none, none, none, none] [iv z, .ref 0] (mdM rf sz c r G T n le Hh li ac B I m Fi Co Br Wt mk gy (k) (oR (inI c r b L) (o0 c L) k) (oL (inI c r b L) (o0 c L) k) (oA (inI c r b L) (o0 c L) a k) sp ou) := by
      intro z ze
      subst ze
      refine a_putf (pc := 81) ok dX7_walk_81 fp7_151 rfl (by first | rfl | decide) (by first | rfl | decide) (Nat.le_of_ble_eq_true rfl) ?_
      refine a_aload_n (pc := 84) ok dX7_walk_84 rfl ?_
      refine a_dup (pc := 85) ok dX7_walk_85 rfl ?_
      refine a_getf (pc := 86) ok dX7_walk_86 fl7_142 rfl rfl ?_
      refine a_iconst (pc := 89) ok dX7_walk_89 ?_
      refine a_iadd (pc := 90) ok dX7_walk_90 ?_
      refine a_putf (pc := 91) ok dX7_walk_91 fp7_142 rfl (by first | rfl | decide) (by first | rfl | decide) (Nat.le_of_ble_eq_true rfl) ?_
      refine a_iload (pc := 94) ok dX7_walk_94 rfl ?_
      refine a_iload (pc := 96) ok dX7_walk_96 rfl ?_
      refine a_if_ne (pc := 98) (tgt := 105) ok dX7_walk_98 (by decide) (by first | omega | (unfold rg; omega) | (simp only [rg] at *; omega) | exact bz_rg _ | grind [rg]) (fun c98 => ?_) (fun c98 => ?_)
      · refine a_iload (pc := 105) ok dX7_walk_105 rfl ?_
        refine a_iconst (pc := 107) ok dX7_walk_107 ?_
        refine a_icmp_ne (pc := 108) (tgt := 115) ok dX7_walk_108 (by decide) (by first | omega | (unfold rg; omega) | (simp only [rg] at *; omega) | exact bz_rg _ | grind [rg]) (by first | omega | (unfold rg; omega) | (simp only [rg] at *; omega) | exact bz_rg _ | grind [rg]) (fun c108 => ?_) (fun c108 => ?_)
        · refine a_iconst (pc := 115) ok dX7_walk_115 ?_
          exact AW.cast (s116 0 (by unfold dx; rw [if_neg (by omega), if_neg (by omega)])) rfl rfl rfl
        · refine a_iconst (pc := 111) ok dX7_walk_111 ?_
          refine a_goto (pc := 112) (tgt := 116) ok dX7_walk_112 (by decide) ?_
          exact AW.cast (s116 (-1) (by unfold dx; rw [if_neg (by omega), if_pos (by omega)])) rfl rfl rfl
      · refine a_iconst (pc := 101) ok dX7_walk_101 ?_
        refine a_goto (pc := 102) (tgt := 116) ok dX7_walk_102 (by decide) ?_
        exact AW.cast (s116 1 (by unfold dx; rw [if_pos (by omega)])) rfl rfl rfl
    refine a_iload (pc := 58) ok dX7_walk_58 rfl ?_
    refine a_if_eq (pc := 60) (tgt := 333) ok dX7_walk_60 (by decide) (by first | omega | (unfold rg; omega) | (simp only [rg] at *; omega) | exact bz_rg _ | grind [rg]) (fun c60 => ?_) (fun c60 => ?_)
    · exfalso; first | omega | grind
    · refine a_aload_n (pc := 63) ok dX7_walk_63 rfl ?_
      refine a_aload_n (pc := 64) ok dX7_walk_64 rfl ?_
      refine a_getf (pc := 65) ok dX7_walk_65 fl7_142 rfl rfl ?_
      refine a_iload_n (pc := 68) ok dX7_walk_68 rfl ?_
      refine a_icmp_ne (pc := 69) (tgt := 77) ok dX7_walk_69 (by decide) (by first | omega | (unfold rg; omega) | (simp only [rg] at *; omega) | exact bz_rg _ | grind [rg]) (by first | omega | (unfold rg; omega) | (simp only [rg] at *; omega) | exact bz_rg _ | grind [rg]) (fun c69 => ?_) (fun c69 => ?_)
      · refine a_aload_n (pc := 77) ok dX7_walk_77 rfl ?_
        refine a_getf (pc := 78) ok dX7_walk_78 fl7_151 rfl rfl ?_
        exact AW.cast (s81 _ (by rw [eA, if_neg (by omega)])) rfl rfl rfl
      · refine a_iload (pc := 72) ok dX7_walk_72 rfl ?_
        refine a_goto (pc := 74) (tgt := 81) ok dX7_walk_74 (by decide) ?_
        exact AW.cast (s81 w (by rw [eA, if_pos (by omega)])) rfl rfl rfl
  refine a_aload_n (pc := 0) ok dX7_walk_0 rfl ?_
  refine a_getf (pc := 1) ok dX7_walk_1 fl7_35 rfl rfl ?_
  refine a_iload_n (pc := 4) ok dX7_walk_4 rfl ?_
  refine a_iald (pc := 5) ok dX7_walk_5 rfl (by first | decide | omega) (by first | omega | (unfold rg; omega) | (simp only [rg] at *; omega) | exact bz_rg _ | grind [rg]) ?_
  rw [eF]
  refine a_aload_n (pc := 6) ok dX7_walk_6 rfl ?_
  refine a_iconst (pc := 7) ok dX7_walk_7 ?_
  refine a_rldC (pc := 8) ok dX7_walk_8 rfl ?_
  refine a_irem (pc := 9) ok dX7_walk_9 (by first | omega | (unfold rg; omega) | (simp only [rg] at *; omega) | exact bz_rg _ | grind [rg]) (by first | omega | (unfold rg; omega) | (simp only [rg] at *; omega) | exact bz_rg _ | grind [rg]) ?_
  refine a_istore (pc := 10) ok dX7_walk_10 rfl (by rw [hN]; decide) ?_
  refine a_aload_n (pc := 12) ok dX7_walk_12 rfl ?_
  refine a_getf (pc := 13) ok dX7_walk_13 fl7_35 rfl rfl ?_
  refine a_iload_n (pc := 16) ok dX7_walk_16 rfl ?_
  refine a_iald (pc := 17) ok dX7_walk_17 rfl (by first | decide | omega) (by first | omega | (unfold rg; omega) | (simp only [rg] at *; omega) | exact bz_rg _ | grind [rg]) ?_
  rw [eF]
  refine a_aload_n (pc := 18) ok dX7_walk_18 rfl ?_
  refine a_iconst (pc := 19) ok dX7_walk_19 ?_
  refine a_rldC (pc := 20) ok dX7_walk_20 rfl ?_
  refine a_idiv (pc := 21) ok dX7_walk_21 (by first | omega | (unfold rg; omega) | (simp only [rg] at *; omega) | exact bz_rg _ | grind [rg]) (by first | omega | (unfold rg; omega) | (simp only [rg] at *; omega) | exact bz_rg _ | grind [rg]) ?_
  refine a_istore (pc := 22) ok dX7_walk_22 rfl (by rw [hN]; decide) ?_
  refine a_iload (pc := 24) ok dX7_walk_24 rfl ?_
  refine a_istore (pc := 26) ok dX7_walk_26 rfl (by rw [hN]; decide) ?_
  refine a_iload (pc := 28) ok dX7_walk_28 rfl ?_
  refine a_istore (pc := 30) ok dX7_walk_30 rfl (by rw [hN]; decide) ?_
  refine a_iconst (pc := 32) ok dX7_walk_32 ?_
  refine a_istore (pc := 33) ok dX7_walk_33 rfl (by rw [hN]; decide) ?_
  refine a_aload_n (pc := 35) ok dX7_walk_35 rfl ?_
  refine a_iconst (pc := 36) ok dX7_walk_36 ?_
  refine a_putf (pc := 37) ok dX7_walk_37 fp7_142 rfl (by first | rfl | decide) (by first | rfl | decide) (Nat.le_of_ble_eq_true rfl) ?_
  refine a_aload_n (pc := 40) ok dX7_walk_40 rfl ?_
  refine a_iconst (pc := 41) ok dX7_walk_41 ?_
  refine a_putf (pc := 42) ok dX7_walk_42 fp7_145 rfl (by first | rfl | decide) (by first | rfl | decide) (Nat.le_of_ble_eq_true rfl) ?_
  refine a_aload_n (pc := 45) ok dX7_walk_45 rfl ?_
  refine a_iconst (pc := 46) ok dX7_walk_46 ?_
  refine a_putf (pc := 47) ok dX7_walk_47 fp7_148 rfl (by first | rfl | decide) (by first | rfl | decide) (Nat.le_of_ble_eq_true rfl) ?_
  refine a_aload_n (pc := 50) ok dX7_walk_50 rfl ?_
  refine a_iconst (pc := 51) ok dX7_walk_51 ?_
  refine a_putf (pc := 52) ok dX7_walk_52 fp7_151 rfl (by first | rfl | decide) (by first | rfl | decide) (Nat.le_of_ble_eq_true rfl) ?_
  refine a_iconst (pc := 55) ok dX7_walk_55 ?_
  refine a_istore (pc := 56) ok dX7_walk_56 rfl (by rw [hN]; decide) ?_
  refine AW.cast (loop 0 (by omega)) rfl rfl ?_
  have : oA (inI c r b L) (o0 c L) a 0 = -1 := if_neg (by omega)
  rw [this]; rfl
end OW
