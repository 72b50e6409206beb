/-! MODEL's face: ifCell, bestMove. -/
section MP7
variable {l : Launch} {rf sz : Int} {S : St} {ac : Int} {B I : Int → Int} {m : Int} {Fi Co Br Wt mk gy : Int → Int} {S2 : St} {tx di ke ik ea : Int → Int} {sd rt lf wy sp ou : Int}
theorem mdM_len {rf sz c r : Int} {G T : Int → Int} {n le : Int} {Hh : Int → Int} {li ac : Int} {B I : Int → Int} {m : Int} {Fi Co Br Wt mk gy : Int → Int} {sd rt lf wy sp ou : Int} : (mdM rf sz c r G T n le Hh li ac B I m Fi Co Br Wt mk gy sd rt lf wy sp ou).length = 10 := rfl
noncomputable def kIfC (S : St) (x y g w : Int) : Int := if ¬ (0 ≤ x ∧ x < sC S) ∨ ¬ (0 ≤ y ∧ y < sR S) then 1 else if (0 ≤ g ∧ g ≤ 99) ∧ 0 ≤ w ∧ w ≤ 2 then 0 else 2
theorem kIfC_rg {x y g w : Int} : 0 ≤ kIfC S x y g w ∧ kIfC S x y g w ≤ 2 := by
  unfold kIfC
  repeat' split
  all_goals omega
theorem kIfC_0 {x y g w : Int} (h : kIfC S x y g w = 0) : (0 ≤ x ∧ x < sC S) ∧ (0 ≤ y ∧ y < sR S) ∧ (0 ≤ g ∧ g ≤ 99) ∧ 0 ≤ w ∧ w ≤ 2 := by
  unfold kIfC at h
  repeat' split at h
  all_goals omega
theorem kIfC_is2 {x y g w : Int} (h1 : 0 ≤ x ∧ x < sC S) (h2 : 0 ≤ y ∧ y < sR S) : kIfC S x y g w = if (0 ≤ g ∧ g ≤ 99) ∧ 0 ≤ w ∧ w ≤ 2 then 0 else 2 := if_neg (fun z => z.elim (fun y => y h1) fun y => y h2)
/-- how many cells have another band in P than in S -/
noncomputable def dfK (S P : St) : Nat → Int := cntK (fun k => decide (bS P k ≠ bS S k))
noncomputable def aIfC (S P : St) (x y w : Int) : Int := if w = 0 then siz (sC S) (sR S) (bS P) (lw (sC S) (sR S) (bS P) (y * sC S + x)) else if w = 1 then mS P else dfK S P (sC S * sR S).toNat
theorem dX7_ifCell_0 : decode cX7_ifCell 0 = .ok (.aload_n 0, 1) := by decide +kernel
theorem dX7_ifCell_1 : decode cX7_ifCell 1 = .ok (.aload_n 0, 1) := by decide +kernel
theorem dX7_ifCell_2 : decode cX7_ifCell 2 = .ok (.getfield 13, 3) := by decide +kernel
theorem dX7_ifCell_5 : decode cX7_ifCell 5 = .ok (.iload_n 1, 1) := by decide +kernel
theorem dX7_ifCell_6 : decode cX7_ifCell 6 = .ok (.invokestatic 122, 3) := by decide +kernel
theorem dX7_ifCell_9 : decode cX7_ifCell 9 = .ok (.ifCond .eq 14, 3) := by decide +kernel
theorem dX7_ifCell_12 : decode cX7_ifCell 12 = .ok (.aload_n 0, 1) := by decide +kernel
theorem dX7_ifCell_13 : decode cX7_ifCell 13 = .ok (.getfield 13, 3) := by decide +kernel
theorem dX7_ifCell_16 : decode cX7_ifCell 16 = .ok (.iload_n 2, 1) := by decide +kernel
theorem dX7_ifCell_17 : decode cX7_ifCell 17 = .ok (.invokestatic 126, 3) := by decide +kernel
theorem dX7_ifCell_20 : decode cX7_ifCell 20 = .ok (.ifCond .ne 7, 3) := by decide +kernel
theorem dX7_ifCell_23 : decode cX7_ifCell 23 = .ok (.iconst 1, 1) := by decide +kernel
theorem dX7_ifCell_24 : decode cX7_ifCell 24 = .ok (.goto 28, 3) := by decide +kernel
theorem dX7_ifCell_27 : decode cX7_ifCell 27 = .ok (.iload_n 3, 1) := by decide +kernel
theorem dX7_ifCell_28 : decode cX7_ifCell 28 = .ok (.invokestatic 302, 3) := by decide +kernel
theorem dX7_ifCell_31 : decode cX7_ifCell 31 = .ok (.ifCond .eq 20, 3) := by decide +kernel
theorem dX7_ifCell_34 : decode cX7_ifCell 34 = .ok (.iload 4, 2) := by decide +kernel
theorem dX7_ifCell_36 : decode cX7_ifCell 36 = .ok (.i2l, 1) := by decide +kernel
theorem dX7_ifCell_37 : decode cX7_ifCell 37 = .ok (.lconst 0, 1) := by decide +kernel
theorem dX7_ifCell_38 : decode cX7_ifCell 38 = .ok (.ldc2_w 287, 3) := by decide +kernel
theorem dX7_ifCell_41 : decode cX7_ifCell 41 = .ok (.invokestatic 68, 3) := by decide +kernel
theorem dX7_ifCell_44 : decode cX7_ifCell 44 = .ok (.ifCond .eq 7, 3) := by decide +kernel
theorem dX7_ifCell_47 : decode cX7_ifCell 47 = .ok (.iconst 0, 1) := by decide +kernel
theorem dX7_ifCell_48 : decode cX7_ifCell 48 = .ok (.goto 4, 3) := by decide +kernel
theorem dX7_ifCell_51 : decode cX7_ifCell 51 = .ok (.iconst 2, 1) := by decide +kernel
theorem dX7_ifCell_52 : decode cX7_ifCell 52 = .ok (.invokevirtual 192, 3) := by decide +kernel
theorem dX7_ifCell_55 : decode cX7_ifCell 55 = .ok (.ifCond .eq 5, 3) := by decide +kernel
theorem dX7_ifCell_58 : decode cX7_ifCell 58 = .ok (.iconst 0, 1) := by decide +kernel
theorem dX7_ifCell_59 : decode cX7_ifCell 59 = .ok (.ireturn, 1) := by decide +kernel
theorem dX7_ifCell_60 : decode cX7_ifCell 60 = .ok (.aload_n 0, 1) := by decide +kernel
theorem dX7_ifCell_61 : decode cX7_ifCell 61 = .ok (.aload_n 0, 1) := by decide +kernel
theorem dX7_ifCell_62 : decode cX7_ifCell 62 = .ok (.getfield 13, 3) := by decide +kernel
theorem dX7_ifCell_65 : decode cX7_ifCell 65 = .ok (.invokevirtual 255, 3) := by decide +kernel
theorem dX7_ifCell_68 : decode cX7_ifCell 68 = .ok (.iconst 0, 1) := by decide +kernel
theorem dX7_ifCell_69 : decode cX7_ifCell 69 = .ok (.istore 5, 2) := by decide +kernel
theorem dX7_ifCell_71 : decode cX7_ifCell 71 = .ok (.iload 5, 2) := by decide +kernel
theorem dX7_ifCell_73 : decode cX7_ifCell 73 = .ok (.aload_n 0, 1) := by decide +kernel
theorem dX7_ifCell_74 : decode cX7_ifCell 74 = .ok (.getfield 13, 3) := by decide +kernel
theorem dX7_ifCell_77 : decode cX7_ifCell 77 = .ok (.invokestatic 74, 3) := by decide +kernel
theorem dX7_ifCell_80 : decode cX7_ifCell 80 = .ok (.if_icmp .ge 23, 3) := by decide +kernel
theorem dX7_ifCell_83 : decode cX7_ifCell 83 = .ok (.aload_n 0, 1) := by decide +kernel
theorem dX7_ifCell_84 : decode cX7_ifCell 84 = .ok (.getfield 53, 3) := by decide +kernel
theorem dX7_ifCell_87 : decode cX7_ifCell 87 = .ok (.iload 5, 2) := by decide +kernel
theorem dX7_ifCell_89 : decode cX7_ifCell 89 = .ok (.aload_n 0, 1) := by decide +kernel
theorem dX7_ifCell_90 : decode cX7_ifCell 90 = .ok (.getfield 29, 3) := by decide +kernel
theorem dX7_ifCell_93 : decode cX7_ifCell 93 = .ok (.iload 5, 2) := by decide +kernel
theorem dX7_ifCell_95 : decode cX7_ifCell 95 = .ok (.iaload, 1) := by decide +kernel
theorem dX7_ifCell_96 : decode cX7_ifCell 96 = .ok (.iastore, 1) := by decide +kernel
theorem dX7_ifCell_97 : decode cX7_ifCell 97 = .ok (.iinc 5 1, 3) := by decide +kernel
theorem dX7_ifCell_100 : decode cX7_ifCell 100 = .ok (.goto (-29), 3) := by decide +kernel
theorem dX7_ifCell_103 : decode cX7_ifCell 103 = .ok (.aload_n 0, 1) := by decide +kernel
theorem dX7_ifCell_104 : decode cX7_ifCell 104 = .ok (.getfield 13, 3) := by decide +kernel
theorem dX7_ifCell_107 : decode cX7_ifCell 107 = .ok (.iconst 0, 1) := by decide +kernel
theorem dX7_ifCell_108 : decode cX7_ifCell 108 = .ok (.aload_n 0, 1) := by decide +kernel
theorem dX7_ifCell_109 : decode cX7_ifCell 109 = .ok (.getfield 16, 3) := by decide +kernel
theorem dX7_ifCell_112 : decode cX7_ifCell 112 = .ok (.iconst 0, 1) := by decide +kernel
theorem dX7_ifCell_113 : decode cX7_ifCell 113 = .ok (.invokestatic 246, 3) := by decide +kernel
theorem dX7_ifCell_116 : decode cX7_ifCell 116 = .ok (.aload_n 0, 1) := by decide +kernel
theorem dX7_ifCell_117 : decode cX7_ifCell 117 = .ok (.getfield 16, 3) := by decide +kernel
theorem dX7_ifCell_120 : decode cX7_ifCell 120 = .ok (.aload_n 0, 1) := by decide +kernel
theorem dX7_ifCell_121 : decode cX7_ifCell 121 = .ok (.getfield 16, 3) := by decide +kernel
theorem dX7_ifCell_124 : decode cX7_ifCell 124 = .ok (.iload_n 1, 1) := by decide +kernel
theorem dX7_ifCell_125 : decode cX7_ifCell 125 = .ok (.iload_n 2, 1) := by decide +kernel
theorem dX7_ifCell_126 : decode cX7_ifCell 126 = .ok (.invokestatic 129, 3) := by decide +kernel
theorem dX7_ifCell_129 : decode cX7_ifCell 129 = .ok (.iload_n 3, 1) := by decide +kernel
theorem dX7_ifCell_130 : decode cX7_ifCell 130 = .ok (.invokestatic 158, 3) := by decide +kernel
theorem dX7_ifCell_133 : decode cX7_ifCell 133 = .ok (.pop, 1) := by decide +kernel
theorem dX7_ifCell_134 : decode cX7_ifCell 134 = .ok (.aload_n 0, 1) := by decide +kernel
theorem dX7_ifCell_135 : decode cX7_ifCell 135 = .ok (.aload_n 0, 1) := by decide +kernel
theorem dX7_ifCell_136 : decode cX7_ifCell 136 = .ok (.getfield 16, 3) := by decide +kernel
theorem dX7_ifCell_139 : decode cX7_ifCell 139 = .ok (.invokevirtual 255, 3) := by decide +kernel
theorem dX7_ifCell_142 : decode cX7_ifCell 142 = .ok (.iconst 0, 1) := by decide +kernel
theorem dX7_ifCell_143 : decode cX7_ifCell 143 = .ok (.istore 5, 2) := by decide +kernel
theorem dX7_ifCell_145 : decode cX7_ifCell 145 = .ok (.iconst 0, 1) := by decide +kernel
theorem dX7_ifCell_146 : decode cX7_ifCell 146 = .ok (.istore 6, 2) := by decide +kernel
theorem dX7_ifCell_148 : decode cX7_ifCell 148 = .ok (.iload 6, 2) := by decide +kernel
theorem dX7_ifCell_150 : decode cX7_ifCell 150 = .ok (.aload_n 0, 1) := by decide +kernel
theorem dX7_ifCell_151 : decode cX7_ifCell 151 = .ok (.getfield 13, 3) := by decide +kernel
theorem dX7_ifCell_154 : decode cX7_ifCell 154 = .ok (.invokestatic 74, 3) := by decide +kernel
theorem dX7_ifCell_157 : decode cX7_ifCell 157 = .ok (.if_icmp .ge 36, 3) := by decide +kernel
theorem dX7_ifCell_160 : decode cX7_ifCell 160 = .ok (.iload 5, 2) := by decide +kernel
theorem dX7_ifCell_162 : decode cX7_ifCell 162 = .ok (.aload_n 0, 1) := by decide +kernel
theorem dX7_ifCell_163 : decode cX7_ifCell 163 = .ok (.getfield 29, 3) := by decide +kernel
theorem dX7_ifCell_166 : decode cX7_ifCell 166 = .ok (.iload 6, 2) := by decide +kernel
theorem dX7_ifCell_168 : decode cX7_ifCell 168 = .ok (.iaload, 1) := by decide +kernel
theorem dX7_ifCell_169 : decode cX7_ifCell 169 = .ok (.aload_n 0, 1) := by decide +kernel
theorem dX7_ifCell_170 : decode cX7_ifCell 170 = .ok (.getfield 53, 3) := by decide +kernel
theorem dX7_ifCell_173 : decode cX7_ifCell 173 = .ok (.iload 6, 2) := by decide +kernel
theorem dX7_ifCell_175 : decode cX7_ifCell 175 = .ok (.iaload, 1) := by decide +kernel
theorem dX7_ifCell_176 : decode cX7_ifCell 176 = .ok (.if_icmp .ne 7, 3) := by decide +kernel
theorem dX7_ifCell_179 : decode cX7_ifCell 179 = .ok (.iconst 0, 1) := by decide +kernel
theorem dX7_ifCell_180 : decode cX7_ifCell 180 = .ok (.goto 4, 3) := by decide +kernel
theorem dX7_ifCell_183 : decode cX7_ifCell 183 = .ok (.iconst 1, 1) := by decide +kernel
theorem dX7_ifCell_184 : decode cX7_ifCell 184 = .ok (.iadd, 1) := by decide +kernel
theorem dX7_ifCell_185 : decode cX7_ifCell 185 = .ok (.istore 5, 2) := by decide +kernel
theorem dX7_ifCell_187 : decode cX7_ifCell 187 = .ok (.iinc 6 1, 3) := by decide +kernel
theorem dX7_ifCell_190 : decode cX7_ifCell 190 = .ok (.goto (-42), 3) := by decide +kernel
theorem dX7_ifCell_193 : decode cX7_ifCell 193 = .ok (.iload 4, 2) := by decide +kernel
theorem dX7_ifCell_195 : decode cX7_ifCell 195 = .ok (.ifCond .ne 25, 3) := by decide +kernel
theorem dX7_ifCell_198 : decode cX7_ifCell 198 = .ok (.aload_n 0, 1) := by decide +kernel
theorem dX7_ifCell_199 : decode cX7_ifCell 199 = .ok (.getfield 38, 3) := by decide +kernel
theorem dX7_ifCell_202 : decode cX7_ifCell 202 = .ok (.aload_n 0, 1) := by decide +kernel
theorem dX7_ifCell_203 : decode cX7_ifCell 203 = .ok (.getfield 32, 3) := by decide +kernel
theorem dX7_ifCell_206 : decode cX7_ifCell 206 = .ok (.aload_n 0, 1) := by decide +kernel
theorem dX7_ifCell_207 : decode cX7_ifCell 207 = .ok (.getfield 16, 3) := by decide +kernel
theorem dX7_ifCell_210 : decode cX7_ifCell 210 = .ok (.iload_n 1, 1) := by decide +kernel
theorem dX7_ifCell_211 : decode cX7_ifCell 211 = .ok (.iload_n 2, 1) := by decide +kernel
theorem dX7_ifCell_212 : decode cX7_ifCell 212 = .ok (.invokestatic 129, 3) := by decide +kernel
theorem dX7_ifCell_215 : decode cX7_ifCell 215 = .ok (.iaload, 1) := by decide +kernel
theorem dX7_ifCell_216 : decode cX7_ifCell 216 = .ok (.iaload, 1) := by decide +kernel
theorem dX7_ifCell_217 : decode cX7_ifCell 217 = .ok (.goto 18, 3) := by decide +kernel
theorem dX7_ifCell_220 : decode cX7_ifCell 220 = .ok (.iload 4, 2) := by decide +kernel
theorem dX7_ifCell_222 : decode cX7_ifCell 222 = .ok (.iconst 1, 1) := by decide +kernel
theorem dX7_ifCell_223 : decode cX7_ifCell 223 = .ok (.if_icmp .ne 10, 3) := by decide +kernel
theorem dX7_ifCell_226 : decode cX7_ifCell 226 = .ok (.aload_n 0, 1) := by decide +kernel
theorem dX7_ifCell_227 : decode cX7_ifCell 227 = .ok (.getfield 78, 3) := by decide +kernel
theorem dX7_ifCell_230 : decode cX7_ifCell 230 = .ok (.goto 5, 3) := by decide +kernel
theorem dX7_ifCell_233 : decode cX7_ifCell 233 = .ok (.iload 5, 2) := by decide +kernel
theorem dX7_ifCell_235 : decode cX7_ifCell 235 = .ok (.ireturn, 1) := by decide +kernel
set_option maxRecDepth 100000 in
theorem c_mifCell {x y g w : Int} (hS : SV S) (hB : ∀ i, 0 ≤ B i ∧ B i ≤ 5) (hI : ∀ i, rg (I i)) (hx : rg x) (hy : rg y) (hg : rg g) (hw : rg w) : Ct l yX7_ifCell cX7_ifCell 7 (some .int) rmX7_ifCell [.ref 0, iv x, iv y, iv g, iv w] (mdW rf sz S ac B I m Fi Co Br Wt mk gy S2 tx di ke ik ea sd rt lf wy sp ou)
    (fun z M => z = some (iv (if kIfC S x y g w = 0 then aIfC S (gP S x y g) x y w else 0)) ∧ WM (kIfC S x y g w) sz S ac tx di ke ik M) := by
  refine Ct.of miX7_ifCell (Nat.le_of_ble_eq_true rfl) ?_
  intro X hXl hN ok
  refine AW.cast (L2 := [some (.ref 0), some (iv x), some (iv y), some (iv g), some (iv w), none, none]) ?_ rfl rfl rfl
  have hd := hS.1
  have hzr := kIfC_rg (S := S) (x := x) (y := y) (g := g) (w := w)
  have sj : ∀ z : Int, z = kIfC S x y g w → AW X 0 0 52 [some (.ref 0), some (iv x), some (iv y), some (iv g), some (iv w), none, none] [iv z, .ref 0] (mdW rf sz S ac B I m Fi Co Br Wt mk gy S2 tx di ke ik ea sd rt lf wy sp ou) := by
    intro z hz
    rw [← hz] at hzr
    by_cases k0 : kIfC S x y g w = 0
    · rw [if_pos k0] at ok
      rw [k0] at ok hz
      subst hz
      obtain ⟨k1, k2, k3, k4⟩ := kIfC_0 k0
      have hcel := xy_cel hd k1 k2
      have hc := dim_cells hd
      have hc1 := hcel.1
      have hc2 := hcel.2
      obtain ⟨P, hPe⟩ : ∃ P, P = gP S x y g := ⟨_, rfl⟩
      have hP : SV P := by rw [hPe]; exact SV_gP hS k3
      have hPc : sC P = sC S := by rw [hPe]
      have hPr : sR P = sR S := by rw [hPe]
      have hJP : ∀ {B I Fi Co : Int → Int}, JS P B I Fi Co → JW (sC S) (sR S) (bS P) B I (mS P) Fi Co := fun {B I Fi Co} h => by
        have this : JW (sC P) (sR P) (bS P) B I (mS P) Fi Co := h
        rw [hPc, hPr] at this
        exact this
      rw [← hPe] at ok
      have s193 : ∀ B I Fi Co Br Wt ea : Int → Int, ∀ v6 : Option Value, JS P B I Fi Co → AW X 0 0 193 [some (.ref 0), some (iv x), some (iv y), some (iv g), some (iv w), some (iv (dfK S P (sC S * sR S).toNat)), v6] [] (mdW (0) sz S ac (B) (I) (mS P) (Fi) (Co) (Br) (Wt) mk gy (P) tx di ke ik (ea) sd rt lf wy sp ou) := by
        intro B I Fi Co Br Wt ea v6 hJ
        have hlo := lw_ok (B := bS P) hd hcel
        have hll := lw_lw (B := bS P) hd hcel
        have hJ := hJP hJ
        have hIa : I (y * sC S + x) = rk (sC S) (sR S) (bS P) (lw (sC S) (sR S) (bS P) (y * sC S + x)) := hJ.2.2.2.1 (y * sC S + x) hcel
        have hCo : Co (rk (sC S) (sR S) (bS P) (lw (sC S) (sR S) (bS P) (y * sC S + x))) = siz (sC S) (sR S) (bS P) (lw (sC S) (sR S) (bS P) (y * sC S + x)) := (hJ.2.2.2.2.2 _ hlo.1 hll).2
        have hrk := rk_mny (B := bS P) hd hlo.1 hll
        have hmn : mny (sC S) (sR S) (bS P) ≤ 144 := (mny_1 hd).2
        refine a_iload (pc := 193) ok dX7_ifCell_193 rfl ?_
        refine a_if_ne (pc := 195) (tgt := 220) ok dX7_ifCell_195 (by decide) (by first | omega | (unfold rg; omega) | (simp only [rg] at *; omega) | exact bz_rg _ | grind [rg]) (fun c195 => ?_) (fun c195 => ?_)
        · refine a_iload (pc := 220) ok dX7_ifCell_220 rfl ?_
          refine a_iconst (pc := 222) ok dX7_ifCell_222 ?_
          refine a_icmp_ne (pc := 223) (tgt := 233) ok dX7_ifCell_223 (by decide) (by first | omega | (unfold rg; omega) | (simp only [rg] at *; omega) | exact bz_rg _ | grind [rg]) (by first | omega | (unfold rg; omega) | (simp only [rg] at *; omega) | exact bz_rg _ | grind [rg]) (fun c223 => ?_) (fun c223 => ?_)
          · refine a_iload (pc := 233) ok dX7_ifCell_233 rfl ?_
            exact a_iret (pc := 235) ok dX7_ifCell_235 (⟨by rw [show w = 2 by omega]; rfl, WM_mk hJ.1 hJ.2.1⟩)
          · refine a_aload_n (pc := 226) ok dX7_ifCell_226 rfl ?_
            refine a_getf (pc := 227) ok dX7_ifCell_227 fl7_78 rfl rfl ?_
            refine a_goto (pc := 230) (tgt := 235) ok dX7_ifCell_230 (by decide) ?_
            exact a_iret (pc := 235) ok dX7_ifCell_235 (⟨by rw [show w = 1 by omega]; rfl, WM_mk hJ.1 hJ.2.1⟩)
        · refine a_aload_n (pc := 198) ok dX7_ifCell_198 rfl ?_
          refine a_getf (pc := 199) ok dX7_ifCell_199 fl7_38 rfl rfl ?_
          refine a_aload_n (pc := 202) ok dX7_ifCell_202 rfl ?_
          refine a_getf (pc := 203) ok dX7_ifCell_203 fl7_32 rfl rfl ?_
          refine a_aload_n (pc := 206) ok dX7_ifCell_206 rfl ?_
          refine a_getf (pc := 207) ok dX7_ifCell_207 fl7_16 rfl rfl ?_
          refine a_iload_n (pc := 210) ok dX7_ifCell_210 rfl ?_
          refine a_iload_n (pc := 211) ok dX7_ifCell_211 rfl ?_
          refine a_callSp (pc := 212) ok [10] dX7_ifCell_212 mv7_129 miX7_at (c_at) ⟨by decide, by decide, rfl, rfl, Nat.zero_le _, Nat.zero_le _⟩ rfl rfl (Nat.le_of_ble_eq_true rfl) rfl (by decide) ?_
          refine a_iald (pc := 215) ok dX7_ifCell_215 rfl (by first | decide | omega) (by rw [hPc]; omega) ?_
          refine a_iald (pc := 216) ok dX7_ifCell_216 rfl (by first | decide | omega) (by rw [hPc, hIa]; omega) ?_
          refine a_goto (pc := 217) (tgt := 235) ok dX7_ifCell_217 (by decide) ?_
          exact a_iret (pc := 235) ok dX7_ifCell_235 (⟨by rw [show w = 0 by omega, hPc, hIa]; exact congrArg (fun z => some (iv z)) hCo, WM_mk hJ.1 hJ.2.1⟩)
      have loop2 : ∀ B I Fi Co Br Wt ea : Int → Int, JS P B I Fi Co → (∀ j, cel (sC S) (sR S) j → ea j = bS S j ∧ 0 ≤ ea j ∧ ea j ≤ 5) → ∀ k : Nat, (k : Int) ≤ sC S * sR S → AW X 0 0 148 [some (.ref 0), some (iv x), some (iv y), some (iv g), some (iv w), some (iv (dfK S P k)), some (iv k)] [] (mdW (0) sz S ac (B) (I) (mS P) (Fi) (Co) (Br) (Wt) mk gy (P) tx di ke ik (ea) sd rt lf wy sp ou) := by
        intro B I Fi Co Br Wt ea hJ0 hea
        have hJ := hJP hJ0
        refine wfl (fun k : Nat => 145 - k) _ _ ?_
        intro k hk ih
        have eB : (k : Int) < sC S * sR S → B k = bS P k := fun h => hJ.2.2.1 k ⟨by omega, h⟩
        have eA : (k : Int) < sC S * sR S → ea k = bS S k ∧ 0 ≤ ea k ∧ ea k ≤ 5 := fun h => hea k ⟨by omega, h⟩
        have hBk := hJ.1 k
        have hcn : 0 ≤ dfK S P k ∧ dfK S P k ≤ k := cntK_rg _ _
        refine a_iload (pc := 148) ok dX7_ifCell_148 rfl ?_
        refine a_aload_n (pc := 150) ok dX7_ifCell_150 rfl ?_
        refine a_getf (pc := 151) ok dX7_ifCell_151 fl7_13 rfl rfl ?_
        refine a_callSp (pc := 154) ok [1] dX7_ifCell_154 mv7_74 miX7_cells (c_cells) ⟨by decide, by decide, rfl, rfl, Nat.zero_le _, Nat.zero_le _⟩ rfl rfl (Nat.le_of_ble_eq_true rfl) rfl (by decide) ?_
        refine a_icmp_ge (pc := 157) (tgt := 193) ok dX7_ifCell_157 (by decide) (by first | omega | (unfold rg; omega) | (simp only [rg] at *; omega) | exact bz_rg _ | grind [rg]) (by first | omega | (unfold rg; omega) | (simp only [rg] at *; omega) | exact bz_rg _ | grind [rg]) (fun c157 => ?_) (fun c157 => ?_)
        · rw [show k = (sC S * sR S).toNat by omega]; exact s193 _ _ _ _ _ _ _ _ hJ0
        · refine a_iload (pc := 160) ok dX7_ifCell_160 rfl ?_
          refine a_aload_n (pc := 162) ok dX7_ifCell_162 rfl ?_
          refine a_getf (pc := 163) ok dX7_ifCell_163 fl7_29 rfl rfl ?_
          refine a_iload (pc := 166) ok dX7_ifCell_166 rfl ?_
          refine a_iald (pc := 168) ok dX7_ifCell_168 rfl (by first | decide | omega) (by first | omega | (unfold rg; omega) | (simp only [rg] at *; omega) | exact bz_rg _ | grind [rg]) ?_
          refine a_aload_n (pc := 169) ok dX7_ifCell_169 rfl ?_
          refine a_getf (pc := 170) ok dX7_ifCell_170 fl7_53 rfl rfl ?_
          refine a_iload (pc := 173) ok dX7_ifCell_173 rfl ?_
          refine a_iald (pc := 175) ok dX7_ifCell_175 rfl (by first | decide | omega) (by first | omega | (unfold rg; omega) | (simp only [rg] at *; omega) | exact bz_rg _ | grind [rg]) ?_
          refine a_icmp_ne (pc := 176) (tgt := 183) ok dX7_ifCell_176 (by decide) (by first | (have := eA (by omega); unfold rg; omega) | omega) (by first | (have := eA (by omega); unfold rg; omega) | omega) (fun c176 => ?_) (fun c176 => ?_)
          · refine a_iconst (pc := 183) ok dX7_ifCell_183 ?_
            refine a_iadd (pc := 184) ok dX7_ifCell_184 ?_
            refine a_istore (pc := 185) ok dX7_ifCell_185 rfl (by rw [hN]; decide) ?_
            refine a_iinc (pc := 187) ok dX7_ifCell_187 rfl rfl (by rw [hN]; decide) ?_
            refine a_goto (pc := 190) (tgt := 148) ok dX7_ifCell_190 (by decide) ?_
            refine AW.cast (ih (k + 1) (by omega) (by omega)) ?_ rfl rfl
            rw [show dfK S P (k + 1) = dfK S P k + 1 from cntK_t (decide_eq_true (by rw [← eB (by omega), ← (eA (by omega)).1]; omega))]; simp
          · refine a_iconst (pc := 179) ok dX7_ifCell_179 ?_
            refine a_goto (pc := 180) (tgt := 184) ok dX7_ifCell_180 (by decide) ?_
            refine a_iadd (pc := 184) ok dX7_ifCell_184 ?_
            refine a_istore (pc := 185) ok dX7_ifCell_185 rfl (by rw [hN]; decide) ?_
            refine a_iinc (pc := 187) ok dX7_ifCell_187 rfl rfl (by rw [hN]; decide) ?_
            refine a_goto (pc := 190) (tgt := 148) ok dX7_ifCell_190 (by decide) ?_
            refine AW.cast (ih (k + 1) (by omega) (by omega)) ?_ rfl rfl
            rw [show dfK S P (k + 1) = dfK S P k from cntK_f (decide_eq_false (by rw [← eB (by omega), ← (eA (by omega)).1]; omega))]; simp
      have s134 : ∀ (B I Fi Co Br Wt ea : Int → Int) (m : Int) (v : Option Value), (∀ i, 0 ≤ B i ∧ B i ≤ 5) → (∀ i, rg (I i)) → (∀ j, cel (sC S) (sR S) j → ea j = bS S j ∧ 0 ≤ ea j ∧ ea j ≤ 5) → AW X 0 0 134 [some (.ref 0), some (iv x), some (iv y), some (iv g), some (iv w), v, none] [] (mdW (0) sz S ac (B) (I) (m) (Fi) (Co) (Br) (Wt) mk gy (P) tx di ke ik (ea) sd rt lf wy sp ou) := by
        intro B I Fi Co Br Wt ea m v hBk hIk hea
        refine a_aload_n (pc := 134) ok dX7_ifCell_134 rfl ?_
        refine a_aload_n (pc := 135) ok dX7_ifCell_135 rfl ?_
        refine a_getf (pc := 136) ok dX7_ifCell_136 fl7_16 rfl rfl ?_
        refine x_callV (pc := 139) ok [0, 10, 2, 3, 4, 5, 6, 7, 8, 9, 1, 10, 11, 12, 13, 14, 15] 10 dX7_ifCell_139 mv7_255 miX7_findAs (c_findNow (S := P) hP hBk hIk) ⟨by decide, by decide, rfl, rfl, Nat.zero_le _, Nat.zero_le _⟩ rfl rfl (Nat.le_of_ble_eq_true rfl) mdM_len rfl (by decide) rfl rfl (fun v M' h => by obtain ⟨_, _, _, _, _, _, _, h, _⟩ := h; rw [h]; rfl) ?_
        rintro _ M' ⟨rfl, B', I', Fi', Co', Br', Q', rfl, hJ2⟩
        refine AW.cast (st2 := []) (M2 := (mdW (0) sz S ac (B') (I') (mS P) (Fi') (Co') (Br') (Q') mk gy (P) tx di ke ik (ea) sd rt lf wy sp ou)) ?_ rfl rfl rfl
        refine a_iconst (pc := 142) ok dX7_ifCell_142 ?_
        refine a_istore (pc := 143) ok dX7_ifCell_143 rfl (by rw [hN]; decide) ?_
        refine a_iconst (pc := 145) ok dX7_ifCell_145 ?_
        refine a_istore (pc := 146) ok dX7_ifCell_146 rfl (by rw [hN]; decide) ?_
        exact AW.cast (loop2 B' I' Fi' Co' Br' Q' ea hJ2 hea 0 (by omega)) rfl rfl rfl
      have loop1 : ∀ B I Fi Co Br Wt : Int → Int, JS S B I Fi Co → ∀ k : Nat, (k : Int) ≤ sC S * sR S → AW X 0 0 71 [some (.ref 0), some (iv x), some (iv y), some (iv g), some (iv w), some (iv k), none] [] (mdW (0) sz S ac (B) (I) (mS S) (Fi) (Co) (Br) (Wt) mk gy S2 tx di ke ik (mapK (bS S) k ea) sd rt lf wy sp ou) := by
        intro B I Fi Co Br Wt hJ
        refine wfl (fun k : Nat => 145 - k) _ _ ?_
        intro k hk ih
        have hup : up (mapK (bS S) k ea) k (bS S k) = mapK (bS S) ((k + 1 : Nat) : Int) ea := mapK_up (f := bS S) (by omega)
        have eB : (k : Int) < sC S * sR S → B k = bS S k := fun h => hJ.2.2.1 k ⟨by omega, h⟩
        have hBk := hJ.1
        have hIk := hJ.2.1
        refine a_iload (pc := 71) ok dX7_ifCell_71 rfl ?_
        refine a_aload_n (pc := 73) ok dX7_ifCell_73 rfl ?_
        refine a_getf (pc := 74) ok dX7_ifCell_74 fl7_13 rfl rfl ?_
        refine a_callSp (pc := 77) ok [1] dX7_ifCell_77 mv7_74 miX7_cells (c_cells) ⟨by decide, by decide, rfl, rfl, Nat.zero_le _, Nat.zero_le _⟩ rfl rfl (Nat.le_of_ble_eq_true rfl) rfl (by decide) ?_
        refine a_icmp_ge (pc := 80) (tgt := 103) ok dX7_ifCell_80 (by decide) (by first | omega | (unfold rg; omega) | (simp only [rg] at *; omega) | exact bz_rg _ | grind [rg]) (by first | omega | (unfold rg; omega) | (simp only [rg] at *; omega) | exact bz_rg _ | grind [rg]) (fun c80 => ?_) (fun c80 => ?_)
        · refine a_aload_n (pc := 103) ok dX7_ifCell_103 rfl ?_
          refine a_getf (pc := 104) ok dX7_ifCell_104 fl7_13 rfl rfl ?_
          refine a_iconst (pc := 107) ok dX7_ifCell_107 ?_
          refine a_aload_n (pc := 108) ok dX7_ifCell_108 rfl ?_
          refine a_getf (pc := 109) ok dX7_ifCell_109 fl7_16 rfl rfl ?_
          refine a_iconst (pc := 112) ok dX7_ifCell_112 ?_
          refine a_callSv (pc := 113) ok [1, 10] dX7_ifCell_113 mv7_246 miX7_copyState (c_copyRow) ⟨by decide, by decide, rfl, rfl, Nat.zero_le _, Nat.zero_le _⟩ rfl rfl (Nat.le_of_ble_eq_true rfl) rfl (by decide) rfl ?_
          refine AW.cast (M2 := (mdW (0) sz S ac (B) (I) (mS S) (Fi) (Co) (Br) (Wt) mk gy (S) tx di ke ik (mapK (bS S) k ea) sd rt lf wy sp ou)) ?_ rfl rfl rfl
          refine a_aload_n (pc := 116) ok dX7_ifCell_116 rfl ?_
          refine a_getf (pc := 117) ok dX7_ifCell_117 fl7_16 rfl rfl ?_
          refine a_aload_n (pc := 120) ok dX7_ifCell_120 rfl ?_
          refine a_getf (pc := 121) ok dX7_ifCell_121 fl7_16 rfl rfl ?_
          refine a_iload_n (pc := 124) ok dX7_ifCell_124 rfl ?_
          refine a_iload_n (pc := 125) ok dX7_ifCell_125 rfl ?_
          refine a_callSp (pc := 126) ok [10] dX7_ifCell_126 mv7_129 miX7_at (c_at) ⟨by decide, by decide, rfl, rfl, Nat.zero_le _, Nat.zero_le _⟩ rfl rfl (Nat.le_of_ble_eq_true rfl) rfl (by decide) ?_
          refine a_iload_n (pc := 129) ok dX7_ifCell_129 rfl ?_
          refine a_callSi (pc := 130) ok [10] dX7_ifCell_130 mv7_158 miX7_cellOn (c_cellOn (by omega)) ⟨by decide, by decide, rfl, rfl, Nat.zero_le _, Nat.zero_le _⟩ rfl rfl (Nat.le_of_ble_eq_true rfl) rfl (by decide) rfl ?_
          refine a_pop (pc := 133) ok dX7_ifCell_133 rfl ?_
          exact AW.cast (s134 B I Fi Co Br Wt (mapK (bS S) k ea) (mS S) _ hBk hIk (fun j hj => by rw [mapK_in ⟨hj.1, by have := hj.2; omega⟩]; exact ⟨rfl, by rw [← hJ.2.2.1 j hj]; exact hJ.1 j⟩)) rfl rfl (by rw [hPe]; rfl)
        · refine a_aload_n (pc := 83) ok dX7_ifCell_83 rfl ?_
          refine a_getf (pc := 84) ok dX7_ifCell_84 fl7_53 rfl rfl ?_
          refine a_iload (pc := 87) ok dX7_ifCell_87 rfl ?_
          refine a_aload_n (pc := 89) ok dX7_ifCell_89 rfl ?_
          refine a_getf (pc := 90) ok dX7_ifCell_90 fl7_29 rfl rfl ?_
          refine a_iload (pc := 93) ok dX7_ifCell_93 rfl ?_
          refine a_iald (pc := 95) ok dX7_ifCell_95 rfl (by first | decide | omega) (by first | omega | (unfold rg; omega) | (simp only [rg] at *; omega) | exact bz_rg _ | grind [rg]) ?_
          refine a_iast (pc := 96) ok dX7_ifCell_96 rfl (by first | decide | omega) (by first | omega | (unfold rg; omega) | (simp only [rg] at *; omega) | exact bz_rg _ | grind [rg]) ?_
          refine a_iinc (pc := 97) ok dX7_ifCell_97 rfl rfl (by rw [hN]; decide) ?_
          refine a_goto (pc := 100) (tgt := 71) ok dX7_ifCell_100 (by decide) ?_
          refine AW.cast (ih (k + 1) (by omega) (by omega)) rfl rfl ?_
          rw [← hup, ← eB (by omega)]; rfl
      refine x_callVi (pc := 52) ok [0, 11, 1, 10, 12, 13, 14, 2, 3, 4, 5, 6, 7, 8, 9, 15] 1 dX7_ifCell_52 mv7_192 miX7_refused (c_refused (by unfold rg; omega)) ⟨by decide, by decide, rfl, rfl, Nat.zero_le _, Nat.zero_le _⟩ rfl rfl (Nat.le_of_ble_eq_true rfl) rfl rfl (by decide) rfl rfl rfl ?_
      refine a_if_eq (pc := 55) (tgt := 60) ok dX7_ifCell_55 (by decide) (by first | omega | (unfold rg; omega) | (simp only [rg] at *; omega) | exact bz_rg _ | grind [rg]) (fun c55 => ?_) (fun c55 => ?_)
      · refine AW.cast (M2 := (mdW (0) sz S ac B I m Fi Co Br Wt mk gy S2 tx di ke ik ea sd rt lf wy sp ou)) ?_ rfl rfl rfl
        refine a_aload_n (pc := 60) ok dX7_ifCell_60 rfl ?_
        refine a_aload_n (pc := 61) ok dX7_ifCell_61 rfl ?_
        refine a_getf (pc := 62) ok dX7_ifCell_62 fl7_13 rfl rfl ?_
        refine x_callV (pc := 65) ok [0, 1, 2, 3, 4, 5, 6, 7, 8, 9, 1, 10, 11, 12, 13, 14, 15] 10 dX7_ifCell_65 mv7_255 miX7_findAs (c_findNow hS hB hI) ⟨by decide, by decide, rfl, rfl, Nat.zero_le _, Nat.zero_le _⟩ rfl rfl (Nat.le_of_ble_eq_true rfl) rfl rfl (by decide) rfl rfl (fun v M' h => by obtain ⟨_, _, _, _, _, _, _, h, _⟩ := h; rw [h]; rfl) ?_
        rintro _ M' ⟨rfl, B', I', Fi', Co', Br', Q', rfl, hJ⟩
        refine AW.cast (st2 := []) (M2 := (mdW (0) sz S ac (B') (I') (mS S) (Fi') (Co') (Br') (Q') mk gy S2 tx di ke ik ea sd rt lf wy sp ou)) ?_ rfl rfl rfl
        refine a_iconst (pc := 68) ok dX7_ifCell_68 ?_
        refine a_istore (pc := 69) ok dX7_ifCell_69 rfl (by rw [hN]; decide) ?_
        exact AW.cast (loop1 B' I' Fi' Co' Br' Q' hJ 0 (by omega)) rfl rfl (congrArg (fun f => (mdW (0) sz S ac (B') (I') (mS S) (Fi') (Co') (Br') (Q') mk gy S2 tx di ke ik (f) sd rt lf wy sp ou)) mapK_0.symm)
      · exact absurd rfl c55
    · rw [if_neg k0, ← hz] at ok
      refine x_callVi (pc := 52) ok [0, 11, 1, 10, 12, 13, 14, 2, 3, 4, 5, 6, 7, 8, 9, 15] 1 dX7_ifCell_52 mv7_192 miX7_refused (c_refused (by unfold rg; omega)) ⟨by decide, by decide, rfl, rfl, Nat.zero_le _, Nat.zero_le _⟩ rfl rfl (Nat.le_of_ble_eq_true rfl) rfl rfl (by decide) rfl rfl rfl ?_
      refine a_if_eq (pc := 55) (tgt := 60) ok dX7_ifCell_55 (by decide) (by exact bz_rg _) (fun c55 => ?_) (fun c55 => ?_)
      · exact absurd c55 (by rw [bz_pos (show 0 < z by omega)]; decide)
      · refine a_iconst (pc := 58) ok dX7_ifCell_58 ?_
        exact a_iret (pc := 59) ok dX7_ifCell_59 (⟨rfl, WM_mk hB hI⟩)
  refine a_aload_n (pc := 0) ok dX7_ifCell_0 rfl ?_
  refine a_aload_n (pc := 1) ok dX7_ifCell_1 rfl ?_
  refine a_getf (pc := 2) ok dX7_ifCell_2 fl7_13 rfl rfl ?_
  refine a_iload_n (pc := 5) ok dX7_ifCell_5 rfl ?_
  refine a_callSp (pc := 6) ok [1] dX7_ifCell_6 mv7_122 miX7_isColumn (c_isColumn hd hx) ⟨by decide, by decide, rfl, rfl, Nat.zero_le _, Nat.zero_le _⟩ rfl rfl (Nat.le_of_ble_eq_true rfl) rfl (by decide) ?_
  refine a_if_eq (pc := 9) (tgt := 23) ok dX7_ifCell_9 (by decide) (by exact bz_rg _) (fun c9 => ?_) (fun c9 => ?_)
  · refine a_iconst (pc := 23) ok dX7_ifCell_23 ?_
    refine a_goto (pc := 24) (tgt := 52) ok dX7_ifCell_24 (by decide) ?_
    exact sj 1 (by unfold kIfC; rw [if_pos (Or.inl (bz_0.mp c9))])
  · refine a_aload_n (pc := 12) ok dX7_ifCell_12 rfl ?_
    refine a_getf (pc := 13) ok dX7_ifCell_13 fl7_13 rfl rfl ?_
    refine a_iload_n (pc := 16) ok dX7_ifCell_16 rfl ?_
    refine a_callSp (pc := 17) ok [1] dX7_ifCell_17 mv7_126 miX7_isRow (c_isRow hd hy) ⟨by decide, by decide, rfl, rfl, Nat.zero_le _, Nat.zero_le _⟩ rfl rfl (Nat.le_of_ble_eq_true rfl) rfl (by decide) ?_
    refine a_if_ne (pc := 20) (tgt := 27) ok dX7_ifCell_20 (by decide) (by exact bz_rg _) (fun c20 => ?_) (fun c20 => ?_)
    · refine a_iload_n (pc := 27) ok dX7_ifCell_27 rfl ?_
      refine a_callSp (pc := 28) ok [] dX7_ifCell_28 mv7_302 miX7_isGrey (c_isGrey hg) ⟨by decide, by decide, rfl, rfl, Nat.zero_le _, Nat.zero_le _⟩ rfl rfl (Nat.le_of_ble_eq_true rfl) rfl (by decide) ?_
      refine a_if_eq (pc := 31) (tgt := 51) ok dX7_ifCell_31 (by decide) (by exact bz_rg _) (fun c31 => ?_) (fun c31 => ?_)
      · refine a_iconst (pc := 51) ok dX7_ifCell_51 ?_
        exact sj 2 ((kIfC_is2 (bz_y c9) (bz_y c20)).trans (if_neg (fun z => bz_0.mp c31 z.1))).symm
      · refine a_iload (pc := 34) ok dX7_ifCell_34 rfl ?_
        refine a_i2l (pc := 36) ok dX7_ifCell_36 (by first | omega | (unfold rg; omega) | (simp only [rg] at *; omega) | exact bz_rg _ | grind [rg]) ?_
        refine a_lconst (pc := 37) (z := 0) ok dX7_ifCell_37 rfl ?_
        refine a_ldc2 (pc := 38) (z := 2) (v := Int64.ofInt 2) ok dX7_ifCell_38 (ug6 133 (by decide +kernel) rfl) rfl ?_
        refine a_callSp (pc := 41) ok [] dX7_ifCell_41 mv7_68 miX7_in (c_in (by unfold rgL; unfold rg at hw; omega) (by unfold rgL; omega) (by unfold rgL; omega)) ⟨by decide, by decide, rfl, rfl, Nat.zero_le _, Nat.zero_le _⟩ rfl rfl (Nat.le_of_ble_eq_true rfl) rfl (by decide) ?_
        refine a_if_eq (pc := 44) (tgt := 51) ok dX7_ifCell_44 (by decide) (by exact bz_rg _) (fun c44 => ?_) (fun c44 => ?_)
        · refine a_iconst (pc := 51) ok dX7_ifCell_51 ?_
          exact sj 2 ((kIfC_is2 (bz_y c9) (bz_y c20)).trans (if_neg (fun z => bz_0.mp c44 z.2))).symm
        · refine a_iconst (pc := 47) ok dX7_ifCell_47 ?_
          refine a_goto (pc := 48) (tgt := 52) ok dX7_ifCell_48 (by decide) ?_
          exact sj 0 ((kIfC_is2 (bz_y c9) (bz_y c20)).trans (if_pos ⟨bz_y c31, bz_y c44⟩)).symm
    · refine a_iconst (pc := 23) ok dX7_ifCell_23 ?_
      refine a_goto (pc := 24) (tgt := 52) ok dX7_ifCell_24 (by decide) ?_
      exact sj 1 (by unfold kIfC; rw [if_pos (Or.inr (bz_0.mp (by first | exact c20 | exact Decidable.not_not.mp c20)))])
end MP7
