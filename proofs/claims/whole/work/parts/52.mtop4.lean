/-! MODEL's face: numbers, cells, thresholds, bands, ink. -/
section MP4
variable {l : Launch} {rf sz : Int} {S : St} {ac : Int} {B I : Int → Int} {m : Int} {Fi Co Br Wt mk gy : Int → Int} {S2 : St} {tx di ke ik ea : Int → Int} {sd rt lf wy sp ou : Int}
def kIn (v lo hi : Int) : Int := if lo ≤ v ∧ v ≤ hi then 0 else 1
theorem kIn_0 {v lo hi : Int} (h : kIn v lo hi = 0) : lo ≤ v ∧ v ≤ hi := by unfold kIn at h; split at h; assumption; omega
theorem kIn_1 {v lo hi : Int} (h : kIn v lo hi ≠ 0) : kIn v lo hi = 1 := by unfold kIn at h ⊢; split; rename_i z; rw [if_pos z] at h; exact absurd rfl h; rfl
noncomputable def aAbout (S : St) (what : Int) : Int :=
  if what = 0 then sC S else if what = 1 then sR S else if what = 2 then sN S else if what = 3 then sE S else if what = 4 then mS S else if what = 5 then mny (sC S) (sR S) (bnd (sT S) (sN S) (sG S)) else if what = 6 then cntK (fun k => decide (bS S k ≠ bnd (sT S) (sN S) (sG S) k)) (sC S * sR S).toNat else if what = 7 then asK (sC S) (sR S) (bS S) (sC S * sR S).toNat / 2 else if what = 8 then ahF (sC S) (sR S) (bS S) else if what = 9 then sI S else sumK (sG S) (sC S * sR S).toNat
theorem dX7_about_0 : decode cX7_about 0 = .ok (.aload_n 0, 1) := by decide +kernel
theorem dX7_about_1 : decode cX7_about 1 = .ok (.iload_n 1, 1) := by decide +kernel
theorem dX7_about_2 : decode cX7_about 2 = .ok (.i2l, 1) := by decide +kernel
theorem dX7_about_3 : decode cX7_about 3 = .ok (.lconst 0, 1) := by decide +kernel
theorem dX7_about_4 : decode cX7_about 4 = .ok (.ldc2_w 253, 3) := by decide +kernel
theorem dX7_about_7 : decode cX7_about 7 = .ok (.invokestatic 68, 3) := by decide +kernel
theorem dX7_about_10 : decode cX7_about 10 = .ok (.ifCond .eq 7, 3) := by decide +kernel
theorem dX7_about_13 : decode cX7_about 13 = .ok (.iconst 0, 1) := by decide +kernel
theorem dX7_about_14 : decode cX7_about 14 = .ok (.goto 4, 3) := by decide +kernel
theorem dX7_about_17 : decode cX7_about 17 = .ok (.iconst 1, 1) := by decide +kernel
theorem dX7_about_18 : decode cX7_about 18 = .ok (.invokevirtual 192, 3) := by decide +kernel
theorem dX7_about_21 : decode cX7_about 21 = .ok (.ifCond .eq 5, 3) := by decide +kernel
theorem dX7_about_24 : decode cX7_about 24 = .ok (.iconst 0, 1) := by decide +kernel
theorem dX7_about_25 : decode cX7_about 25 = .ok (.ireturn, 1) := by decide +kernel
theorem dX7_about_26 : decode cX7_about 26 = .ok (.aload_n 0, 1) := by decide +kernel
theorem dX7_about_27 : decode cX7_about 27 = .ok (.aload_n 0, 1) := by decide +kernel
theorem dX7_about_28 : decode cX7_about 28 = .ok (.getfield 13, 3) := by decide +kernel
theorem dX7_about_31 : decode cX7_about 31 = .ok (.invokevirtual 255, 3) := by decide +kernel
theorem dX7_about_34 : decode cX7_about 34 = .ok (.iconst 0, 1) := by decide +kernel
theorem dX7_about_35 : decode cX7_about 35 = .ok (.istore_n 2, 1) := by decide +kernel
theorem dX7_about_36 : decode cX7_about 36 = .ok (.iload_n 1, 1) := by decide +kernel
theorem dX7_about_37 : decode cX7_about 37 = .ok (.tableswitch 144 0 9 #[55, 55, 55, 62, 70, 75, 88, 97, 106, 136], 55) := by decide +kernel
theorem dX7_about_92 : decode cX7_about 92 = .ok (.aload_n 0, 1) := by decide +kernel
theorem dX7_about_93 : decode cX7_about 93 = .ok (.getfield 13, 3) := by decide +kernel
theorem dX7_about_96 : decode cX7_about 96 = .ok (.iload_n 1, 1) := by decide +kernel
theorem dX7_about_97 : decode cX7_about 97 = .ok (.iaload, 1) := by decide +kernel
theorem dX7_about_98 : decode cX7_about 98 = .ok (.ireturn, 1) := by decide +kernel
theorem dX7_about_99 : decode cX7_about 99 = .ok (.aload_n 0, 1) := by decide +kernel
theorem dX7_about_100 : decode cX7_about 100 = .ok (.getfield 13, 3) := by decide +kernel
theorem dX7_about_103 : decode cX7_about 103 = .ok (.bipush 8, 2) := by decide +kernel
theorem dX7_about_105 : decode cX7_about 105 = .ok (.iaload, 1) := by decide +kernel
theorem dX7_about_106 : decode cX7_about 106 = .ok (.ireturn, 1) := by decide +kernel
theorem dX7_about_107 : decode cX7_about 107 = .ok (.aload_n 0, 1) := by decide +kernel
theorem dX7_about_108 : decode cX7_about 108 = .ok (.getfield 78, 3) := by decide +kernel
theorem dX7_about_111 : decode cX7_about 111 = .ok (.ireturn, 1) := by decide +kernel
theorem dX7_about_112 : decode cX7_about 112 = .ok (.aload_n 0, 1) := by decide +kernel
theorem dX7_about_113 : decode cX7_about 113 = .ok (.aload_n 0, 1) := by decide +kernel
theorem dX7_about_114 : decode cX7_about 114 = .ok (.getfield 13, 3) := by decide +kernel
theorem dX7_about_117 : decode cX7_about 117 = .ok (.invokevirtual 100, 3) := by decide +kernel
theorem dX7_about_120 : decode cX7_about 120 = .ok (.aload_n 0, 1) := by decide +kernel
theorem dX7_about_121 : decode cX7_about 121 = .ok (.getfield 78, 3) := by decide +kernel
theorem dX7_about_124 : decode cX7_about 124 = .ok (.ireturn, 1) := by decide +kernel
theorem dX7_about_125 : decode cX7_about 125 = .ok (.aload_n 0, 1) := by decide +kernel
theorem dX7_about_126 : decode cX7_about 126 = .ok (.aload_n 0, 1) := by decide +kernel
theorem dX7_about_127 : decode cX7_about 127 = .ok (.getfield 13, 3) := by decide +kernel
theorem dX7_about_130 : decode cX7_about 130 = .ok (.invokevirtual 258, 3) := by decide +kernel
theorem dX7_about_133 : decode cX7_about 133 = .ok (.ireturn, 1) := by decide +kernel
theorem dX7_about_134 : decode cX7_about 134 = .ok (.aload_n 0, 1) := by decide +kernel
theorem dX7_about_135 : decode cX7_about 135 = .ok (.aload_n 0, 1) := by decide +kernel
theorem dX7_about_136 : decode cX7_about 136 = .ok (.getfield 13, 3) := by decide +kernel
theorem dX7_about_139 : decode cX7_about 139 = .ok (.invokevirtual 119, 3) := by decide +kernel
theorem dX7_about_142 : decode cX7_about 142 = .ok (.ireturn, 1) := by decide +kernel
theorem dX7_about_143 : decode cX7_about 143 = .ok (.iconst 0, 1) := by decide +kernel
theorem dX7_about_144 : decode cX7_about 144 = .ok (.istore_n 3, 1) := by decide +kernel
theorem dX7_about_145 : decode cX7_about 145 = .ok (.iload_n 3, 1) := by decide +kernel
theorem dX7_about_146 : decode cX7_about 146 = .ok (.aload_n 0, 1) := by decide +kernel
theorem dX7_about_147 : decode cX7_about 147 = .ok (.getfield 78, 3) := by decide +kernel
theorem dX7_about_150 : decode cX7_about 150 = .ok (.if_icmp .ge 21, 3) := by decide +kernel
theorem dX7_about_153 : decode cX7_about 153 = .ok (.iload_n 2, 1) := by decide +kernel
theorem dX7_about_154 : decode cX7_about 154 = .ok (.aload_n 0, 1) := by decide +kernel
theorem dX7_about_155 : decode cX7_about 155 = .ok (.aload_n 0, 1) := by decide +kernel
theorem dX7_about_156 : decode cX7_about 156 = .ok (.getfield 13, 3) := by decide +kernel
theorem dX7_about_159 : decode cX7_about 159 = .ok (.iload_n 3, 1) := by decide +kernel
theorem dX7_about_160 : decode cX7_about 160 = .ok (.invokevirtual 261, 3) := by decide +kernel
theorem dX7_about_163 : decode cX7_about 163 = .ok (.iadd, 1) := by decide +kernel
theorem dX7_about_164 : decode cX7_about 164 = .ok (.istore_n 2, 1) := by decide +kernel
theorem dX7_about_165 : decode cX7_about 165 = .ok (.iinc 3 1, 3) := by decide +kernel
theorem dX7_about_168 : decode cX7_about 168 = .ok (.goto (-23), 3) := by decide +kernel
theorem dX7_about_171 : decode cX7_about 171 = .ok (.iload_n 2, 1) := by decide +kernel
theorem dX7_about_172 : decode cX7_about 172 = .ok (.ireturn, 1) := by decide +kernel
theorem dX7_about_173 : decode cX7_about 173 = .ok (.aload_n 0, 1) := by decide +kernel
theorem dX7_about_174 : decode cX7_about 174 = .ok (.getfield 13, 3) := by decide +kernel
theorem dX7_about_177 : decode cX7_about 177 = .ok (.bipush 15, 2) := by decide +kernel
theorem dX7_about_179 : decode cX7_about 179 = .ok (.iaload, 1) := by decide +kernel
theorem dX7_about_180 : decode cX7_about 180 = .ok (.ireturn, 1) := by decide +kernel
theorem dX7_about_181 : decode cX7_about 181 = .ok (.aload_n 0, 1) := by decide +kernel
theorem dX7_about_182 : decode cX7_about 182 = .ok (.getfield 13, 3) := by decide +kernel
theorem dX7_about_185 : decode cX7_about 185 = .ok (.invokestatic 177, 3) := by decide +kernel
theorem dX7_about_188 : decode cX7_about 188 = .ok (.ireturn, 1) := by decide +kernel
theorem c_mabout {what : Int} (hS : SV S) (hB : ∀ i, 0 ≤ B i ∧ B i ≤ 5) (hI : ∀ i, rg (I i)) (hw : rg what) : Ct l yX7_about cX7_about 4 (some .int) rmX7_about [.ref 0, iv what] (mdW rf sz S ac B I m Fi Co Br Wt mk gy S2 tx di ke ik ea sd rt lf wy sp ou)
    (fun z M => z = some (iv (if kIn what 0 10 = 0 then aAbout S what else 0)) ∧ WM (kIn what 0 10) sz S ac tx di ke ik M) := by
  refine Ct.of miX7_about (Nat.le_of_ble_eq_true rfl) ?_
  intro X hXl hN ok
  refine AW.cast (L2 := [some (.ref 0), some (iv what), none, none]) ?_ rfl rfl rfl
  have hm : 1 ≤ mS S ∧ mS S ≤ 144 := mny_1 hS.1
  have hd := hS.1
  have s18 : ∀ z : Int, z = kIn what 0 10 → AW X 0 0 18 [some (.ref 0), some (iv what), none, none] [iv z, .ref 0] (mdW rf sz S ac B I m Fi Co Br Wt mk gy S2 tx di ke ik ea sd rt lf wy sp ou) := by
    intro z hz
    by_cases k0 : kIn what 0 10 = 0
    · rw [if_pos k0] at ok
      rw [k0] at ok hz
      subst hz
      have hw2 := kIn_0 k0
      have hl8 : ∀ (B I Fi Co Br Wt mk : Int → Int), JS S B I Fi Co → (AW X 0 0 145 [some (.ref 0), some (iv what), some (iv 0), some (iv 0)] [] (mdW (0) sz S ac (B) (I) (mS S) (Fi) (Co) (Br) (Wt) (mk) gy S2 tx di ke ik ea sd rt lf wy sp ou) ∨ what ≠ 8) := by
        intro B I Fi Co Br Wt mk hJ
        by_cases w8 : what = 8
        · left
          have loop : ∀ q : Nat × (Int → Int) × (Int → Int), ((q.1 : Int) ≤ mS S) → AW X 0 0 145 [some (.ref 0), some (iv what), some (iv (sumK (fun i => hoF (sC S) (sR S) (bS S) (fS S i)) q.1)), some (iv q.1)] [] (mdW (0) sz S ac (B) (I) (mS S) (Fi) (Co) (Br) (q.2.2) (q.2.1) gy S2 tx di ke ik ea sd rt lf wy sp ou) := by
            refine wfl (fun q : Nat × (Int → Int) × (Int → Int) => 145 - q.1) _ _ ?_
            rintro ⟨k, mk, Wt⟩ hk ih
            dsimp only at hk ih ⊢
            by_cases hk2 : (k : Int) < mS S
            · obtain ⟨f1, f2, f3⟩ := fS_ok hS (show 0 ≤ (k : Int) ∧ (k : Int) < mS S by omega)
              refine a_iload_n (pc := 145) ok dX7_about_145 rfl ?_
              refine a_aload_n (pc := 146) ok dX7_about_146 rfl ?_
              refine a_getf (pc := 147) ok dX7_about_147 fl7_78 rfl rfl ?_
              refine a_icmp_ge (pc := 150) (tgt := 171) ok dX7_about_150 (by decide) (by first | omega | (unfold rg; omega) | (simp only [rg] at *; omega) | exact bz_rg _ | grind [rg]) (by first | omega | (unfold rg; omega) | (simp only [rg] at *; omega) | exact bz_rg _ | grind [rg]) (fun c150 => ?_) (fun c150 => ?_)
              · exfalso; first | omega | grind
              · refine a_iload_n (pc := 153) ok dX7_about_153 rfl ?_
                refine a_aload_n (pc := 154) ok dX7_about_154 rfl ?_
                refine a_aload_n (pc := 155) ok dX7_about_155 rfl ?_
                refine a_getf (pc := 156) ok dX7_about_156 fl7_13 rfl rfl ?_
                refine a_iload_n (pc := 159) ok dX7_about_159 rfl ?_
                refine x_callV (pc := 160) ok [0, 1, 2, 3, 4, 5, 6, 7, 8, 9, 1, 10, 11, 12, 13, 14, 15] 10 dX7_about_160 mv7_261 miX7_holes (c_holes hd f1 f2 f3 hJ) ⟨by decide, by decide, rfl, rfl, Nat.zero_le _, Nat.zero_le _⟩ rfl rfl (Nat.le_of_ble_eq_true rfl) rfl rfl (by decide) rfl rfl (fun v M' h => by obtain ⟨_, _, _, h⟩ := h; rw [h]; rfl) ?_
                rintro _ M' ⟨rfl, mk', Q', rfl⟩
                refine AW.cast (st2 := [iv (hoF (sC S) (sR S) (bS S) (fS S k)), iv (sumK (fun i => hoF (sC S) (sR S) (bS S) (fS S i)) k)]) (M2 := (mdW (0) sz S ac (B) (I) (mS S) (Fi) (Co) (Br) (Q') (mk') gy S2 tx di ke ik ea sd rt lf wy sp ou)) ?_ rfl rfl rfl
                refine a_iadd (pc := 163) ok dX7_about_163 ?_
                refine a_istore_n (pc := 164) ok dX7_about_164 rfl (by rw [hN]; decide) ?_
                refine a_iinc (pc := 165) ok dX7_about_165 rfl rfl (by rw [hN]; decide) ?_
                refine a_goto (pc := 168) (tgt := 145) ok dX7_about_168 (by decide) ?_
                exact AW.cast (ih (k + 1, mk', Q') (by dsimp only; omega) (by dsimp only; omega)) rfl rfl rfl
            · have ek : k = (mS S).toNat := by omega
              refine a_iload_n (pc := 145) ok dX7_about_145 rfl ?_
              refine a_aload_n (pc := 146) ok dX7_about_146 rfl ?_
              refine a_getf (pc := 147) ok dX7_about_147 fl7_78 rfl rfl ?_
              refine a_icmp_ge (pc := 150) (tgt := 171) ok dX7_about_150 (by decide) (by first | omega | (unfold rg; omega) | (simp only [rg] at *; omega) | exact bz_rg _ | grind [rg]) (by first | omega | (unfold rg; omega) | (simp only [rg] at *; omega) | exact bz_rg _ | grind [rg]) (fun c150 => ?_) (fun c150 => ?_)
              · refine a_iload_n (pc := 171) ok dX7_about_171 rfl ?_
                exact a_iret (pc := 172) ok dX7_about_172 (⟨by rw [w8, ek]; rfl, WM_mk hJ.1 hJ.2.1⟩)
              · exfalso; first | omega | grind
          exact AW.cast (loop (0, mk, Wt) (by dsimp only; omega)) rfl rfl rfl
        · exact Or.inr w8
      refine x_callVi (pc := 18) ok [0, 11, 1, 10, 12, 13, 14, 2, 3, 4, 5, 6, 7, 8, 9, 15] 1 dX7_about_18 mv7_192 miX7_refused (c_refused (by unfold rg; omega)) ⟨by decide, by decide, rfl, rfl, Nat.zero_le _, Nat.zero_le _⟩ rfl rfl (Nat.le_of_ble_eq_true rfl) rfl rfl (by decide) rfl rfl rfl ?_
      refine a_if_eq (pc := 21) (tgt := 26) ok dX7_about_21 (by decide) (by first | omega | (unfold rg; omega) | (simp only [rg] at *; omega) | exact bz_rg _ | grind [rg]) (fun c21 => ?_) (fun c21 => ?_)
      · refine AW.cast (M2 := (mdW (0) sz S ac B I m Fi Co Br Wt mk gy S2 tx di ke ik ea sd rt lf wy sp ou)) ?_ rfl rfl rfl
        refine a_aload_n (pc := 26) ok dX7_about_26 rfl ?_
        refine a_aload_n (pc := 27) ok dX7_about_27 rfl ?_
        refine a_getf (pc := 28) ok dX7_about_28 fl7_13 rfl rfl ?_
        refine x_callV (pc := 31) ok [0, 1, 2, 3, 4, 5, 6, 7, 8, 9, 1, 10, 11, 12, 13, 14, 15] 10 dX7_about_31 mv7_255 miX7_findAs (c_findNow hS hB hI) ⟨by decide, by decide, rfl, rfl, Nat.zero_le _, Nat.zero_le _⟩ rfl rfl (Nat.le_of_ble_eq_true rfl) rfl rfl (by decide) rfl rfl (fun v M' h => by obtain ⟨_, _, _, _, _, _, _, h, _⟩ := h; rw [h]; rfl) ?_
        rintro _ M' ⟨rfl, B', I', Fi', Co', Br', Q', rfl, hJ⟩
        refine AW.cast (st2 := []) (M2 := (mdW (0) sz S ac (B') (I') (mS S) (Fi') (Co') (Br') (Q') mk gy S2 tx di ke ik ea sd rt lf wy sp ou)) ?_ rfl rfl rfl
        refine a_iconst (pc := 34) ok dX7_about_34 ?_
        refine a_istore_n (pc := 35) ok dX7_about_35 rfl (by rw [hN]; decide) ?_
        refine a_iload_n (pc := 36) ok dX7_about_36 rfl ?_
        refine a_tab (pc := 37) (dt := 181) ok [92, 92, 92, 99, 107, 112, 125, 134, 143, 173] dX7_about_37 (by decide) (by decide) (by decide) (by first | omega | (unfold rg; omega) | (simp only [rg] at *; omega) | exact bz_rg _ | grind [rg]) (fun j37 hj37 c37 => ?_) (fun c37 => ?_)
        · rcases (show j37 = 0 ∨ j37 = 1 ∨ j37 = 2 ∨ j37 = 3 ∨ j37 = 4 ∨ j37 = 5 ∨ j37 = 6 ∨ j37 = 7 ∨ j37 = 8 ∨ j37 = 9 by simp only [List.length_cons, List.length_nil] at hj37; omega) with rfl | rfl | rfl | rfl | rfl | rfl | rfl | rfl | rfl | rfl
          · refine a_aload_n (pc := 92) ok dX7_about_92 rfl ?_
            refine a_getf (pc := 93) ok dX7_about_93 fl7_13 rfl rfl ?_
            refine a_iload_n (pc := 96) ok dX7_about_96 rfl ?_
            refine a_iald (pc := 97) ok dX7_about_97 rfl (by first | decide | omega) (by first | omega | (unfold rg; omega) | (simp only [rg] at *; omega) | exact bz_rg _ | grind [rg]) ?_
            exact a_iret (pc := 98) ok dX7_about_98 (⟨by rw [show what = 0 by omega]; rfl, WM_mk hJ.1 hJ.2.1⟩)
          · refine a_aload_n (pc := 92) ok dX7_about_92 rfl ?_
            refine a_getf (pc := 93) ok dX7_about_93 fl7_13 rfl rfl ?_
            refine a_iload_n (pc := 96) ok dX7_about_96 rfl ?_
            refine a_iald (pc := 97) ok dX7_about_97 rfl (by first | decide | omega) (by first | omega | (unfold rg; omega) | (simp only [rg] at *; omega) | exact bz_rg _ | grind [rg]) ?_
            exact a_iret (pc := 98) ok dX7_about_98 (⟨by rw [show what = 1 by omega]; rfl, WM_mk hJ.1 hJ.2.1⟩)
          · refine a_aload_n (pc := 92) ok dX7_about_92 rfl ?_
            refine a_getf (pc := 93) ok dX7_about_93 fl7_13 rfl rfl ?_
            refine a_iload_n (pc := 96) ok dX7_about_96 rfl ?_
            refine a_iald (pc := 97) ok dX7_about_97 rfl (by first | decide | omega) (by first | omega | (unfold rg; omega) | (simp only [rg] at *; omega) | exact bz_rg _ | grind [rg]) ?_
            exact a_iret (pc := 98) ok dX7_about_98 (⟨by rw [show what = 2 by omega]; rfl, WM_mk hJ.1 hJ.2.1⟩)
          · refine a_aload_n (pc := 99) ok dX7_about_99 rfl ?_
            refine a_getf (pc := 100) ok dX7_about_100 fl7_13 rfl rfl ?_
            refine a_bipush (pc := 103) ok dX7_about_103 (by decide) ?_
            refine a_rldS (pc := 105) ok dX7_about_105 rfl ?_
            exact a_iret (pc := 106) ok dX7_about_106 (⟨by rw [show what = 3 by omega]; rfl, WM_mk hJ.1 hJ.2.1⟩)
          · refine a_aload_n (pc := 107) ok dX7_about_107 rfl ?_
            refine a_getf (pc := 108) ok dX7_about_108 fl7_78 rfl rfl ?_
            exact a_iret (pc := 111) ok dX7_about_111 (⟨by rw [show what = 4 by omega]; rfl, WM_mk hJ.1 hJ.2.1⟩)
          · refine a_aload_n (pc := 112) ok dX7_about_112 rfl ?_
            refine a_aload_n (pc := 113) ok dX7_about_113 rfl ?_
            refine a_getf (pc := 114) ok dX7_about_114 fl7_13 rfl rfl ?_
            refine x_callV (pc := 117) ok [0, 1, 2, 3, 4, 5, 6, 7, 8, 9, 1, 10, 11, 12, 13, 14, 15] 10 dX7_about_117 mv7_100 miX7_markGreys (c_markGreys hd hS.2.2.2.2.1 hS.2.2.1 hS.2.2.2.1 (SV_rg hS).1 hJ.1 hJ.2.1) ⟨by decide, by decide, rfl, rfl, Nat.zero_le _, Nat.zero_le _⟩ rfl rfl (Nat.le_of_ble_eq_true rfl) rfl rfl (by decide) rfl rfl (fun v M' h => by obtain ⟨_, _, _, _, _, _, h, _⟩ := h; rw [h]; rfl) ?_
            rintro _ M' ⟨rfl, B2, I2, Fi2, Co2, Q2, rfl, hJ2⟩
            refine AW.cast (st2 := []) (M2 := (mdW (0) sz S ac (B2) (I2) (mny (sC S) (sR S) (bnd (sT S) (sN S) (sG S))) (Fi2) (Co2) (Br') (Q2) mk gy S2 tx di ke ik ea sd rt lf wy sp ou)) ?_ rfl rfl rfl
            refine a_aload_n (pc := 120) ok dX7_about_120 rfl ?_
            refine a_getf (pc := 121) ok dX7_about_121 fl7_78 rfl rfl ?_
            exact a_iret (pc := 124) ok dX7_about_124 (⟨by rw [show what = 5 by omega]; rfl, WM_mk hJ2.1 hJ2.2.1⟩)
          · refine a_aload_n (pc := 125) ok dX7_about_125 rfl ?_
            refine a_aload_n (pc := 126) ok dX7_about_126 rfl ?_
            refine a_getf (pc := 127) ok dX7_about_127 fl7_13 rfl rfl ?_
            refine x_callVp (pc := 130) ok [0, 1, 2, 3, 4, 5, 6, 7, 8, 9, 1, 10, 11, 12, 13, 14, 15] 10 dX7_about_130 mv7_258 miX7_otherBands (c_otherBands hd hS.2.2.2.2.1 hS.2.2.1 hS.2.2.2.1 (SV_rg hS).1 hJ) ⟨by decide, by decide, rfl, rfl, Nat.zero_le _, Nat.zero_le _⟩ rfl rfl (Nat.le_of_ble_eq_true rfl) rfl rfl (by decide) rfl rfl ?_
            exact a_iret (pc := 133) ok dX7_about_133 (⟨by rw [show what = 6 by omega]; rfl, WM_mk hJ.1 hJ.2.1⟩)
          · refine a_aload_n (pc := 134) ok dX7_about_134 rfl ?_
            refine a_aload_n (pc := 135) ok dX7_about_135 rfl ?_
            refine a_getf (pc := 136) ok dX7_about_136 fl7_13 rfl rfl ?_
            refine x_callVp (pc := 139) ok [0, 1, 2, 3, 4, 5, 6, 7, 8, 9, 1, 10, 11, 12, 13, 14, 15] 10 dX7_about_139 mv7_119 miX7_allSides (c_mallSides hd hJ) ⟨by decide, by decide, rfl, rfl, Nat.zero_le _, Nat.zero_le _⟩ rfl rfl (Nat.le_of_ble_eq_true rfl) rfl rfl (by decide) rfl rfl ?_
            exact a_iret (pc := 142) ok dX7_about_142 (⟨by rw [show what = 7 by omega]; rfl, WM_mk hJ.1 hJ.2.1⟩)
          · refine a_iconst (pc := 143) ok dX7_about_143 ?_
            refine a_istore_n (pc := 144) ok dX7_about_144 rfl (by rw [hN]; decide) ?_
            exact (hl8 _ _ _ _ _ _ _ hJ).resolve_right (by omega)
          · refine a_aload_n (pc := 173) ok dX7_about_173 rfl ?_
            refine a_getf (pc := 174) ok dX7_about_174 fl7_13 rfl rfl ?_
            refine a_bipush (pc := 177) ok dX7_about_177 (by decide) ?_
            refine a_rldL (pc := 179) ok dX7_about_179 rfl ?_
            exact a_iret (pc := 180) ok dX7_about_180 (⟨by rw [show what = 9 by omega]; rfl, WM_mk hJ.1 hJ.2.1⟩)
        · refine a_aload_n (pc := 181) ok dX7_about_181 rfl ?_
          refine a_getf (pc := 182) ok dX7_about_182 fl7_13 rfl rfl ?_
          refine a_callSp (pc := 185) ok [1] dX7_about_185 mv7_177 miX7_sum (c_sum hd) ⟨by decide, by decide, rfl, rfl, Nat.zero_le _, Nat.zero_le _⟩ rfl rfl (Nat.le_of_ble_eq_true rfl) rfl (by decide) ?_
          exact a_iret (pc := 188) ok dX7_about_188 (⟨by rw [show what = 10 by omega]; rfl, WM_mk hJ.1 hJ.2.1⟩)
      · exact absurd rfl c21
    · rw [if_neg k0, kIn_1 k0] at ok
      rw [kIn_1 k0] at hz
      subst hz
      refine x_callVi (pc := 18) ok [0, 11, 1, 10, 12, 13, 14, 2, 3, 4, 5, 6, 7, 8, 9, 15] 1 dX7_about_18 mv7_192 miX7_refused (c_refused (by unfold rg; omega)) ⟨by decide, by decide, rfl, rfl, Nat.zero_le _, Nat.zero_le _⟩ rfl rfl (Nat.le_of_ble_eq_true rfl) rfl rfl (by decide) rfl rfl rfl ?_
      refine a_if_eq (pc := 21) (tgt := 26) ok dX7_about_21 (by decide) (by first | omega | (unfold rg; omega) | (simp only [rg] at *; omega) | exact bz_rg _ | grind [rg]) (fun c21 => ?_) (fun c21 => ?_)
      · exact absurd c21 (by decide)
      · refine a_iconst (pc := 24) ok dX7_about_24 ?_
        exact a_iret (pc := 25) ok dX7_about_25 (⟨rfl, WM_mk hB hI⟩)
  refine a_aload_n (pc := 0) ok dX7_about_0 rfl ?_
  refine a_iload_n (pc := 1) ok dX7_about_1 rfl ?_
  refine a_i2l (pc := 2) ok dX7_about_2 (by first | omega | (unfold rg; omega) | (simp only [rg] at *; omega) | exact bz_rg _ | grind [rg]) ?_
  refine a_lconst (pc := 3) (z := 0) ok dX7_about_3 rfl ?_
  refine a_ldc2 (pc := 4) (z := 10) (v := Int64.ofInt 10) ok dX7_about_4 (ug6 20 (by decide +kernel) rfl) rfl ?_
  refine a_callSp (pc := 7) ok [] dX7_about_7 mv7_68 miX7_in (c_in (by unfold rgL; unfold rg at hw; omega) (by unfold rgL; omega) (by unfold rgL; omega)) ⟨by decide, by decide, rfl, rfl, Nat.zero_le _, Nat.zero_le _⟩ rfl rfl (Nat.le_of_ble_eq_true rfl) rfl (by decide) ?_
  refine a_if_eq (pc := 10) (tgt := 17) ok dX7_about_10 (by decide) (by exact bz_rg _) (fun c10 => ?_) (fun c10 => ?_)
  · refine a_iconst (pc := 17) ok dX7_about_17 ?_
    exact s18 1 (by unfold kIn; rw [if_neg (bz_0.mp c10)])
  · refine a_iconst (pc := 13) ok dX7_about_13 ?_
    refine a_goto (pc := 14) (tgt := 18) ok dX7_about_14 (by decide) ?_
    exact s18 0 (by unfold kIn; rw [if_pos (Classical.byContradiction fun z => c10 (bz_0.mpr z))])
noncomputable def kCell (S : St) (x y what hi : Int) : Int := if ¬ (0 ≤ x ∧ x < sC S) ∨ ¬ (0 ≤ y ∧ y < sR S) then 1 else if 0 ≤ what ∧ what ≤ hi then 0 else 2
theorem kCell_0 {x y what hi : Int} (h : kCell S x y what hi = 0) : (0 ≤ x ∧ x < sC S) ∧ (0 ≤ y ∧ y < sR S) ∧ 0 ≤ what ∧ what ≤ hi := by
  unfold kCell at h
  repeat' split at h
  all_goals omega
theorem kCell_rg {x y what hi : Int} : 0 ≤ kCell S x y what hi ∧ kCell S x y what hi ≤ 2 := by
  unfold kCell
  repeat' split
  all_goals omega
noncomputable def aCell (S : St) (x y what : Int) : Int :=
  if what = 0 then sG S (y * sC S + x) else if what = 1 then bandN (sT S) (sN S) (sG S (y * sC S + x)) else if what = 2 then bS S (y * sC S + x) else if what = 3 then rk (sC S) (sR S) (bS S) (lw (sC S) (sR S) (bS S) (y * sC S + x)) else if what = 4 then osK (sC S) (sR S) (bS S) (y * sC S + x) 4 else dstK (sT S) (sG S (y * sC S + x)) (sN S)
theorem dX7_cellOf_0 : decode cX7_cellOf 0 = .ok (.aload_n 0, 1) := by decide +kernel
theorem dX7_cellOf_1 : decode cX7_cellOf 1 = .ok (.aload_n 0, 1) := by decide +kernel
theorem dX7_cellOf_2 : decode cX7_cellOf 2 = .ok (.getfield 13, 3) := by decide +kernel
theorem dX7_cellOf_5 : decode cX7_cellOf 5 = .ok (.iload_n 1, 1) := by decide +kernel
theorem dX7_cellOf_6 : decode cX7_cellOf 6 = .ok (.invokestatic 122, 3) := by decide +kernel
theorem dX7_cellOf_9 : decode cX7_cellOf 9 = .ok (.ifCond .eq 14, 3) := by decide +kernel
theorem dX7_cellOf_12 : decode cX7_cellOf 12 = .ok (.aload_n 0, 1) := by decide +kernel
theorem dX7_cellOf_13 : decode cX7_cellOf 13 = .ok (.getfield 13, 3) := by decide +kernel
theorem dX7_cellOf_16 : decode cX7_cellOf 16 = .ok (.iload_n 2, 1) := by decide +kernel
theorem dX7_cellOf_17 : decode cX7_cellOf 17 = .ok (.invokestatic 126, 3) := by decide +kernel
theorem dX7_cellOf_20 : decode cX7_cellOf 20 = .ok (.ifCond .ne 7, 3) := by decide +kernel
theorem dX7_cellOf_23 : decode cX7_cellOf 23 = .ok (.iconst 1, 1) := by decide +kernel
theorem dX7_cellOf_24 : decode cX7_cellOf 24 = .ok (.goto 20, 3) := by decide +kernel
theorem dX7_cellOf_27 : decode cX7_cellOf 27 = .ok (.iload_n 3, 1) := by decide +kernel
theorem dX7_cellOf_28 : decode cX7_cellOf 28 = .ok (.i2l, 1) := by decide +kernel
theorem dX7_cellOf_29 : decode cX7_cellOf 29 = .ok (.lconst 0, 1) := by decide +kernel
theorem dX7_cellOf_30 : decode cX7_cellOf 30 = .ok (.ldc2_w 264, 3) := by decide +kernel
theorem dX7_cellOf_33 : decode cX7_cellOf 33 = .ok (.invokestatic 68, 3) := by decide +kernel
theorem dX7_cellOf_36 : decode cX7_cellOf 36 = .ok (.ifCond .eq 7, 3) := by decide +kernel
theorem dX7_cellOf_39 : decode cX7_cellOf 39 = .ok (.iconst 0, 1) := by decide +kernel
theorem dX7_cellOf_40 : decode cX7_cellOf 40 = .ok (.goto 4, 3) := by decide +kernel
theorem dX7_cellOf_43 : decode cX7_cellOf 43 = .ok (.iconst 2, 1) := by decide +kernel
theorem dX7_cellOf_44 : decode cX7_cellOf 44 = .ok (.invokevirtual 192, 3) := by decide +kernel
theorem dX7_cellOf_47 : decode cX7_cellOf 47 = .ok (.ifCond .eq 5, 3) := by decide +kernel
theorem dX7_cellOf_50 : decode cX7_cellOf 50 = .ok (.iconst 0, 1) := by decide +kernel
theorem dX7_cellOf_51 : decode cX7_cellOf 51 = .ok (.ireturn, 1) := by decide +kernel
theorem dX7_cellOf_52 : decode cX7_cellOf 52 = .ok (.aload_n 0, 1) := by decide +kernel
theorem dX7_cellOf_53 : decode cX7_cellOf 53 = .ok (.getfield 13, 3) := by decide +kernel
theorem dX7_cellOf_56 : decode cX7_cellOf 56 = .ok (.iload_n 1, 1) := by decide +kernel
theorem dX7_cellOf_57 : decode cX7_cellOf 57 = .ok (.iload_n 2, 1) := by decide +kernel
theorem dX7_cellOf_58 : decode cX7_cellOf 58 = .ok (.invokestatic 129, 3) := by decide +kernel
theorem dX7_cellOf_61 : decode cX7_cellOf 61 = .ok (.istore 4, 2) := by decide +kernel
theorem dX7_cellOf_63 : decode cX7_cellOf 63 = .ok (.aload_n 0, 1) := by decide +kernel
theorem dX7_cellOf_64 : decode cX7_cellOf 64 = .ok (.aload_n 0, 1) := by decide +kernel
theorem dX7_cellOf_65 : decode cX7_cellOf 65 = .ok (.getfield 13, 3) := by decide +kernel
theorem dX7_cellOf_68 : decode cX7_cellOf 68 = .ok (.invokevirtual 255, 3) := by decide +kernel
theorem dX7_cellOf_71 : decode cX7_cellOf 71 = .ok (.iload_n 3, 1) := by decide +kernel
theorem dX7_cellOf_72 : decode cX7_cellOf 72 = .ok (.tableswitch 92 0 4 #[36, 47, 65, 73, 81], 36) := by decide +kernel
theorem dX7_cellOf_108 : decode cX7_cellOf 108 = .ok (.aload_n 0, 1) := by decide +kernel
theorem dX7_cellOf_109 : decode cX7_cellOf 109 = .ok (.getfield 13, 3) := by decide +kernel
theorem dX7_cellOf_112 : decode cX7_cellOf 112 = .ok (.bipush 16, 2) := by decide +kernel
theorem dX7_cellOf_114 : decode cX7_cellOf 114 = .ok (.iload 4, 2) := by decide +kernel
theorem dX7_cellOf_116 : decode cX7_cellOf 116 = .ok (.iadd, 1) := by decide +kernel
theorem dX7_cellOf_117 : decode cX7_cellOf 117 = .ok (.iaload, 1) := by decide +kernel
theorem dX7_cellOf_118 : decode cX7_cellOf 118 = .ok (.ireturn, 1) := by decide +kernel
theorem dX7_cellOf_119 : decode cX7_cellOf 119 = .ok (.aload_n 0, 1) := by decide +kernel
theorem dX7_cellOf_120 : decode cX7_cellOf 120 = .ok (.getfield 13, 3) := by decide +kernel
theorem dX7_cellOf_123 : decode cX7_cellOf 123 = .ok (.aload_n 0, 1) := by decide +kernel
theorem dX7_cellOf_124 : decode cX7_cellOf 124 = .ok (.getfield 13, 3) := by decide +kernel
theorem dX7_cellOf_127 : decode cX7_cellOf 127 = .ok (.bipush 16, 2) := by decide +kernel
theorem dX7_cellOf_129 : decode cX7_cellOf 129 = .ok (.iload 4, 2) := by decide +kernel
theorem dX7_cellOf_131 : decode cX7_cellOf 131 = .ok (.iadd, 1) := by decide +kernel
theorem dX7_cellOf_132 : decode cX7_cellOf 132 = .ok (.iaload, 1) := by decide +kernel
theorem dX7_cellOf_133 : decode cX7_cellOf 133 = .ok (.invokestatic 89, 3) := by decide +kernel
theorem dX7_cellOf_136 : decode cX7_cellOf 136 = .ok (.ireturn, 1) := by decide +kernel
theorem dX7_cellOf_137 : decode cX7_cellOf 137 = .ok (.aload_n 0, 1) := by decide +kernel
theorem dX7_cellOf_138 : decode cX7_cellOf 138 = .ok (.getfield 29, 3) := by decide +kernel
theorem dX7_cellOf_141 : decode cX7_cellOf 141 = .ok (.iload 4, 2) := by decide +kernel
theorem dX7_cellOf_143 : decode cX7_cellOf 143 = .ok (.iaload, 1) := by decide +kernel
theorem dX7_cellOf_144 : decode cX7_cellOf 144 = .ok (.ireturn, 1) := by decide +kernel
theorem dX7_cellOf_145 : decode cX7_cellOf 145 = .ok (.aload_n 0, 1) := by decide +kernel
theorem dX7_cellOf_146 : decode cX7_cellOf 146 = .ok (.getfield 32, 3) := by decide +kernel
theorem dX7_cellOf_149 : decode cX7_cellOf 149 = .ok (.iload 4, 2) := by decide +kernel
theorem dX7_cellOf_151 : decode cX7_cellOf 151 = .ok (.iaload, 1) := by decide +kernel
theorem dX7_cellOf_152 : decode cX7_cellOf 152 = .ok (.ireturn, 1) := by decide +kernel
theorem dX7_cellOf_153 : decode cX7_cellOf 153 = .ok (.aload_n 0, 1) := by decide +kernel
theorem dX7_cellOf_154 : decode cX7_cellOf 154 = .ok (.aload_n 0, 1) := by decide +kernel
theorem dX7_cellOf_155 : decode cX7_cellOf 155 = .ok (.getfield 13, 3) := by decide +kernel
theorem dX7_cellOf_158 : decode cX7_cellOf 158 = .ok (.iload 4, 2) := by decide +kernel
theorem dX7_cellOf_160 : decode cX7_cellOf 160 = .ok (.invokevirtual 116, 3) := by decide +kernel
theorem dX7_cellOf_163 : decode cX7_cellOf 163 = .ok (.ireturn, 1) := by decide +kernel
theorem dX7_cellOf_164 : decode cX7_cellOf 164 = .ok (.aload_n 0, 1) := by decide +kernel
theorem dX7_cellOf_165 : decode cX7_cellOf 165 = .ok (.getfield 13, 3) := by decide +kernel
theorem dX7_cellOf_168 : decode cX7_cellOf 168 = .ok (.aload_n 0, 1) := by decide +kernel
theorem dX7_cellOf_169 : decode cX7_cellOf 169 = .ok (.getfield 13, 3) := by decide +kernel
theorem dX7_cellOf_172 : decode cX7_cellOf 172 = .ok (.bipush 16, 2) := by decide +kernel
theorem dX7_cellOf_174 : decode cX7_cellOf 174 = .ok (.iload 4, 2) := by decide +kernel
theorem dX7_cellOf_176 : decode cX7_cellOf 176 = .ok (.iadd, 1) := by decide +kernel
theorem dX7_cellOf_177 : decode cX7_cellOf 177 = .ok (.iaload, 1) := by decide +kernel
theorem dX7_cellOf_178 : decode cX7_cellOf 178 = .ok (.invokestatic 266, 3) := by decide +kernel
theorem dX7_cellOf_181 : decode cX7_cellOf 181 = .ok (.ireturn, 1) := by decide +kernel
theorem c_mcellOf {x y what : Int} (hS : SV S) (hB : ∀ i, 0 ≤ B i ∧ B i ≤ 5) (hI : ∀ i, rg (I i)) (hx : rg x) (hy : rg y) (hw : rg what) : Ct l yX7_cellOf cX7_cellOf 5 (some .int) rmX7_cellOf [.ref 0, iv x, iv y, iv what] (mdW rf sz S ac B I m Fi Co Br Wt mk gy S2 tx di ke ik ea sd rt lf wy sp ou)
    (fun z M => z = some (iv (if kCell S x y what 5 = 0 then aCell S x y what else 0)) ∧ WM (kCell S x y what 5) sz S ac tx di ke ik M) := by
  refine Ct.of miX7_cellOf (Nat.le_of_ble_eq_true rfl) ?_
  intro X hXl hN ok
  refine AW.cast (L2 := [some (.ref 0), some (iv x), some (iv y), some (iv what), none]) ?_ rfl rfl rfl
  have hm : 1 ≤ mS S ∧ mS S ≤ 144 := mny_1 hS.1
  have hd := hS.1
  have hc := dim_cells hd
  have s44 : ∀ z : Int, z = kCell S x y what 5 → AW X 0 0 44 [some (.ref 0), some (iv x), some (iv y), some (iv what), none] [iv z, .ref 0] (mdW rf sz S ac B I m Fi Co Br Wt mk gy S2 tx di ke ik ea sd rt lf wy sp ou) := by
    intro z hz
    have hzr := kCell_rg (S := S) (x := x) (y := y) (what := what) (hi := 5)
    by_cases k0 : kCell S x y what 5 = 0
    · rw [if_pos k0] at ok
      rw [k0] at ok hz
      subst hz
      obtain ⟨k1, k2, k3⟩ := kCell_0 k0
      have hcel := xy_cel hd k1 k2
      have hc1 := hcel.1
      have hc2 := hcel.2
      have hGk := hS.2.1 (y * sC S + x)
      refine x_callVi (pc := 44) ok [0, 11, 1, 10, 12, 13, 14, 2, 3, 4, 5, 6, 7, 8, 9, 15] 1 dX7_cellOf_44 mv7_192 miX7_refused (c_refused (by unfold rg; omega)) ⟨by decide, by decide, rfl, rfl, Nat.zero_le _, Nat.zero_le _⟩ rfl rfl (Nat.le_of_ble_eq_true rfl) rfl rfl (by decide) rfl rfl rfl ?_
      refine a_if_eq (pc := 47) (tgt := 52) ok dX7_cellOf_47 (by decide) (by first | omega | (unfold rg; omega) | (simp only [rg] at *; omega) | exact bz_rg _ | grind [rg]) (fun c47 => ?_) (fun c47 => ?_)
      · refine AW.cast (M2 := (mdW (0) sz S ac B I m Fi Co Br Wt mk gy S2 tx di ke ik ea sd rt lf wy sp ou)) ?_ rfl rfl rfl
        refine a_aload_n (pc := 52) ok dX7_cellOf_52 rfl ?_
        refine a_getf (pc := 53) ok dX7_cellOf_53 fl7_13 rfl rfl ?_
        refine a_iload_n (pc := 56) ok dX7_cellOf_56 rfl ?_
        refine a_iload_n (pc := 57) ok dX7_cellOf_57 rfl ?_
        refine a_callSp (pc := 58) ok [1] dX7_cellOf_58 mv7_129 miX7_at (c_at) ⟨by decide, by decide, rfl, rfl, Nat.zero_le _, Nat.zero_le _⟩ rfl rfl (Nat.le_of_ble_eq_true rfl) rfl (by decide) ?_
        refine a_istore (pc := 61) ok dX7_cellOf_61 rfl (by rw [hN]; decide) ?_
        refine a_aload_n (pc := 63) ok dX7_cellOf_63 rfl ?_
        refine a_aload_n (pc := 64) ok dX7_cellOf_64 rfl ?_
        refine a_getf (pc := 65) ok dX7_cellOf_65 fl7_13 rfl rfl ?_
        refine x_callV (pc := 68) ok [0, 1, 2, 3, 4, 5, 6, 7, 8, 9, 1, 10, 11, 12, 13, 14, 15] 10 dX7_cellOf_68 mv7_255 miX7_findAs (c_findNow hS hB hI) ⟨by decide, by decide, rfl, rfl, Nat.zero_le _, Nat.zero_le _⟩ rfl rfl (Nat.le_of_ble_eq_true rfl) rfl rfl (by decide) rfl rfl (fun v M' h => by obtain ⟨_, _, _, _, _, _, _, h, _⟩ := h; rw [h]; rfl) ?_
        rintro _ M' ⟨rfl, B', I', Fi', Co', Br', Q', rfl, hJ⟩
        refine AW.cast (st2 := []) (M2 := (mdW (0) sz S ac (B') (I') (mS S) (Fi') (Co') (Br') (Q') mk gy S2 tx di ke ik ea sd rt lf wy sp ou)) ?_ rfl rfl rfl
        refine a_iload_n (pc := 71) ok dX7_cellOf_71 rfl ?_
        refine a_tab (pc := 72) (dt := 164) ok [108, 119, 137, 145, 153] dX7_cellOf_72 (by decide) (by decide) (by decide) (by first | omega | (unfold rg; omega) | (simp only [rg] at *; omega) | exact bz_rg _ | grind [rg]) (fun j72 hj72 c72 => ?_) (fun c72 => ?_)
        · rcases (show j72 = 0 ∨ j72 = 1 ∨ j72 = 2 ∨ j72 = 3 ∨ j72 = 4 by simp only [List.length_cons, List.length_nil] at hj72; omega) with rfl | rfl | rfl | rfl | rfl
          · refine a_aload_n (pc := 108) ok dX7_cellOf_108 rfl ?_
            refine a_getf (pc := 109) ok dX7_cellOf_109 fl7_13 rfl rfl ?_
            refine a_bipush (pc := 112) ok dX7_cellOf_112 (by decide) ?_
            refine a_iload (pc := 114) ok dX7_cellOf_114 rfl ?_
            refine a_iadd (pc := 116) ok dX7_cellOf_116 ?_
            refine a_rldG (pc := 117) ok dX7_cellOf_117 rfl rfl (by first | omega | (unfold rg; omega) | (simp only [rg] at *; omega) | exact bz_rg _ | grind [rg]) ?_
            exact a_iret (pc := 118) ok dX7_cellOf_118 (⟨by rw [show what = 0 by omega]; rfl, WM_mk hJ.1 hJ.2.1⟩)
          · refine a_aload_n (pc := 119) ok dX7_cellOf_119 rfl ?_
            refine a_getf (pc := 120) ok dX7_cellOf_120 fl7_13 rfl rfl ?_
            refine a_aload_n (pc := 123) ok dX7_cellOf_123 rfl ?_
            refine a_getf (pc := 124) ok dX7_cellOf_124 fl7_13 rfl rfl ?_
            refine a_bipush (pc := 127) ok dX7_cellOf_127 (by decide) ?_
            refine a_iload (pc := 129) ok dX7_cellOf_129 rfl ?_
            refine a_iadd (pc := 131) ok dX7_cellOf_131 ?_
            refine a_rldG (pc := 132) ok dX7_cellOf_132 rfl rfl (by first | omega | (unfold rg; omega) | (simp only [rg] at *; omega) | exact bz_rg _ | grind [rg]) ?_
            refine a_callSp (pc := 133) ok [1] dX7_cellOf_133 mv7_89 miX7_bandOf (c_bandOf hS.2.2.2.2.1 hS.2.2.1 hS.2.2.2.1 (by unfold rg; omega)) ⟨by decide, by decide, rfl, rfl, Nat.zero_le _, Nat.zero_le _⟩ rfl rfl (Nat.le_of_ble_eq_true rfl) rfl (by decide) ?_
            exact a_iret (pc := 136) ok dX7_cellOf_136 (⟨by rw [show what = 1 by omega]; rfl, WM_mk hJ.1 hJ.2.1⟩)
          · refine a_aload_n (pc := 137) ok dX7_cellOf_137 rfl ?_
            refine a_getf (pc := 138) ok dX7_cellOf_138 fl7_29 rfl rfl ?_
            refine a_iload (pc := 141) ok dX7_cellOf_141 rfl ?_
            refine a_iald (pc := 143) ok dX7_cellOf_143 rfl (by first | decide | omega) (by first | omega | (unfold rg; omega) | (simp only [rg] at *; omega) | exact bz_rg _ | grind [rg]) ?_
            exact a_iret (pc := 144) ok dX7_cellOf_144 (⟨by rw [show what = 2 by omega, hJ.2.2.1 _ hcel]; rfl, WM_mk hJ.1 hJ.2.1⟩)
          · refine a_aload_n (pc := 145) ok dX7_cellOf_145 rfl ?_
            refine a_getf (pc := 146) ok dX7_cellOf_146 fl7_32 rfl rfl ?_
            refine a_iload (pc := 149) ok dX7_cellOf_149 rfl ?_
            refine a_iald (pc := 151) ok dX7_cellOf_151 rfl (by first | decide | omega) (by first | omega | (unfold rg; omega) | (simp only [rg] at *; omega) | exact bz_rg _ | grind [rg]) ?_
            exact a_iret (pc := 152) ok dX7_cellOf_152 (⟨by rw [show what = 3 by omega, hJ.2.2.2.1 _ hcel]; rfl, WM_mk hJ.1 hJ.2.1⟩)
          · refine a_aload_n (pc := 153) ok dX7_cellOf_153 rfl ?_
            refine a_aload_n (pc := 154) ok dX7_cellOf_154 rfl ?_
            refine a_getf (pc := 155) ok dX7_cellOf_155 fl7_13 rfl rfl ?_
            refine a_iload (pc := 158) ok dX7_cellOf_158 rfl ?_
            refine x_callVp (pc := 160) ok [0, 1, 2, 3, 4, 5, 6, 7, 8, 9, 1, 10, 11, 12, 13, 14, 15] 10 dX7_cellOf_160 mv7_116 miX7_sidesOf (c_sidesOf hd hcel hJ) ⟨by decide, by decide, rfl, rfl, Nat.zero_le _, Nat.zero_le _⟩ rfl rfl (Nat.le_of_ble_eq_true rfl) rfl rfl (by decide) rfl rfl ?_
            exact a_iret (pc := 163) ok dX7_cellOf_163 (⟨by rw [show what = 4 by omega]; rfl, WM_mk hJ.1 hJ.2.1⟩)
        · refine a_aload_n (pc := 164) ok dX7_cellOf_164 rfl ?_
          refine a_getf (pc := 165) ok dX7_cellOf_165 fl7_13 rfl rfl ?_
          refine a_aload_n (pc := 168) ok dX7_cellOf_168 rfl ?_
          refine a_getf (pc := 169) ok dX7_cellOf_169 fl7_13 rfl rfl ?_
          refine a_bipush (pc := 172) ok dX7_cellOf_172 (by decide) ?_
          refine a_iload (pc := 174) ok dX7_cellOf_174 rfl ?_
          refine a_iadd (pc := 176) ok dX7_cellOf_176 ?_
          refine a_rldG (pc := 177) ok dX7_cellOf_177 rfl rfl (by first | omega | (unfold rg; omega) | (simp only [rg] at *; omega) | exact bz_rg _ | grind [rg]) ?_
          refine a_callSp (pc := 178) ok [1] dX7_cellOf_178 mv7_266 miX7_toOther (c_toOther hS.2.2.2.2.1 hS.2.2.1 hS.2.2.2.1 hGk) ⟨by decide, by decide, rfl, rfl, Nat.zero_le _, Nat.zero_le _⟩ rfl rfl (Nat.le_of_ble_eq_true rfl) rfl (by decide) ?_
          exact a_iret (pc := 181) ok dX7_cellOf_181 (⟨by rw [show what = 5 by omega]; rfl, WM_mk hJ.1 hJ.2.1⟩)
      · exact absurd rfl c47
    · rw [if_neg k0, ← hz] at ok
      refine x_callVi (pc := 44) ok [0, 11, 1, 10, 12, 13, 14, 2, 3, 4, 5, 6, 7, 8, 9, 15] 1 dX7_cellOf_44 mv7_192 miX7_refused (c_refused (by unfold rg; omega)) ⟨by decide, by decide, rfl, rfl, Nat.zero_le _, Nat.zero_le _⟩ rfl rfl (Nat.le_of_ble_eq_true rfl) rfl rfl (by decide) rfl rfl rfl ?_
      refine a_if_eq (pc := 47) (tgt := 52) ok dX7_cellOf_47 (by decide) (by exact bz_rg _) (fun c47 => ?_) (fun c47 => ?_)
      · exact absurd c47 (by rw [bz_pos (show 0 < z by omega)]; decide)
      · refine a_iconst (pc := 50) ok dX7_cellOf_50 ?_
        exact a_iret (pc := 51) ok dX7_cellOf_51 (⟨rfl, WM_mk hB hI⟩)
  refine a_aload_n (pc := 0) ok dX7_cellOf_0 rfl ?_
  refine a_aload_n (pc := 1) ok dX7_cellOf_1 rfl ?_
  refine a_getf (pc := 2) ok dX7_cellOf_2 fl7_13 rfl rfl ?_
  refine a_iload_n (pc := 5) ok dX7_cellOf_5 rfl ?_
  refine a_callSp (pc := 6) ok [1] dX7_cellOf_6 mv7_122 miX7_isColumn (c_isColumn hd hx) ⟨by decide, by decide, rfl, rfl, Nat.zero_le _, Nat.zero_le _⟩ rfl rfl (Nat.le_of_ble_eq_true rfl) rfl (by decide) ?_
  refine a_if_eq (pc := 9) (tgt := 23) ok dX7_cellOf_9 (by decide) (by exact bz_rg _) (fun c9 => ?_) (fun c9 => ?_)
  · refine a_iconst (pc := 23) ok dX7_cellOf_23 ?_
    refine a_goto (pc := 24) (tgt := 44) ok dX7_cellOf_24 (by decide) ?_
    exact s44 1 (by unfold kCell; rw [if_pos (Or.inl (bz_0.mp c9))])
  · refine a_aload_n (pc := 12) ok dX7_cellOf_12 rfl ?_
    refine a_getf (pc := 13) ok dX7_cellOf_13 fl7_13 rfl rfl ?_
    refine a_iload_n (pc := 16) ok dX7_cellOf_16 rfl ?_
    refine a_callSp (pc := 17) ok [1] dX7_cellOf_17 mv7_126 miX7_isRow (c_isRow hd hy) ⟨by decide, by decide, rfl, rfl, Nat.zero_le _, Nat.zero_le _⟩ rfl rfl (Nat.le_of_ble_eq_true rfl) rfl (by decide) ?_
    refine a_if_ne (pc := 20) (tgt := 27) ok dX7_cellOf_20 (by decide) (by exact bz_rg _) (fun c20 => ?_) (fun c20 => ?_)
    · refine a_iload_n (pc := 27) ok dX7_cellOf_27 rfl ?_
      refine a_i2l (pc := 28) ok dX7_cellOf_28 (by first | omega | (unfold rg; omega) | (simp only [rg] at *; omega) | exact bz_rg _ | grind [rg]) ?_
      refine a_lconst (pc := 29) (z := 0) ok dX7_cellOf_29 rfl ?_
      refine a_ldc2 (pc := 30) (z := 5) (v := Int64.ofInt 5) ok dX7_cellOf_30 (ug6 88 (by decide +kernel) rfl) rfl ?_
      refine a_callSp (pc := 33) ok [] dX7_cellOf_33 mv7_68 miX7_in (c_in (by unfold rgL; unfold rg at hw; omega) (by unfold rgL; omega) (by unfold rgL; omega)) ⟨by decide, by decide, rfl, rfl, Nat.zero_le _, Nat.zero_le _⟩ rfl rfl (Nat.le_of_ble_eq_true rfl) rfl (by decide) ?_
      refine a_if_eq (pc := 36) (tgt := 43) ok dX7_cellOf_36 (by decide) (by exact bz_rg _) (fun c36 => ?_) (fun c36 => ?_)
      · refine a_iconst (pc := 43) ok dX7_cellOf_43 ?_
        exact s44 2 (by unfold kCell; rw [if_neg (fun z => z.elim (fun y => c9 (bz_0.mpr y)) (fun y => c20 (bz_0.mpr y))), if_neg (bz_0.mp c36)])
      · refine a_iconst (pc := 39) ok dX7_cellOf_39 ?_
        refine a_goto (pc := 40) (tgt := 44) ok dX7_cellOf_40 (by decide) ?_
        exact s44 0 (by unfold kCell; rw [if_neg (fun z => z.elim (fun y => c9 (bz_0.mpr y)) (fun y => c20 (bz_0.mpr y))), if_pos (Classical.byContradiction fun z => c36 (bz_0.mpr z))])
    · refine a_iconst (pc := 23) ok dX7_cellOf_23 ?_
      refine a_goto (pc := 24) (tgt := 44) ok dX7_cellOf_24 (by decide) ?_
      exact s44 1 (by unfold kCell; rw [if_pos (Or.inr (bz_0.mp (by first | exact c20 | exact Decidable.not_not.mp c20)))])
theorem dX7_thresholdAt_0 : decode cX7_thresholdAt 0 = .ok (.aload_n 0, 1) := by decide +kernel
theorem dX7_thresholdAt_1 : decode cX7_thresholdAt 1 = .ok (.iload_n 1, 1) := by decide +kernel
theorem dX7_thresholdAt_2 : decode cX7_thresholdAt 2 = .ok (.i2l, 1) := by decide +kernel
theorem dX7_thresholdAt_3 : decode cX7_thresholdAt 3 = .ok (.lconst 0, 1) := by decide +kernel
theorem dX7_thresholdAt_4 : decode cX7_thresholdAt 4 = .ok (.aload_n 0, 1) := by decide +kernel
theorem dX7_thresholdAt_5 : decode cX7_thresholdAt 5 = .ok (.getfield 13, 3) := by decide +kernel
theorem dX7_thresholdAt_8 : decode cX7_thresholdAt 8 = .ok (.iconst 2, 1) := by decide +kernel
theorem dX7_thresholdAt_9 : decode cX7_thresholdAt 9 = .ok (.iaload, 1) := by decide +kernel
theorem dX7_thresholdAt_10 : decode cX7_thresholdAt 10 = .ok (.iconst 1, 1) := by decide +kernel
theorem dX7_thresholdAt_11 : decode cX7_thresholdAt 11 = .ok (.isub, 1) := by decide +kernel
theorem dX7_thresholdAt_12 : decode cX7_thresholdAt 12 = .ok (.i2l, 1) := by decide +kernel
theorem dX7_thresholdAt_13 : decode cX7_thresholdAt 13 = .ok (.invokestatic 68, 3) := by decide +kernel
theorem dX7_thresholdAt_16 : decode cX7_thresholdAt 16 = .ok (.ifCond .eq 7, 3) := by decide +kernel
theorem dX7_thresholdAt_19 : decode cX7_thresholdAt 19 = .ok (.iconst 0, 1) := by decide +kernel
theorem dX7_thresholdAt_20 : decode cX7_thresholdAt 20 = .ok (.goto 4, 3) := by decide +kernel
theorem dX7_thresholdAt_23 : decode cX7_thresholdAt 23 = .ok (.iconst 1, 1) := by decide +kernel
theorem dX7_thresholdAt_24 : decode cX7_thresholdAt 24 = .ok (.invokevirtual 192, 3) := by decide +kernel
theorem dX7_thresholdAt_27 : decode cX7_thresholdAt 27 = .ok (.ifCond .eq 5, 3) := by decide +kernel
theorem dX7_thresholdAt_30 : decode cX7_thresholdAt 30 = .ok (.iconst 0, 1) := by decide +kernel
theorem dX7_thresholdAt_31 : decode cX7_thresholdAt 31 = .ok (.ireturn, 1) := by decide +kernel
theorem dX7_thresholdAt_32 : decode cX7_thresholdAt 32 = .ok (.aload_n 0, 1) := by decide +kernel
theorem dX7_thresholdAt_33 : decode cX7_thresholdAt 33 = .ok (.getfield 13, 3) := by decide +kernel
theorem dX7_thresholdAt_36 : decode cX7_thresholdAt 36 = .ok (.iconst 3, 1) := by decide +kernel
theorem dX7_thresholdAt_37 : decode cX7_thresholdAt 37 = .ok (.iload_n 1, 1) := by decide +kernel
theorem dX7_thresholdAt_38 : decode cX7_thresholdAt 38 = .ok (.iadd, 1) := by decide +kernel
theorem dX7_thresholdAt_39 : decode cX7_thresholdAt 39 = .ok (.iaload, 1) := by decide +kernel
theorem dX7_thresholdAt_40 : decode cX7_thresholdAt 40 = .ok (.ireturn, 1) := by decide +kernel
theorem c_mthresholdAt {k : Int} (hS : SV S) (hB : ∀ i, 0 ≤ B i ∧ B i ≤ 5) (hI : ∀ i, rg (I i)) (hk : rg k) : Ct l yX7_thresholdAt cX7_thresholdAt 2 (some .int) rmX7_thresholdAt [.ref 0, iv k] (mdW rf sz S ac B I m Fi Co Br Wt mk gy S2 tx di ke ik ea sd rt lf wy sp ou)
    (fun z M => z = some (iv (if kIn k 0 (sN S - 1) = 0 then sT S k else 0)) ∧ WM (kIn k 0 (sN S - 1)) sz S ac tx di ke ik M) := by
  refine Ct.of miX7_thresholdAt (Nat.le_of_ble_eq_true rfl) ?_
  intro X hXl hN ok
  refine AW.cast (L2 := [some (.ref 0), some (iv k)]) ?_ rfl rfl rfl
  have hn := hS.2.2.2.2.1
  have s24 : ∀ z : Int, z = kIn k 0 (sN S - 1) → AW X 0 0 24 [some (.ref 0), some (iv k)] [iv z, .ref 0] (mdW rf sz S ac B I m Fi Co Br Wt mk gy S2 tx di ke ik ea sd rt lf wy sp ou) := by
    intro z hz
    by_cases k0 : kIn k 0 (sN S - 1) = 0
    · rw [if_pos k0] at ok
      rw [k0] at ok hz
      subst hz
      have hw2 := kIn_0 k0
      refine x_callVi (pc := 24) ok [0, 11, 1, 10, 12, 13, 14, 2, 3, 4, 5, 6, 7, 8, 9, 15] 1 dX7_thresholdAt_24 mv7_192 miX7_refused (c_refused (by unfold rg; omega)) ⟨by decide, by decide, rfl, rfl, Nat.zero_le _, Nat.zero_le _⟩ rfl rfl (Nat.le_of_ble_eq_true rfl) rfl rfl (by decide) rfl rfl rfl ?_
      refine a_if_eq (pc := 27) (tgt := 32) ok dX7_thresholdAt_27 (by decide) (by first | omega | (unfold rg; omega) | (simp only [rg] at *; omega) | exact bz_rg _ | grind [rg]) (fun c27 => ?_) (fun c27 => ?_)
      · refine AW.cast (M2 := (mdW (0) sz S ac B I m Fi Co Br Wt mk gy S2 tx di ke ik ea sd rt lf wy sp ou)) ?_ rfl rfl rfl
        refine a_aload_n (pc := 32) ok dX7_thresholdAt_32 rfl ?_
        refine a_getf (pc := 33) ok dX7_thresholdAt_33 fl7_13 rfl rfl ?_
        refine a_iconst (pc := 36) ok dX7_thresholdAt_36 ?_
        refine a_iload_n (pc := 37) ok dX7_thresholdAt_37 rfl ?_
        refine a_iadd (pc := 38) ok dX7_thresholdAt_38 ?_
        refine a_rldT (pc := 39) (b := k) ok dX7_thresholdAt_39 rfl (by omega) (by first | omega | (unfold rg; omega) | (simp only [rg] at *; omega) | exact bz_rg _ | grind [rg]) ?_
        exact a_iret (pc := 40) ok dX7_thresholdAt_40 (⟨rfl, WM_mk hB hI⟩)
      · exact absurd rfl c27
    · rw [if_neg k0, kIn_1 k0] at ok
      rw [kIn_1 k0] at hz
      subst hz
      refine x_callVi (pc := 24) ok [0, 11, 1, 10, 12, 13, 14, 2, 3, 4, 5, 6, 7, 8, 9, 15] 1 dX7_thresholdAt_24 mv7_192 miX7_refused (c_refused (by unfold rg; omega)) ⟨by decide, by decide, rfl, rfl, Nat.zero_le _, Nat.zero_le _⟩ rfl rfl (Nat.le_of_ble_eq_true rfl) rfl rfl (by decide) rfl rfl rfl ?_
      refine a_if_eq (pc := 27) (tgt := 32) ok dX7_thresholdAt_27 (by decide) (by first | omega | (unfold rg; omega) | (simp only [rg] at *; omega) | exact bz_rg _ | grind [rg]) (fun c27 => ?_) (fun c27 => ?_)
      · exact absurd c27 (by decide)
      · refine a_iconst (pc := 30) ok dX7_thresholdAt_30 ?_
        exact a_iret (pc := 31) ok dX7_thresholdAt_31 (⟨rfl, WM_mk hB hI⟩)
  refine a_aload_n (pc := 0) ok dX7_thresholdAt_0 rfl ?_
  refine a_iload_n (pc := 1) ok dX7_thresholdAt_1 rfl ?_
  refine a_i2l (pc := 2) ok dX7_thresholdAt_2 (by first | omega | (unfold rg; omega) | (simp only [rg] at *; omega) | exact bz_rg _ | grind [rg]) ?_
  refine a_lconst (pc := 3) (z := 0) ok dX7_thresholdAt_3 rfl ?_
  refine a_aload_n (pc := 4) ok dX7_thresholdAt_4 rfl ?_
  refine a_getf (pc := 5) ok dX7_thresholdAt_5 fl7_13 rfl rfl ?_
  refine a_iconst (pc := 8) ok dX7_thresholdAt_8 ?_
  refine a_rldN (pc := 9) ok dX7_thresholdAt_9 rfl ?_
  refine a_iconst (pc := 10) ok dX7_thresholdAt_10 ?_
  refine a_isub (pc := 11) ok dX7_thresholdAt_11 ?_
  refine a_i2l (pc := 12) ok dX7_thresholdAt_12 (by unfold rg; omega) ?_
  refine a_callSp (pc := 13) ok [] dX7_thresholdAt_13 mv7_68 miX7_in (c_in (by unfold rgL; unfold rg at hk; omega) (by unfold rgL; omega) (by unfold rgL; omega)) ⟨by decide, by decide, rfl, rfl, Nat.zero_le _, Nat.zero_le _⟩ rfl rfl (Nat.le_of_ble_eq_true rfl) rfl (by decide) ?_
  refine a_if_eq (pc := 16) (tgt := 23) ok dX7_thresholdAt_16 (by decide) (by exact bz_rg _) (fun c16 => ?_) (fun c16 => ?_)
  · refine a_iconst (pc := 23) ok dX7_thresholdAt_23 ?_
    exact s24 1 (by unfold kIn; rw [if_neg (bz_0.mp c16)])
  · refine a_iconst (pc := 19) ok dX7_thresholdAt_19 ?_
    refine a_goto (pc := 20) (tgt := 24) ok dX7_thresholdAt_20 (by decide) ?_
    exact s24 0 (by unfold kIn; rw [if_pos (Classical.byContradiction fun z => c16 (bz_0.mpr z))])
theorem dX7_ink_0 : decode cX7_ink 0 = .ok (.aload_n 0, 1) := by decide +kernel
theorem dX7_ink_1 : decode cX7_ink 1 = .ok (.iconst 0, 1) := by decide +kernel
theorem dX7_ink_2 : decode cX7_ink 2 = .ok (.putfield 64, 3) := by decide +kernel
theorem dX7_ink_5 : decode cX7_ink 5 = .ok (.aload_n 0, 1) := by decide +kernel
theorem dX7_ink_6 : decode cX7_ink 6 = .ok (.aload_n 0, 1) := by decide +kernel
theorem dX7_ink_7 : decode cX7_ink 7 = .ok (.getfield 13, 3) := by decide +kernel
theorem dX7_ink_10 : decode cX7_ink 10 = .ok (.invokevirtual 255, 3) := by decide +kernel
theorem dX7_ink_13 : decode cX7_ink 13 = .ok (.aload_n 0, 1) := by decide +kernel
theorem dX7_ink_14 : decode cX7_ink 14 = .ok (.aload_n 0, 1) := by decide +kernel
theorem dX7_ink_15 : decode cX7_ink 15 = .ok (.getfield 13, 3) := by decide +kernel
theorem dX7_ink_18 : decode cX7_ink 18 = .ok (.invokevirtual 294, 3) := by decide +kernel
theorem dX7_ink_21 : decode cX7_ink 21 = .ok (.ireturn, 1) := by decide +kernel
theorem c_mink (hS : SV S) (hB : ∀ i, 0 ≤ B i ∧ B i ≤ 5) (hI : ∀ i, rg (I i)) : Ct l yX7_ink cX7_ink 1 (some .int) rmX7_ink [.ref 0] (mdW rf sz S ac B I m Fi Co Br Wt mk gy S2 tx di ke ik ea sd rt lf wy sp ou)
    (fun z M => z = some (iv (inkF (sC S) (sR S) (bS S) (sH S) (sI S))) ∧ WM 0 sz S ac tx di ke ik M) := by
  refine Ct.of miX7_ink (Nat.le_of_ble_eq_true rfl) ?_
  intro X hXl hN ok
  refine AW.cast (L2 := [some (.ref 0)]) ?_ rfl rfl rfl
  refine a_aload_n (pc := 0) ok dX7_ink_0 rfl ?_
  refine a_iconst (pc := 1) ok dX7_ink_1 ?_
  refine a_putf (pc := 2) ok dX7_ink_2 fp7_64 rfl (by first | rfl | decide) (by first | rfl | decide) (Nat.le_of_ble_eq_true rfl) ?_
  refine AW.cast (M2 := (mdW (0) sz S ac B I m Fi Co Br Wt mk gy S2 tx di ke ik ea sd rt lf wy sp ou)) ?_ rfl rfl rfl
  refine a_aload_n (pc := 5) ok dX7_ink_5 rfl ?_
  refine a_aload_n (pc := 6) ok dX7_ink_6 rfl ?_
  refine a_getf (pc := 7) ok dX7_ink_7 fl7_13 rfl rfl ?_
  refine x_callV (pc := 10) ok [0, 1, 2, 3, 4, 5, 6, 7, 8, 9, 1, 10, 11, 12, 13, 14, 15] 10 dX7_ink_10 mv7_255 miX7_findAs (c_findNow hS hB hI) ⟨by decide, by decide, rfl, rfl, Nat.zero_le _, Nat.zero_le _⟩ rfl rfl (Nat.le_of_ble_eq_true rfl) rfl rfl (by decide) rfl rfl (fun v M' h => by obtain ⟨_, _, _, _, _, _, _, h, _⟩ := h; rw [h]; rfl) ?_
  rintro _ M' ⟨rfl, B', I', Fi', Co', Br', Q', rfl, hJ⟩
  refine AW.cast (st2 := []) (M2 := (mdW (0) sz S ac (B') (I') (mS S) (Fi') (Co') (Br') (Q') mk gy S2 tx di ke ik ea sd rt lf wy sp ou)) ?_ rfl rfl rfl
  refine a_aload_n (pc := 13) ok dX7_ink_13 rfl ?_
  refine a_aload_n (pc := 14) ok dX7_ink_14 rfl ?_
  refine a_getf (pc := 15) ok dX7_ink_15 fl7_13 rfl rfl ?_
  refine x_callVp (pc := 18) ok [0, 1, 2, 3, 4, 5, 6, 7, 8, 9, 1, 10, 11, 12, 13, 14, 15] 10 dX7_ink_18 mv7_294 miX7_inkOf (c_inkOf hS.1 hJ) ⟨by decide, by decide, rfl, rfl, Nat.zero_le _, Nat.zero_le _⟩ rfl rfl (Nat.le_of_ble_eq_true rfl) rfl rfl (by decide) rfl rfl ?_
  exact a_iret (pc := 21) ok dX7_ink_21 (⟨rfl, WM_mk hJ.1 hJ.2.1⟩)
noncomputable def kBand (S : St) (x what : Int) : Int := if ¬ (0 ≤ x ∧ x ≤ sN S) then 1 else if 0 ≤ what ∧ what ≤ 3 then 0 else 2
theorem kBand_0 {x what : Int} (h : kBand S x what = 0) : (0 ≤ x ∧ x ≤ sN S) ∧ 0 ≤ what ∧ what ≤ 3 := by
  unfold kBand at h
  repeat' split at h
  all_goals omega
theorem kBand_rg {x what : Int} : 0 ≤ kBand S x what ∧ kBand S x what ≤ 2 := by
  unfold kBand
  repeat' split
  all_goals omega
noncomputable def aBand (S : St) (x what : Int) : Int :=
  if what = 0 then sH S x else if what = 1 then cntK (fun k => decide (bS S k = x)) (sC S * sR S).toNat else if what = 2 then cntK (fun j => decide (lw (sC S) (sR S) (bS S) j = j ∧ bS S j = x)) (sC S * sR S).toNat else cntK (fun k => decide (bS S k = x)) (sC S * sR S).toNat * sH S x
theorem dX7_band_0 : decode cX7_band 0 = .ok (.aload_n 0, 1) := by decide +kernel
theorem dX7_band_1 : decode cX7_band 1 = .ok (.iload_n 1, 1) := by decide +kernel
theorem dX7_band_2 : decode cX7_band 2 = .ok (.i2l, 1) := by decide +kernel
theorem dX7_band_3 : decode cX7_band 3 = .ok (.lconst 0, 1) := by decide +kernel
theorem dX7_band_4 : decode cX7_band 4 = .ok (.aload_n 0, 1) := by decide +kernel
theorem dX7_band_5 : decode cX7_band 5 = .ok (.getfield 13, 3) := by decide +kernel
theorem dX7_band_8 : decode cX7_band 8 = .ok (.iconst 2, 1) := by decide +kernel
theorem dX7_band_9 : decode cX7_band 9 = .ok (.iaload, 1) := by decide +kernel
theorem dX7_band_10 : decode cX7_band 10 = .ok (.i2l, 1) := by decide +kernel
theorem dX7_band_11 : decode cX7_band 11 = .ok (.invokestatic 68, 3) := by decide +kernel
theorem dX7_band_14 : decode cX7_band 14 = .ok (.ifCond .ne 7, 3) := by decide +kernel
theorem dX7_band_17 : decode cX7_band 17 = .ok (.iconst 1, 1) := by decide +kernel
theorem dX7_band_18 : decode cX7_band 18 = .ok (.goto 20, 3) := by decide +kernel
theorem dX7_band_21 : decode cX7_band 21 = .ok (.iload_n 2, 1) := by decide +kernel
theorem dX7_band_22 : decode cX7_band 22 = .ok (.i2l, 1) := by decide +kernel
theorem dX7_band_23 : decode cX7_band 23 = .ok (.lconst 0, 1) := by decide +kernel
theorem dX7_band_24 : decode cX7_band 24 = .ok (.ldc2_w 292, 3) := by decide +kernel
theorem dX7_band_27 : decode cX7_band 27 = .ok (.invokestatic 68, 3) := by decide +kernel
theorem dX7_band_30 : decode cX7_band 30 = .ok (.ifCond .eq 7, 3) := by decide +kernel
theorem dX7_band_33 : decode cX7_band 33 = .ok (.iconst 0, 1) := by decide +kernel
theorem dX7_band_34 : decode cX7_band 34 = .ok (.goto 4, 3) := by decide +kernel
theorem dX7_band_37 : decode cX7_band 37 = .ok (.iconst 2, 1) := by decide +kernel
theorem dX7_band_38 : decode cX7_band 38 = .ok (.invokevirtual 192, 3) := by decide +kernel
theorem dX7_band_41 : decode cX7_band 41 = .ok (.ifCond .eq 5, 3) := by decide +kernel
theorem dX7_band_44 : decode cX7_band 44 = .ok (.iconst 0, 1) := by decide +kernel
theorem dX7_band_45 : decode cX7_band 45 = .ok (.ireturn, 1) := by decide +kernel
theorem dX7_band_46 : decode cX7_band 46 = .ok (.aload_n 0, 1) := by decide +kernel
theorem dX7_band_47 : decode cX7_band 47 = .ok (.aload_n 0, 1) := by decide +kernel
theorem dX7_band_48 : decode cX7_band 48 = .ok (.getfield 13, 3) := by decide +kernel
theorem dX7_band_51 : decode cX7_band 51 = .ok (.invokevirtual 255, 3) := by decide +kernel
theorem dX7_band_54 : decode cX7_band 54 = .ok (.iconst 0, 1) := by decide +kernel
theorem dX7_band_55 : decode cX7_band 55 = .ok (.istore_n 3, 1) := by decide +kernel
theorem dX7_band_56 : decode cX7_band 56 = .ok (.iconst 0, 1) := by decide +kernel
theorem dX7_band_57 : decode cX7_band 57 = .ok (.istore 4, 2) := by decide +kernel
theorem dX7_band_59 : decode cX7_band 59 = .ok (.iload 4, 2) := by decide +kernel
theorem dX7_band_61 : decode cX7_band 61 = .ok (.aload_n 0, 1) := by decide +kernel
theorem dX7_band_62 : decode cX7_band 62 = .ok (.getfield 13, 3) := by decide +kernel
theorem dX7_band_65 : decode cX7_band 65 = .ok (.invokestatic 74, 3) := by decide +kernel
theorem dX7_band_68 : decode cX7_band 68 = .ok (.if_icmp .ge 28, 3) := by decide +kernel
theorem dX7_band_71 : decode cX7_band 71 = .ok (.iload_n 3, 1) := by decide +kernel
theorem dX7_band_72 : decode cX7_band 72 = .ok (.aload_n 0, 1) := by decide +kernel
theorem dX7_band_73 : decode cX7_band 73 = .ok (.getfield 29, 3) := by decide +kernel
theorem dX7_band_76 : decode cX7_band 76 = .ok (.iload 4, 2) := by decide +kernel
theorem dX7_band_78 : decode cX7_band 78 = .ok (.iaload, 1) := by decide +kernel
theorem dX7_band_79 : decode cX7_band 79 = .ok (.iload_n 1, 1) := by decide +kernel
theorem dX7_band_80 : decode cX7_band 80 = .ok (.if_icmp .ne 7, 3) := by decide +kernel
theorem dX7_band_83 : decode cX7_band 83 = .ok (.iconst 1, 1) := by decide +kernel
theorem dX7_band_84 : decode cX7_band 84 = .ok (.goto 4, 3) := by decide +kernel
theorem dX7_band_87 : decode cX7_band 87 = .ok (.iconst 0, 1) := by decide +kernel
theorem dX7_band_88 : decode cX7_band 88 = .ok (.iadd, 1) := by decide +kernel
theorem dX7_band_89 : decode cX7_band 89 = .ok (.istore_n 3, 1) := by decide +kernel
theorem dX7_band_90 : decode cX7_band 90 = .ok (.iinc 4 1, 3) := by decide +kernel
theorem dX7_band_93 : decode cX7_band 93 = .ok (.goto (-34), 3) := by decide +kernel
theorem dX7_band_96 : decode cX7_band 96 = .ok (.iconst 0, 1) := by decide +kernel
theorem dX7_band_97 : decode cX7_band 97 = .ok (.istore 4, 2) := by decide +kernel
theorem dX7_band_99 : decode cX7_band 99 = .ok (.iconst 0, 1) := by decide +kernel
theorem dX7_band_100 : decode cX7_band 100 = .ok (.istore 5, 2) := by decide +kernel
theorem dX7_band_102 : decode cX7_band 102 = .ok (.iload 5, 2) := by decide +kernel
theorem dX7_band_104 : decode cX7_band 104 = .ok (.aload_n 0, 1) := by decide +kernel
theorem dX7_band_105 : decode cX7_band 105 = .ok (.getfield 78, 3) := by decide +kernel
theorem dX7_band_108 : decode cX7_band 108 = .ok (.if_icmp .ge 29, 3) := by decide +kernel
theorem dX7_band_111 : decode cX7_band 111 = .ok (.iload 4, 2) := by decide +kernel
theorem dX7_band_113 : decode cX7_band 113 = .ok (.aload_n 0, 1) := by decide +kernel
theorem dX7_band_114 : decode cX7_band 114 = .ok (.iload 5, 2) := by decide +kernel
theorem dX7_band_116 : decode cX7_band 116 = .ok (.invokevirtual 96, 3) := by decide +kernel
theorem dX7_band_119 : decode cX7_band 119 = .ok (.iload_n 1, 1) := by decide +kernel
theorem dX7_band_120 : decode cX7_band 120 = .ok (.if_icmp .ne 7, 3) := by decide +kernel
theorem dX7_band_123 : decode cX7_band 123 = .ok (.iconst 1, 1) := by decide +kernel
theorem dX7_band_124 : decode cX7_band 124 = .ok (.goto 4, 3) := by decide +kernel
theorem dX7_band_127 : decode cX7_band 127 = .ok (.iconst 0, 1) := by decide +kernel
theorem dX7_band_128 : decode cX7_band 128 = .ok (.iadd, 1) := by decide +kernel
theorem dX7_band_129 : decode cX7_band 129 = .ok (.istore 4, 2) := by decide +kernel
theorem dX7_band_131 : decode cX7_band 131 = .ok (.iinc 5 1, 3) := by decide +kernel
theorem dX7_band_134 : decode cX7_band 134 = .ok (.goto (-32), 3) := by decide +kernel
theorem dX7_band_137 : decode cX7_band 137 = .ok (.aload_n 0, 1) := by decide +kernel
theorem dX7_band_138 : decode cX7_band 138 = .ok (.getfield 13, 3) := by decide +kernel
theorem dX7_band_141 : decode cX7_band 141 = .ok (.bipush 9, 2) := by decide +kernel
theorem dX7_band_143 : decode cX7_band 143 = .ok (.iload_n 1, 1) := by decide +kernel
theorem dX7_band_144 : decode cX7_band 144 = .ok (.iadd, 1) := by decide +kernel
theorem dX7_band_145 : decode cX7_band 145 = .ok (.iaload, 1) := by decide +kernel
theorem dX7_band_146 : decode cX7_band 146 = .ok (.istore 5, 2) := by decide +kernel
theorem dX7_band_148 : decode cX7_band 148 = .ok (.iload_n 2, 1) := by decide +kernel
theorem dX7_band_149 : decode cX7_band 149 = .ok (.ifCond .ne 8, 3) := by decide +kernel
theorem dX7_band_152 : decode cX7_band 152 = .ok (.iload 5, 2) := by decide +kernel
theorem dX7_band_154 : decode cX7_band 154 = .ok (.goto 26, 3) := by decide +kernel
theorem dX7_band_157 : decode cX7_band 157 = .ok (.iload_n 2, 1) := by decide +kernel
theorem dX7_band_158 : decode cX7_band 158 = .ok (.iconst 1, 1) := by decide +kernel
theorem dX7_band_159 : decode cX7_band 159 = .ok (.if_icmp .ne 7, 3) := by decide +kernel
theorem dX7_band_162 : decode cX7_band 162 = .ok (.iload_n 3, 1) := by decide +kernel
theorem dX7_band_163 : decode cX7_band 163 = .ok (.goto 17, 3) := by decide +kernel
theorem dX7_band_166 : decode cX7_band 166 = .ok (.iload_n 2, 1) := by decide +kernel
theorem dX7_band_167 : decode cX7_band 167 = .ok (.iconst 2, 1) := by decide +kernel
theorem dX7_band_168 : decode cX7_band 168 = .ok (.if_icmp .ne 8, 3) := by decide +kernel
theorem dX7_band_171 : decode cX7_band 171 = .ok (.iload 4, 2) := by decide +kernel
theorem dX7_band_173 : decode cX7_band 173 = .ok (.goto 7, 3) := by decide +kernel
theorem dX7_band_176 : decode cX7_band 176 = .ok (.iload_n 3, 1) := by decide +kernel
theorem dX7_band_177 : decode cX7_band 177 = .ok (.iload 5, 2) := by decide +kernel
theorem dX7_band_179 : decode cX7_band 179 = .ok (.imul, 1) := by decide +kernel
theorem dX7_band_180 : decode cX7_band 180 = .ok (.ireturn, 1) := by decide +kernel
theorem c_mband {x what : Int} (hS : SV S) (hB : ∀ i, 0 ≤ B i ∧ B i ≤ 5) (hI : ∀ i, rg (I i)) (hx : rg x) (hw : rg what) : Ct l yX7_band cX7_band 6 (some .int) rmX7_band [.ref 0, iv x, iv what] (mdW rf sz S ac B I m Fi Co Br Wt mk gy S2 tx di ke ik ea sd rt lf wy sp ou)
    (fun z M => z = some (iv (if kBand S x what = 0 then aBand S x what else 0)) ∧ WM (kBand S x what) sz S ac tx di ke ik M) := by
  refine Ct.of miX7_band (Nat.le_of_ble_eq_true rfl) ?_
  intro X hXl hN ok
  refine AW.cast (L2 := [some (.ref 0), some (iv x), some (iv what), none, none, none]) ?_ rfl rfl rfl
  have hm : 1 ≤ mS S ∧ mS S ≤ 144 := mny_1 hS.1
  have hd := hS.1
  have hc := dim_cells hd
  have hn := hS.2.2.2.2.1
  have s38 : ∀ z : Int, z = kBand S x what → AW X 0 0 38 [some (.ref 0), some (iv x), some (iv what), none, none, none] [iv z, .ref 0] (mdW rf sz S ac B I m Fi Co Br Wt mk gy S2 tx di ke ik ea sd rt lf wy sp ou) := by
    intro z hz
    have hzr := kBand_rg (S := S) (x := x) (what := what)
    by_cases k0 : kBand S x what = 0
    · rw [if_pos k0] at ok
      rw [k0] at ok hz
      subst hz
      obtain ⟨k1, k2⟩ := kBand_0 k0
      have loop2 : ∀ B I Fi Co Br Wt : Int → Int, JS S B I Fi Co → ∀ k : Nat, (k : Int) ≤ mS S → AW X 0 0 102 [some (.ref 0), some (iv x), some (iv what), some (iv (cntK (fun k => decide (bS S k = x)) (sC S * sR S).toNat)), some (iv (cnP (sC S) (sR S) (bS S) (fun j => bS S j = x) k)), some (iv k)] [] (mdW (0) sz S ac (B) (I) (mS S) (Fi) (Co) (Br) (Wt) mk gy S2 tx di ke ik ea sd rt lf wy sp ou) := by
        intro B I Fi Co Br Wt hJ
        refine wfl (fun k : Nat => 145 - k) _ _ ?_
        intro k hk ih
        by_cases hk2 : (k : Int) < mS S
        · obtain ⟨f1, f2, f3⟩ := fS_ok hS (show 0 ≤ (k : Int) ∧ (k : Int) < mS S by omega)
          have hbr : rg (bS S (fS S k)) := by have := hJ.1 (fS S k); rw [hJ.2.2.1 _ f1] at this; unfold rg; omega
          have e1 : bS S (fS S k) = x → cnP (sC S) (sR S) (bS S) (fun j => bS S j = x) k + 1 = cnP (sC S) (sR S) (bS S) (fun j => bS S j = x) ((k + 1 : Nat) : Int) := fun h => by have := cnP_t hd (P := fun j => bS S j = x) f1 f2 h; rw [f3] at this; exact this.symm
          have e2 : bS S (fS S k) ≠ x → cnP (sC S) (sR S) (bS S) (fun j => bS S j = x) k + 0 = cnP (sC S) (sR S) (bS S) (fun j => bS S j = x) ((k + 1 : Nat) : Int) := fun h => by have := cnP_f hd (P := fun j => bS S j = x) f1 f2 h; rw [f3] at this; rw [Int.add_zero]; exact this.symm
          refine a_iload (pc := 102) ok dX7_band_102 rfl ?_
          refine a_aload_n (pc := 104) ok dX7_band_104 rfl ?_
          refine a_getf (pc := 105) ok dX7_band_105 fl7_78 rfl rfl ?_
          refine a_icmp_ge (pc := 108) (tgt := 137) ok dX7_band_108 (by decide) (by first | omega | (unfold rg; omega) | (simp only [rg] at *; omega) | exact bz_rg _ | grind [rg]) (by first | omega | (unfold rg; omega) | (simp only [rg] at *; omega) | exact bz_rg _ | grind [rg]) (fun c108 => ?_) (fun c108 => ?_)
          · exfalso; first | omega | grind
          · refine a_iload (pc := 111) ok dX7_band_111 rfl ?_
            refine a_aload_n (pc := 113) ok dX7_band_113 rfl ?_
            refine a_iload (pc := 114) ok dX7_band_114 rfl ?_
            refine x_callVp (pc := 116) ok [0, 1, 2, 3, 4, 5, 6, 7, 8, 9, 1, 10, 11, 12, 13, 14, 15] 10 dX7_band_116 mv7_96 miX7_bandOfIsle (c_bandOfIsleN hd ⟨by omega, hk2⟩ hJ) ⟨by decide, by decide, rfl, rfl, Nat.zero_le _, Nat.zero_le _⟩ rfl rfl (Nat.le_of_ble_eq_true rfl) rfl rfl (by decide) rfl rfl ?_
            refine a_iload_n (pc := 119) ok dX7_band_119 rfl ?_
            refine a_icmp_ne (pc := 120) (tgt := 127) ok dX7_band_120 (by decide) (by first | exact hbr | exact hx) (by first | exact hbr | exact hx) (fun c120 => ?_) (fun c120 => ?_)
            · refine a_iconst (pc := 127) ok dX7_band_127 ?_
              refine a_iadd (pc := 128) ok dX7_band_128 ?_
              refine a_istore (pc := 129) ok dX7_band_129 rfl (by rw [hN]; decide) ?_
              refine a_iinc (pc := 131) ok dX7_band_131 rfl rfl (by rw [hN]; decide) ?_
              refine a_goto (pc := 134) (tgt := 102) ok dX7_band_134 (by decide) ?_
              exact AW.cast (ih (k + 1) (by omega) (by omega)) (by rw [← e2 c120]; rfl) rfl rfl
            · refine a_iconst (pc := 123) ok dX7_band_123 ?_
              refine a_goto (pc := 124) (tgt := 128) ok dX7_band_124 (by decide) ?_
              refine a_iadd (pc := 128) ok dX7_band_128 ?_
              refine a_istore (pc := 129) ok dX7_band_129 rfl (by rw [hN]; decide) ?_
              refine a_iinc (pc := 131) ok dX7_band_131 rfl rfl (by rw [hN]; decide) ?_
              refine a_goto (pc := 134) (tgt := 102) ok dX7_band_134 (by decide) ?_
              exact AW.cast (ih (k + 1) (by omega) (by omega)) (by rw [← e1 (by first | exact c120 | exact Decidable.not_not.mp c120)]; rfl) rfl rfl
        · have ek : (k : Int) = mS S := by omega
          have ec : cnP (sC S) (sR S) (bS S) (fun j => bS S j = x) k = cntK (fun j => decide (lw (sC S) (sR S) (bS S) j = j ∧ bS S j = x)) (sC S * sR S).toNat := by rw [ek]; exact cnP_all hd (fun j => bS S j = x)
          refine a_iload (pc := 102) ok dX7_band_102 rfl ?_
          refine a_aload_n (pc := 104) ok dX7_band_104 rfl ?_
          refine a_getf (pc := 105) ok dX7_band_105 fl7_78 rfl rfl ?_
          refine a_icmp_ge (pc := 108) (tgt := 137) ok dX7_band_108 (by decide) (by first | omega | (unfold rg; omega) | (simp only [rg] at *; omega) | exact bz_rg _ | grind [rg]) (by first | omega | (unfold rg; omega) | (simp only [rg] at *; omega) | exact bz_rg _ | grind [rg]) (fun c108 => ?_) (fun c108 => ?_)
          · refine a_aload_n (pc := 137) ok dX7_band_137 rfl ?_
            refine a_getf (pc := 138) ok dX7_band_138 fl7_13 rfl rfl ?_
            refine a_bipush (pc := 141) ok dX7_band_141 (by decide) ?_
            refine a_iload_n (pc := 143) ok dX7_band_143 rfl ?_
            refine a_iadd (pc := 144) ok dX7_band_144 ?_
            refine a_rldH (pc := 145) (b := x) ok dX7_band_145 rfl (by omega) (by first | omega | (unfold rg; omega) | (simp only [rg] at *; omega) | exact bz_rg _ | grind [rg]) ?_
            refine a_istore (pc := 146) ok dX7_band_146 rfl (by rw [hN]; decide) ?_
            refine a_iload_n (pc := 148) ok dX7_band_148 rfl ?_
            refine a_if_ne (pc := 149) (tgt := 157) ok dX7_band_149 (by decide) (by first | omega | (unfold rg; omega) | (simp only [rg] at *; omega) | exact bz_rg _ | grind [rg]) (fun c149 => ?_) (fun c149 => ?_)
            · refine a_iload_n (pc := 157) ok dX7_band_157 rfl ?_
              refine a_iconst (pc := 158) ok dX7_band_158 ?_
              refine a_icmp_ne (pc := 159) (tgt := 166) ok dX7_band_159 (by decide) (by first | omega | (unfold rg; omega) | (simp only [rg] at *; omega) | exact bz_rg _ | grind [rg]) (by first | omega | (unfold rg; omega) | (simp only [rg] at *; omega) | exact bz_rg _ | grind [rg]) (fun c159 => ?_) (fun c159 => ?_)
              · refine a_iload_n (pc := 166) ok dX7_band_166 rfl ?_
                refine a_iconst (pc := 167) ok dX7_band_167 ?_
                refine a_icmp_ne (pc := 168) (tgt := 176) ok dX7_band_168 (by decide) (by first | omega | (unfold rg; omega) | (simp only [rg] at *; omega) | exact bz_rg _ | grind [rg]) (by first | omega | (unfold rg; omega) | (simp only [rg] at *; omega) | exact bz_rg _ | grind [rg]) (fun c168 => ?_) (fun c168 => ?_)
                · refine a_iload_n (pc := 176) ok dX7_band_176 rfl ?_
                  refine a_iload (pc := 177) ok dX7_band_177 rfl ?_
                  refine a_imul (pc := 179) ok dX7_band_179 ?_
                  exact a_iret (pc := 180) ok dX7_band_180 (⟨by rw [show what = 3 by omega]; rfl, WM_mk hJ.1 hJ.2.1⟩)
                · refine a_iload (pc := 171) ok dX7_band_171 rfl ?_
                  refine a_goto (pc := 173) (tgt := 180) ok dX7_band_173 (by decide) ?_
                  exact a_iret (pc := 180) ok dX7_band_180 (⟨by rw [show what = 2 by omega, ec]; rfl, WM_mk hJ.1 hJ.2.1⟩)
              · refine a_iload_n (pc := 162) ok dX7_band_162 rfl ?_
                refine a_goto (pc := 163) (tgt := 180) ok dX7_band_163 (by decide) ?_
                exact a_iret (pc := 180) ok dX7_band_180 (⟨by rw [show what = 1 by omega]; rfl, WM_mk hJ.1 hJ.2.1⟩)
            · refine a_iload (pc := 152) ok dX7_band_152 rfl ?_
              refine a_goto (pc := 154) (tgt := 180) ok dX7_band_154 (by decide) ?_
              exact a_iret (pc := 180) ok dX7_band_180 (⟨by rw [show what = 0 by omega]; rfl, WM_mk hJ.1 hJ.2.1⟩)
          · exfalso; first | omega | grind
      have loop : ∀ B I Fi Co Br Wt : Int → Int, JS S B I Fi Co → ∀ k : Nat, (k : Int) ≤ sC S * sR S → AW X 0 0 59 [some (.ref 0), some (iv x), some (iv what), some (iv (cntK (fun k => decide (bS S k = x)) k)), some (iv k), none] [] (mdW (0) sz S ac (B) (I) (mS S) (Fi) (Co) (Br) (Wt) mk gy S2 tx di ke ik ea sd rt lf wy sp ou) := by
        intro B I Fi Co Br Wt hJ
        refine wfl (fun k : Nat => 145 - k) _ _ ?_
        intro k hk ih
        have hBk := hJ.1 k
        have eBk : (k : Int) < sC S * sR S → B k = bS S k := fun h => hJ.2.2.1 k ⟨by omega, h⟩
        have e1 : bS S k = x → cntK (fun k => decide (bS S k = x)) k + 1 = cntK (fun k => decide (bS S k = x)) (k + 1) := fun h => (cntK_t (p := fun k => decide (bS S k = x)) (decide_eq_true h)).symm
        have e2 : bS S k ≠ x → cntK (fun k => decide (bS S k = x)) k + 0 = cntK (fun k => decide (bS S k = x)) (k + 1) := fun h => by rw [Int.add_zero]; exact (cntK_f (p := fun k => decide (bS S k = x)) (decide_eq_false h)).symm
        refine a_iload (pc := 59) ok dX7_band_59 rfl ?_
        refine a_aload_n (pc := 61) ok dX7_band_61 rfl ?_
        refine a_getf (pc := 62) ok dX7_band_62 fl7_13 rfl rfl ?_
        refine a_callSp (pc := 65) ok [1] dX7_band_65 mv7_74 miX7_cells (c_cells) ⟨by decide, by decide, rfl, rfl, Nat.zero_le _, Nat.zero_le _⟩ rfl rfl (Nat.le_of_ble_eq_true rfl) rfl (by decide) ?_
        refine a_icmp_ge (pc := 68) (tgt := 96) ok dX7_band_68 (by decide) (by first | omega | (unfold rg; omega) | (simp only [rg] at *; omega) | exact bz_rg _ | grind [rg]) (by first | omega | (unfold rg; omega) | (simp only [rg] at *; omega) | exact bz_rg _ | grind [rg]) (fun c68 => ?_) (fun c68 => ?_)
        · have ekN : k = (sC S * sR S).toNat := by omega
          rw [ekN]
          refine a_iconst (pc := 96) ok dX7_band_96 ?_
          refine a_istore (pc := 97) ok dX7_band_97 rfl (by rw [hN]; decide) ?_
          refine a_iconst (pc := 99) ok dX7_band_99 ?_
          refine a_istore (pc := 100) ok dX7_band_100 rfl (by rw [hN]; decide) ?_
          exact AW.cast (loop2 B I Fi Co Br Wt hJ 0 (by omega)) (by show _ = [some (Value.ref 0), some (iv x), some (iv what), some (iv (cntK (fun k => decide (bS S k = x)) (sC S * sR S).toNat)), some (iv (cnP (sC S) (sR S) (bS S) (fun j => bS S j = x) 0)), some (iv 0)]; rw [cnP_0]; rfl) rfl rfl
        · refine a_iload_n (pc := 71) ok dX7_band_71 rfl ?_
          refine a_aload_n (pc := 72) ok dX7_band_72 rfl ?_
          refine a_getf (pc := 73) ok dX7_band_73 fl7_29 rfl rfl ?_
          refine a_iload (pc := 76) ok dX7_band_76 rfl ?_
          refine a_iald (pc := 78) ok dX7_band_78 rfl (by first | decide | omega) (by first | omega | (unfold rg; omega) | (simp only [rg] at *; omega) | exact bz_rg _ | grind [rg]) ?_
          refine a_iload_n (pc := 79) ok dX7_band_79 rfl ?_
          refine a_icmp_ne (pc := 80) (tgt := 87) ok dX7_band_80 (by decide) (by first | exact hx | (unfold rg; omega)) (by first | exact hx | (unfold rg; omega)) (fun c80 => ?_) (fun c80 => ?_)
          · refine a_iconst (pc := 87) ok dX7_band_87 ?_
            refine a_iadd (pc := 88) ok dX7_band_88 ?_
            refine a_istore_n (pc := 89) ok dX7_band_89 rfl (by rw [hN]; decide) ?_
            refine a_iinc (pc := 90) ok dX7_band_90 rfl rfl (by rw [hN]; decide) ?_
            refine a_goto (pc := 93) (tgt := 59) ok dX7_band_93 (by decide) ?_
            have y := eBk (by omega)
            exact AW.cast (ih (k + 1) (by omega) (by omega)) (by rw [← e2 (by omega)]; rfl) rfl rfl
          · refine a_iconst (pc := 83) ok dX7_band_83 ?_
            refine a_goto (pc := 84) (tgt := 88) ok dX7_band_84 (by decide) ?_
            refine a_iadd (pc := 88) ok dX7_band_88 ?_
            refine a_istore_n (pc := 89) ok dX7_band_89 rfl (by rw [hN]; decide) ?_
            refine a_iinc (pc := 90) ok dX7_band_90 rfl rfl (by rw [hN]; decide) ?_
            refine a_goto (pc := 93) (tgt := 59) ok dX7_band_93 (by decide) ?_
            have y := eBk (by omega)
            exact AW.cast (ih (k + 1) (by omega) (by omega)) (by rw [← e1 (by omega)]; rfl) rfl rfl
      refine x_callVi (pc := 38) ok [0, 11, 1, 10, 12, 13, 14, 2, 3, 4, 5, 6, 7, 8, 9, 15] 1 dX7_band_38 mv7_192 miX7_refused (c_refused (by unfold rg; omega)) ⟨by decide, by decide, rfl, rfl, Nat.zero_le _, Nat.zero_le _⟩ rfl rfl (Nat.le_of_ble_eq_true rfl) rfl rfl (by decide) rfl rfl rfl ?_
      refine a_if_eq (pc := 41) (tgt := 46) ok dX7_band_41 (by decide) (by first | omega | (unfold rg; omega) | (simp only [rg] at *; omega) | exact bz_rg _ | grind [rg]) (fun c41 => ?_) (fun c41 => ?_)
      · refine AW.cast (M2 := (mdW (0) sz S ac B I m Fi Co Br Wt mk gy S2 tx di ke ik ea sd rt lf wy sp ou)) ?_ rfl rfl rfl
        refine a_aload_n (pc := 46) ok dX7_band_46 rfl ?_
        refine a_aload_n (pc := 47) ok dX7_band_47 rfl ?_
        refine a_getf (pc := 48) ok dX7_band_48 fl7_13 rfl rfl ?_
        refine x_callV (pc := 51) ok [0, 1, 2, 3, 4, 5, 6, 7, 8, 9, 1, 10, 11, 12, 13, 14, 15] 10 dX7_band_51 mv7_255 miX7_findAs (c_findNow hS hB hI) ⟨by decide, by decide, rfl, rfl, Nat.zero_le _, Nat.zero_le _⟩ rfl rfl (Nat.le_of_ble_eq_true rfl) rfl rfl (by decide) rfl rfl (fun v M' h => by obtain ⟨_, _, _, _, _, _, _, h, _⟩ := h; rw [h]; rfl) ?_
        rintro _ M' ⟨rfl, B', I', Fi', Co', Br', Q', rfl, hJ⟩
        refine AW.cast (st2 := []) (M2 := (mdW (0) sz S ac (B') (I') (mS S) (Fi') (Co') (Br') (Q') mk gy S2 tx di ke ik ea sd rt lf wy sp ou)) ?_ rfl rfl rfl
        refine a_iconst (pc := 54) ok dX7_band_54 ?_
        refine a_istore_n (pc := 55) ok dX7_band_55 rfl (by rw [hN]; decide) ?_
        refine a_iconst (pc := 56) ok dX7_band_56 ?_
        refine a_istore (pc := 57) ok dX7_band_57 rfl (by rw [hN]; decide) ?_
        exact AW.cast (loop _ _ _ _ _ _ hJ 0 (by omega)) rfl rfl rfl
      · exact absurd rfl c41
    · rw [if_neg k0, ← hz] at ok
      refine x_callVi (pc := 38) ok [0, 11, 1, 10, 12, 13, 14, 2, 3, 4, 5, 6, 7, 8, 9, 15] 1 dX7_band_38 mv7_192 miX7_refused (c_refused (by unfold rg; omega)) ⟨by decide, by decide, rfl, rfl, Nat.zero_le _, Nat.zero_le _⟩ rfl rfl (Nat.le_of_ble_eq_true rfl) rfl rfl (by decide) rfl rfl rfl ?_
      refine a_if_eq (pc := 41) (tgt := 46) ok dX7_band_41 (by decide) (by exact bz_rg _) (fun c41 => ?_) (fun c41 => ?_)
      · exact absurd c41 (by rw [bz_pos (show 0 < z by omega)]; decide)
      · refine a_iconst (pc := 44) ok dX7_band_44 ?_
        exact a_iret (pc := 45) ok dX7_band_45 (⟨rfl, WM_mk hB hI⟩)
  refine a_aload_n (pc := 0) ok dX7_band_0 rfl ?_
  refine a_iload_n (pc := 1) ok dX7_band_1 rfl ?_
  refine a_i2l (pc := 2) ok dX7_band_2 (by first | omega | (unfold rg; omega) | (simp only [rg] at *; omega) | exact bz_rg _ | grind [rg]) ?_
  refine a_lconst (pc := 3) (z := 0) ok dX7_band_3 rfl ?_
  refine a_aload_n (pc := 4) ok dX7_band_4 rfl ?_
  refine a_getf (pc := 5) ok dX7_band_5 fl7_13 rfl rfl ?_
  refine a_iconst (pc := 8) ok dX7_band_8 ?_
  refine a_rldN (pc := 9) ok dX7_band_9 rfl ?_
  refine a_i2l (pc := 10) ok dX7_band_10 (by unfold rg; omega) ?_
  refine a_callSp (pc := 11) ok [] dX7_band_11 mv7_68 miX7_in (c_in (by unfold rgL; unfold rg at hx; omega) (by unfold rgL; omega) (by unfold rgL; omega)) ⟨by decide, by decide, rfl, rfl, Nat.zero_le _, Nat.zero_le _⟩ rfl rfl (Nat.le_of_ble_eq_true rfl) rfl (by decide) ?_
  refine a_if_ne (pc := 14) (tgt := 21) ok dX7_band_14 (by decide) (by exact bz_rg _) (fun c14 => ?_) (fun c14 => ?_)
  · refine a_iload_n (pc := 21) ok dX7_band_21 rfl ?_
    refine a_i2l (pc := 22) ok dX7_band_22 (by first | omega | (unfold rg; omega) | (simp only [rg] at *; omega) | exact bz_rg _ | grind [rg]) ?_
    refine a_lconst (pc := 23) (z := 0) ok dX7_band_23 rfl ?_
    refine a_ldc2 (pc := 24) (z := 3) (v := Int64.ofInt 3) ok dX7_band_24 (ug6 150 (by decide +kernel) rfl) rfl ?_
    refine a_callSp (pc := 27) ok [] dX7_band_27 mv7_68 miX7_in (c_in (by unfold rgL; unfold rg at hw; omega) (by unfold rgL; omega) (by unfold rgL; omega)) ⟨by decide, by decide, rfl, rfl, Nat.zero_le _, Nat.zero_le _⟩ rfl rfl (Nat.le_of_ble_eq_true rfl) rfl (by decide) ?_
    refine a_if_eq (pc := 30) (tgt := 37) ok dX7_band_30 (by decide) (by exact bz_rg _) (fun c30 => ?_) (fun c30 => ?_)
    · refine a_iconst (pc := 37) ok dX7_band_37 ?_
      exact s38 2 (by unfold kBand; rw [if_neg (fun z => c14 (bz_0.mpr z)), if_neg (bz_0.mp c30)])
    · refine a_iconst (pc := 33) ok dX7_band_33 ?_
      refine a_goto (pc := 34) (tgt := 38) ok dX7_band_34 (by decide) ?_
      exact s38 0 (by unfold kBand; rw [if_neg (fun z => c14 (bz_0.mpr z)), if_pos (Classical.byContradiction fun z => c30 (bz_0.mpr z))])
  · refine a_iconst (pc := 17) ok dX7_band_17 ?_
    refine a_goto (pc := 18) (tgt := 38) ok dX7_band_18 (by decide) ?_
    exact s38 1 (by unfold kBand; rw [if_pos (bz_0.mp (by first | exact c14 | exact Decidable.not_not.mp c14))])
end MP4
