/-! MODEL's face: islands, outlines, borders told. -/
section MP3
variable {l : Launch} {rf sz : Int} {S : St} {ac : Int} {B I : Int → Int} {m : Int} {Fi Co Br Wt mk gy : Int → Int} {S2 : St} {tx di ke ik ea : Int → Int} {sd rt lf wy sp ou : Int}
/-- which exception: an island and a number of it -/
noncomputable def kIsle (S : St) (i what hi : Int) : Int := if ¬ (0 ≤ i ∧ i < mS S) then 1 else if 0 ≤ what ∧ what ≤ hi then 0 else 2
noncomputable abbrev fS (S : St) (i : Int) : Int := fo (sC S) (sR S) (bS S) i
noncomputable def aIsland (S : St) (i what : Int) : Int :=
  if what = 0 then fS S i else if what = 1 then siz (sC S) (sR S) (bS S) (fS S i) else if what = 2 then bS S (fS S i) else if what = 3 then soK (sC S) (sR S) (bS S) (fS S i) (sC S * sR S).toNat else if what = 4 then esK (sC S) (sR S) (bS S) (fS S i) (sC S * sR S).toNat else if what = 5 then cntK (fun j => decide (0 < brd (sC S) (sR S) (bS S) (fS S i) j)) (sC S * sR S).toNat else if what = 6 then hoF (sC S) (sR S) (bS S) (fS S i) else if what = 7 then moN (sC S) (sR S) (bS S) (fS S i) (mS S).toNat else inF (sC S) (sR S) (bS S) (fS S i)
theorem kIsle_rg {i what hi : Int} : 0 ≤ kIsle S i what hi ∧ kIsle S i what hi ≤ 2 := by
  unfold kIsle
  repeat' split
  all_goals omega
theorem kIsle_0 {i what hi : Int} (h : kIsle S i what hi = 0) : (0 ≤ i ∧ i < mS S) ∧ 0 ≤ what ∧ what ≤ hi := by
  unfold kIsle at h
  repeat' split at h
  all_goals omega
theorem fS_ok (hS : SV S) {i : Int} (h : 0 ≤ i ∧ i < mS S) : cel (sC S) (sR S) (fS S i) ∧ lw (sC S) (sR S) (bS S) (fS S i) = fS S i ∧ rk (sC S) (sR S) (bS S) (fS S i) = i := fo_ok hS.1 h.1 h.2
theorem dX7_island_0 : decode cX7_island 0 = .ok (.aload_n 0, 1) := by decide +kernel
theorem dX7_island_1 : decode cX7_island 1 = .ok (.aload_n 0, 1) := by decide +kernel
theorem dX7_island_2 : decode cX7_island 2 = .ok (.iload_n 1, 1) := by decide +kernel
theorem dX7_island_3 : decode cX7_island 3 = .ok (.invokevirtual 269, 3) := by decide +kernel
theorem dX7_island_6 : decode cX7_island 6 = .ok (.ifCond .ne 7, 3) := by decide +kernel
theorem dX7_island_9 : decode cX7_island 9 = .ok (.iconst 1, 1) := by decide +kernel
theorem dX7_island_10 : decode cX7_island 10 = .ok (.goto 20, 3) := by decide +kernel
theorem dX7_island_13 : decode cX7_island 13 = .ok (.iload_n 2, 1) := by decide +kernel
theorem dX7_island_14 : decode cX7_island 14 = .ok (.i2l, 1) := by decide +kernel
theorem dX7_island_15 : decode cX7_island 15 = .ok (.lconst 0, 1) := by decide +kernel
theorem dX7_island_16 : decode cX7_island 16 = .ok (.ldc2_w 272, 3) := by decide +kernel
theorem dX7_island_19 : decode cX7_island 19 = .ok (.invokestatic 68, 3) := by decide +kernel
theorem dX7_island_22 : decode cX7_island 22 = .ok (.ifCond .eq 7, 3) := by decide +kernel
theorem dX7_island_25 : decode cX7_island 25 = .ok (.iconst 0, 1) := by decide +kernel
theorem dX7_island_26 : decode cX7_island 26 = .ok (.goto 4, 3) := by decide +kernel
theorem dX7_island_29 : decode cX7_island 29 = .ok (.iconst 2, 1) := by decide +kernel
theorem dX7_island_30 : decode cX7_island 30 = .ok (.invokevirtual 192, 3) := by decide +kernel
theorem dX7_island_33 : decode cX7_island 33 = .ok (.ifCond .eq 5, 3) := by decide +kernel
theorem dX7_island_36 : decode cX7_island 36 = .ok (.iconst 0, 1) := by decide +kernel
theorem dX7_island_37 : decode cX7_island 37 = .ok (.ireturn, 1) := by decide +kernel
theorem dX7_island_38 : decode cX7_island 38 = .ok (.iload_n 2, 1) := by decide +kernel
theorem dX7_island_39 : decode cX7_island 39 = .ok (.tableswitch 107 0 7 #[45, 52, 59, 65, 65, 81, 87, 97], 45) := by decide +kernel
theorem dX7_island_84 : decode cX7_island 84 = .ok (.aload_n 0, 1) := by decide +kernel
theorem dX7_island_85 : decode cX7_island 85 = .ok (.getfield 35, 3) := by decide +kernel
theorem dX7_island_88 : decode cX7_island 88 = .ok (.iload_n 1, 1) := by decide +kernel
theorem dX7_island_89 : decode cX7_island 89 = .ok (.iaload, 1) := by decide +kernel
theorem dX7_island_90 : decode cX7_island 90 = .ok (.ireturn, 1) := by decide +kernel
theorem dX7_island_91 : decode cX7_island 91 = .ok (.aload_n 0, 1) := by decide +kernel
theorem dX7_island_92 : decode cX7_island 92 = .ok (.getfield 38, 3) := by decide +kernel
theorem dX7_island_95 : decode cX7_island 95 = .ok (.iload_n 1, 1) := by decide +kernel
theorem dX7_island_96 : decode cX7_island 96 = .ok (.iaload, 1) := by decide +kernel
theorem dX7_island_97 : decode cX7_island 97 = .ok (.ireturn, 1) := by decide +kernel
theorem dX7_island_98 : decode cX7_island 98 = .ok (.aload_n 0, 1) := by decide +kernel
theorem dX7_island_99 : decode cX7_island 99 = .ok (.iload_n 1, 1) := by decide +kernel
theorem dX7_island_100 : decode cX7_island 100 = .ok (.invokevirtual 96, 3) := by decide +kernel
theorem dX7_island_103 : decode cX7_island 103 = .ok (.ireturn, 1) := by decide +kernel
theorem dX7_island_104 : decode cX7_island 104 = .ok (.aload_n 0, 1) := by decide +kernel
theorem dX7_island_105 : decode cX7_island 105 = .ok (.iload_n 1, 1) := by decide +kernel
theorem dX7_island_106 : decode cX7_island 106 = .ok (.iload_n 2, 1) := by decide +kernel
theorem dX7_island_107 : decode cX7_island 107 = .ok (.iconst 4, 1) := by decide +kernel
theorem dX7_island_108 : decode cX7_island 108 = .ok (.if_icmp .ne 7, 3) := by decide +kernel
theorem dX7_island_111 : decode cX7_island 111 = .ok (.iconst 1, 1) := by decide +kernel
theorem dX7_island_112 : decode cX7_island 112 = .ok (.goto 4, 3) := by decide +kernel
theorem dX7_island_115 : decode cX7_island 115 = .ok (.iconst 0, 1) := by decide +kernel
theorem dX7_island_116 : decode cX7_island 116 = .ok (.invokevirtual 274, 3) := by decide +kernel
theorem dX7_island_119 : decode cX7_island 119 = .ok (.ireturn, 1) := by decide +kernel
theorem dX7_island_120 : decode cX7_island 120 = .ok (.aload_n 0, 1) := by decide +kernel
theorem dX7_island_121 : decode cX7_island 121 = .ok (.iload_n 1, 1) := by decide +kernel
theorem dX7_island_122 : decode cX7_island 122 = .ok (.invokevirtual 278, 3) := by decide +kernel
theorem dX7_island_125 : decode cX7_island 125 = .ok (.ireturn, 1) := by decide +kernel
theorem dX7_island_126 : decode cX7_island 126 = .ok (.aload_n 0, 1) := by decide +kernel
theorem dX7_island_127 : decode cX7_island 127 = .ok (.aload_n 0, 1) := by decide +kernel
theorem dX7_island_128 : decode cX7_island 128 = .ok (.getfield 13, 3) := by decide +kernel
theorem dX7_island_131 : decode cX7_island 131 = .ok (.iload_n 1, 1) := by decide +kernel
theorem dX7_island_132 : decode cX7_island 132 = .ok (.invokevirtual 261, 3) := by decide +kernel
theorem dX7_island_135 : decode cX7_island 135 = .ok (.ireturn, 1) := by decide +kernel
theorem dX7_island_136 : decode cX7_island 136 = .ok (.aload_n 0, 1) := by decide +kernel
theorem dX7_island_137 : decode cX7_island 137 = .ok (.aload_n 0, 1) := by decide +kernel
theorem dX7_island_138 : decode cX7_island 138 = .ok (.getfield 13, 3) := by decide +kernel
theorem dX7_island_141 : decode cX7_island 141 = .ok (.iload_n 1, 1) := by decide +kernel
theorem dX7_island_142 : decode cX7_island 142 = .ok (.invokevirtual 281, 3) := by decide +kernel
theorem dX7_island_145 : decode cX7_island 145 = .ok (.ireturn, 1) := by decide +kernel
theorem dX7_island_146 : decode cX7_island 146 = .ok (.aload_n 0, 1) := by decide +kernel
theorem dX7_island_147 : decode cX7_island 147 = .ok (.aload_n 0, 1) := by decide +kernel
theorem dX7_island_148 : decode cX7_island 148 = .ok (.getfield 13, 3) := by decide +kernel
theorem dX7_island_151 : decode cX7_island 151 = .ok (.iload_n 1, 1) := by decide +kernel
theorem dX7_island_152 : decode cX7_island 152 = .ok (.invokevirtual 284, 3) := by decide +kernel
theorem dX7_island_155 : decode cX7_island 155 = .ok (.ireturn, 1) := by decide +kernel
theorem c_misland {i what : Int} (hS : SV S) (hB : ∀ i, 0 ≤ B i ∧ B i ≤ 5) (hI : ∀ i, rg (I i)) (hi : rg i) (hw : rg what) : Ct l yX7_island cX7_island 3 (some .int) rmX7_island [.ref 0, iv i, iv what] (mdW rf sz S ac B I m Fi Co Br Wt mk gy S2 tx di ke ik ea sd rt lf wy sp ou)
    (fun z M => z = some (iv (if kIsle S i what 8 = 0 then aIsland S i what else 0)) ∧ WM (kIsle S i what 8) sz S ac tx di ke ik M) := by
  refine Ct.of miX7_island (Nat.le_of_ble_eq_true rfl) ?_
  intro X hXl hN ok
  refine AW.cast (L2 := [some (.ref 0), some (iv i), some (iv what)]) ?_ rfl rfl rfl
  have hm : 1 ≤ mS S ∧ mS S ≤ 144 := mny_1 hS.1
  have hd := hS.1
  have hkr := kIsle_rg (S := S) (i := i) (what := what) (hi := 8)
  have s30 : ∀ B I Fi Co Br Wt : Int → Int, JS S B I Fi Co → ∀ z : Int, z = kIsle S i what 8 → AW X 0 0 30 [some (.ref 0), some (iv i), some (iv what)] [iv z, .ref 0] (mdW rf sz S ac (B) (I) (mS S) (Fi) (Co) (Br) (Wt) mk gy S2 tx di ke ik ea sd rt lf wy sp ou) := by
    intro B I Fi Co Br Wt hJ z hz
    have hB := hJ.1
    have hI := hJ.2.1
    by_cases k0 : kIsle S i what 8 = 0
    · rw [if_pos k0] at ok
      rw [k0] at ok hz
      subst hz
      obtain ⟨hi2, hw2⟩ := kIsle_0 k0
      obtain ⟨f1, f2, f3⟩ := fS_ok hS hi2
      have e6 := hJ.2.2.2.2.2 (fS S i) f1 f2
      rw [f3] at e6
      refine x_callVi (pc := 30) ok [0, 11, 1, 10, 12, 13, 14, 2, 3, 4, 5, 6, 7, 8, 9, 15] 1 dX7_island_30 mv7_192 miX7_refused (c_refused (by unfold rg; omega)) ⟨by decide, by decide, rfl, rfl, Nat.zero_le _, Nat.zero_le _⟩ rfl rfl (Nat.le_of_ble_eq_true rfl) rfl rfl (by decide) rfl rfl rfl ?_
      refine a_if_eq (pc := 33) (tgt := 38) ok dX7_island_33 (by decide) (by first | omega | (unfold rg; omega) | (simp only [rg] at *; omega) | exact bz_rg _ | grind [rg]) (fun c33 => ?_) (fun c33 => ?_)
      · refine AW.cast (M2 := (mdW (0) sz S ac (B) (I) (mS S) (Fi) (Co) (Br) (Wt) mk gy S2 tx di ke ik ea sd rt lf wy sp ou)) ?_ rfl rfl rfl
        refine a_iload_n (pc := 38) ok dX7_island_38 rfl ?_
        refine a_tab (pc := 39) (dt := 146) ok [84, 91, 98, 104, 104, 120, 126, 136] dX7_island_39 (by decide) (by decide) (by decide) (by first | omega | (unfold rg; omega) | (simp only [rg] at *; omega) | exact bz_rg _ | grind [rg]) (fun j39 hj39 c39 => ?_) (fun c39 => ?_)
        · rcases (show j39 = 0 ∨ j39 = 1 ∨ j39 = 2 ∨ j39 = 3 ∨ j39 = 4 ∨ j39 = 5 ∨ j39 = 6 ∨ j39 = 7 by simp only [List.length_cons, List.length_nil] at hj39; omega) with rfl | rfl | rfl | rfl | rfl | rfl | rfl | rfl
          · refine a_aload_n (pc := 84) ok dX7_island_84 rfl ?_
            refine a_getf (pc := 85) ok dX7_island_85 fl7_35 rfl rfl ?_
            refine a_iload_n (pc := 88) ok dX7_island_88 rfl ?_
            refine a_iald (pc := 89) ok dX7_island_89 rfl (by first | decide | omega) (by first | omega | (unfold rg; omega) | (simp only [rg] at *; omega) | exact bz_rg _ | grind [rg]) ?_
            exact a_iret (pc := 90) ok dX7_island_90 (⟨by rw [show what = 0 by omega, e6.1]; rfl, WM_mk hB hI⟩)
          · refine a_aload_n (pc := 91) ok dX7_island_91 rfl ?_
            refine a_getf (pc := 92) ok dX7_island_92 fl7_38 rfl rfl ?_
            refine a_iload_n (pc := 95) ok dX7_island_95 rfl ?_
            refine a_iald (pc := 96) ok dX7_island_96 rfl (by first | decide | omega) (by first | omega | (unfold rg; omega) | (simp only [rg] at *; omega) | exact bz_rg _ | grind [rg]) ?_
            exact a_iret (pc := 97) ok dX7_island_97 (⟨by rw [show what = 1 by omega, e6.2]; rfl, WM_mk hB hI⟩)
          · refine a_aload_n (pc := 98) ok dX7_island_98 rfl ?_
            refine a_iload_n (pc := 99) ok dX7_island_99 rfl ?_
            refine x_callVp (pc := 100) ok [0, 1, 2, 3, 4, 5, 6, 7, 8, 9, 1, 10, 11, 12, 13, 14, 15] 10 dX7_island_100 mv7_96 miX7_bandOfIsle (c_bandOfIsleN hd hi2 hJ) ⟨by decide, by decide, rfl, rfl, Nat.zero_le _, Nat.zero_le _⟩ rfl rfl (Nat.le_of_ble_eq_true rfl) rfl rfl (by decide) rfl rfl ?_
            exact a_iret (pc := 103) ok dX7_island_103 (⟨by rw [show what = 2 by omega]; rfl, WM_mk hB hI⟩)
          · refine a_aload_n (pc := 104) ok dX7_island_104 rfl ?_
            refine a_iload_n (pc := 105) ok dX7_island_105 rfl ?_
            refine a_iload_n (pc := 106) ok dX7_island_106 rfl ?_
            refine a_iconst (pc := 107) ok dX7_island_107 ?_
            refine a_icmp_ne (pc := 108) (tgt := 115) ok dX7_island_108 (by decide) (by first | omega | (unfold rg; omega) | (simp only [rg] at *; omega) | exact bz_rg _ | grind [rg]) (by first | omega | (unfold rg; omega) | (simp only [rg] at *; omega) | exact bz_rg _ | grind [rg]) (fun c108 => ?_) (fun c108 => ?_)
            · refine a_iconst (pc := 115) ok dX7_island_115 ?_
              refine a_callVp (pc := 116) ok [0, 1, 2, 3, 4, 5, 6, 7, 8, 9, 10, 11, 12, 13, 14, 15] dX7_island_116 mv7_274 miX7_sidesOfIsle (c_sidesOfIsle hS f1 f2 f3 (Or.inl rfl) hJ) ⟨by decide, by decide, rfl, rfl, Nat.zero_le _, Nat.zero_le _⟩ rfl rfl (Nat.le_of_ble_eq_true rfl) rfl (by decide) rfl rfl ?_
              exact a_iret (pc := 119) ok dX7_island_119 (⟨by rw [show what = 3 by omega]; rfl, WM_mk hB hI⟩)
            · omega
          · refine a_aload_n (pc := 104) ok dX7_island_104 rfl ?_
            refine a_iload_n (pc := 105) ok dX7_island_105 rfl ?_
            refine a_iload_n (pc := 106) ok dX7_island_106 rfl ?_
            refine a_iconst (pc := 107) ok dX7_island_107 ?_
            refine a_icmp_ne (pc := 108) (tgt := 115) ok dX7_island_108 (by decide) (by first | omega | (unfold rg; omega) | (simp only [rg] at *; omega) | exact bz_rg _ | grind [rg]) (by first | omega | (unfold rg; omega) | (simp only [rg] at *; omega) | exact bz_rg _ | grind [rg]) (fun c108 => ?_) (fun c108 => ?_)
            · omega
            · refine a_iconst (pc := 111) ok dX7_island_111 ?_
              refine a_goto (pc := 112) (tgt := 116) ok dX7_island_112 (by decide) ?_
              refine a_callVp (pc := 116) ok [0, 1, 2, 3, 4, 5, 6, 7, 8, 9, 10, 11, 12, 13, 14, 15] dX7_island_116 mv7_274 miX7_sidesOfIsle (c_sidesOfIsle hS f1 f2 f3 (Or.inr rfl) hJ) ⟨by decide, by decide, rfl, rfl, Nat.zero_le _, Nat.zero_le _⟩ rfl rfl (Nat.le_of_ble_eq_true rfl) rfl (by decide) rfl rfl ?_
              exact a_iret (pc := 119) ok dX7_island_119 (⟨by rw [show what = 4 by omega]; rfl, WM_mk hB hI⟩)
          · refine a_aload_n (pc := 120) ok dX7_island_120 rfl ?_
            refine a_iload_n (pc := 121) ok dX7_island_121 rfl ?_
            refine a_callV (pc := 122) ok [0, 1, 2, 3, 4, 5, 6, 7, 8, 9, 10, 11, 12, 13, 14, 15] dX7_island_122 mv7_278 miX7_near (c_near hS f1 f2 f3 hJ) ⟨by decide, by decide, rfl, rfl, Nat.zero_le _, Nat.zero_le _⟩ rfl rfl (Nat.le_of_ble_eq_true rfl) rfl (by decide) rfl rfl (fun v M' h => by obtain ⟨_, _, h⟩ := h; rw [h]; rfl) ?_
            rintro _ M' ⟨rfl, Br', rfl⟩
            refine AW.cast (st2 := [iv (cntK (fun j => decide (0 < brd (sC S) (sR S) (bS S) (fS S i) j)) (sC S * sR S).toNat)]) (M2 := (mdW (0) sz S ac (B) (I) (mS S) (Fi) (Co) (Br') (Wt) mk gy S2 tx di ke ik ea sd rt lf wy sp ou)) ?_ rfl rfl rfl
            exact a_iret (pc := 125) ok dX7_island_125 (⟨by rw [show what = 5 by omega]; rfl, WM_mk hB hI⟩)
          · refine a_aload_n (pc := 126) ok dX7_island_126 rfl ?_
            refine a_aload_n (pc := 127) ok dX7_island_127 rfl ?_
            refine a_getf (pc := 128) ok dX7_island_128 fl7_13 rfl rfl ?_
            refine a_iload_n (pc := 131) ok dX7_island_131 rfl ?_
            refine x_callV (pc := 132) ok [0, 1, 2, 3, 4, 5, 6, 7, 8, 9, 1, 10, 11, 12, 13, 14, 15] 10 dX7_island_132 mv7_261 miX7_holes (c_holes hd f1 f2 f3 hJ) ⟨by decide, by decide, rfl, rfl, Nat.zero_le _, Nat.zero_le _⟩ rfl rfl (Nat.le_of_ble_eq_true rfl) rfl rfl (by decide) rfl rfl (fun v M' h => by obtain ⟨_, _, _, h⟩ := h; rw [h]; rfl) ?_
            rintro _ M' ⟨rfl, mk', Q', rfl⟩
            refine AW.cast (st2 := [iv (hoF (sC S) (sR S) (bS S) (fS S i))]) (M2 := (mdW (0) sz S ac (B) (I) (mS S) (Fi) (Co) (Br) (Q') (mk') gy S2 tx di ke ik ea sd rt lf wy sp ou)) ?_ rfl rfl rfl
            exact a_iret (pc := 135) ok dX7_island_135 (⟨by rw [show what = 6 by omega]; rfl, WM_mk hB hI⟩)
          · refine a_aload_n (pc := 136) ok dX7_island_136 rfl ?_
            refine a_aload_n (pc := 137) ok dX7_island_137 rfl ?_
            refine a_getf (pc := 138) ok dX7_island_138 fl7_13 rfl rfl ?_
            refine a_iload_n (pc := 141) ok dX7_island_141 rfl ?_
            refine x_callV (pc := 142) ok [0, 1, 2, 3, 4, 5, 6, 7, 8, 9, 1, 10, 11, 12, 13, 14, 15] 10 dX7_island_142 mv7_281 miX7_motherOf (c_motherOf hd f1 f2 f3 hJ) ⟨by decide, by decide, rfl, rfl, Nat.zero_le _, Nat.zero_le _⟩ rfl rfl (Nat.le_of_ble_eq_true rfl) rfl rfl (by decide) rfl rfl (fun v M' h => by obtain ⟨_, _, _, h⟩ := h; rw [h]; rfl) ?_
            rintro _ M' ⟨rfl, mk', Q', rfl⟩
            refine AW.cast (st2 := [iv (moN (sC S) (sR S) (bS S) (fS S i) (mS S).toNat)]) (M2 := (mdW (0) sz S ac (B) (I) (mS S) (Fi) (Co) (Br) (Q') (mk') gy S2 tx di ke ik ea sd rt lf wy sp ou)) ?_ rfl rfl rfl
            exact a_iret (pc := 145) ok dX7_island_145 (⟨by rw [show what = 7 by omega]; rfl, WM_mk hB hI⟩)
        · refine a_aload_n (pc := 146) ok dX7_island_146 rfl ?_
          refine a_aload_n (pc := 147) ok dX7_island_147 rfl ?_
          refine a_getf (pc := 148) ok dX7_island_148 fl7_13 rfl rfl ?_
          refine a_iload_n (pc := 151) ok dX7_island_151 rfl ?_
          refine x_callV (pc := 152) ok [0, 1, 2, 3, 4, 5, 6, 7, 8, 9, 1, 10, 11, 12, 13, 14, 15] 10 dX7_island_152 mv7_284 miX7_inIt (c_inIt hd f1 f2 f3 hJ) ⟨by decide, by decide, rfl, rfl, Nat.zero_le _, Nat.zero_le _⟩ rfl rfl (Nat.le_of_ble_eq_true rfl) rfl rfl (by decide) rfl rfl (fun v M' h => by obtain ⟨_, _, _, h⟩ := h; rw [h]; rfl) ?_
          rintro _ M' ⟨rfl, mk', Q', rfl⟩
          refine AW.cast (st2 := [iv (inF (sC S) (sR S) (bS S) (fS S i))]) (M2 := (mdW (0) sz S ac (B) (I) (mS S) (Fi) (Co) (Br) (Q') (mk') gy S2 tx di ke ik ea sd rt lf wy sp ou)) ?_ rfl rfl rfl
          exact a_iret (pc := 155) ok dX7_island_155 (⟨by rw [show what = 8 by omega]; rfl, WM_mk hB hI⟩)
      · exact absurd rfl c33
    · rw [if_neg k0, ← hz] at ok
      refine x_callVi (pc := 30) ok [0, 11, 1, 10, 12, 13, 14, 2, 3, 4, 5, 6, 7, 8, 9, 15] 1 dX7_island_30 mv7_192 miX7_refused (c_refused (by unfold rg; omega)) ⟨by decide, by decide, rfl, rfl, Nat.zero_le _, Nat.zero_le _⟩ rfl rfl (Nat.le_of_ble_eq_true rfl) rfl rfl (by decide) rfl rfl rfl ?_
      refine a_if_eq (pc := 33) (tgt := 38) ok dX7_island_33 (by decide) (by exact bz_rg _) (fun c33 => ?_) (fun c33 => ?_)
      · exact absurd c33 (by rw [bz_pos (show 0 < z by omega)]; decide)
      · refine a_iconst (pc := 36) ok dX7_island_36 ?_
        exact a_iret (pc := 37) ok dX7_island_37 (⟨rfl, WM_mk hB hI⟩)
  refine a_aload_n (pc := 0) ok dX7_island_0 rfl ?_
  refine a_aload_n (pc := 1) ok dX7_island_1 rfl ?_
  refine a_iload_n (pc := 2) ok dX7_island_2 rfl ?_
  refine a_callV (pc := 3) ok [0, 1, 2, 3, 4, 5, 6, 7, 8, 9, 10, 11, 12, 13, 14, 15] dX7_island_3 mv7_269 miX7_isIsle (c_isIsle hS hB hI hi) ⟨by decide, by decide, rfl, rfl, Nat.zero_le _, Nat.zero_le _⟩ rfl rfl (Nat.le_of_ble_eq_true rfl) rfl (by decide) rfl rfl (fun v M' h => by obtain ⟨_, _, _, _, _, _, _, h, _⟩ := h; rw [h]; rfl) ?_
  rintro _ M' ⟨rfl, B', I', Fi', Co', Br', Q', rfl, hJ⟩
  refine AW.cast (st2 := [iv (bz (0 ≤ i ∧ i < mS S)), .ref 0]) (M2 := (mdW rf sz S ac (B') (I') (mS S) (Fi') (Co') (Br') (Q') mk gy S2 tx di ke ik ea sd rt lf wy sp ou)) ?_ rfl rfl rfl
  refine a_if_ne (pc := 6) (tgt := 13) ok dX7_island_6 (by decide) (by exact bz_rg _) (fun c6 => ?_) (fun c6 => ?_)
  · refine a_iload_n (pc := 13) ok dX7_island_13 rfl ?_
    refine a_i2l (pc := 14) ok dX7_island_14 (by first | omega | (unfold rg; omega) | (simp only [rg] at *; omega) | exact bz_rg _ | grind [rg]) ?_
    refine a_lconst (pc := 15) (z := 0) ok dX7_island_15 rfl ?_
    refine a_ldc2 (pc := 16) (z := 8) (v := Int64.ofInt 8) ok dX7_island_16 (ug6 104 (by decide +kernel) rfl) rfl ?_
    refine a_callSp (pc := 19) ok [] dX7_island_19 mv7_68 miX7_in (c_in (by unfold rgL; unfold rg at hw; omega) (by unfold rgL; omega) (by unfold rgL; omega)) ⟨by decide, by decide, rfl, rfl, Nat.zero_le _, Nat.zero_le _⟩ rfl rfl (Nat.le_of_ble_eq_true rfl) rfl (by decide) ?_
    refine a_if_eq (pc := 22) (tgt := 29) ok dX7_island_22 (by decide) (by exact bz_rg _) (fun c22 => ?_) (fun c22 => ?_)
    · refine a_iconst (pc := 29) ok dX7_island_29 ?_
      exact s30 _ _ _ _ _ _ hJ 2 (by unfold kIsle; rw [if_neg (fun z => c6 (bz_0.mpr z)), if_neg (bz_0.mp c22)])
    · refine a_iconst (pc := 25) ok dX7_island_25 ?_
      refine a_goto (pc := 26) (tgt := 30) ok dX7_island_26 (by decide) ?_
      exact s30 _ _ _ _ _ _ hJ 0 (by unfold kIsle; rw [if_neg (fun z => c6 (bz_0.mpr z)), if_pos (Classical.byContradiction fun z => c22 (bz_0.mpr z))])
  · refine a_iconst (pc := 9) ok dX7_island_9 ?_
    refine a_goto (pc := 10) (tgt := 30) ok dX7_island_10 (by decide) ?_
    exact s30 _ _ _ _ _ _ hJ 1 (by unfold kIsle; rw [if_pos (bz_0.mp c6)])
noncomputable def aOutline (S : St) (i what : Int) : Int :=
  if what = 0 then oN1 (sC S) (sR S) (bS S) (fS S i) else if what = 1 then oR (inI (sC S) (sR S) (bS S) (fS S i)) (o0 (sC S) (fS S i)) (oN1 (sC S) (sR S) (bS S) (fS S i)).toNat else oL (inI (sC S) (sR S) (bS S) (fS S i)) (o0 (sC S) (fS S i)) (oN1 (sC S) (sR S) (bS S) (fS S i)).toNat
noncomputable abbrev wS1 (S : St) (i a : Int) : Int := oA (inI (sC S) (sR S) (bS S) (fS S i)) (o0 (sC S) (fS S i)) a (oN1 (sC S) (sR S) (bS S) (fS S i)).toNat
theorem dX7_outline_0 : decode cX7_outline 0 = .ok (.aload_n 0, 1) := by decide +kernel
theorem dX7_outline_1 : decode cX7_outline 1 = .ok (.aload_n 0, 1) := by decide +kernel
theorem dX7_outline_2 : decode cX7_outline 2 = .ok (.iload_n 1, 1) := by decide +kernel
theorem dX7_outline_3 : decode cX7_outline 3 = .ok (.invokevirtual 269, 3) := by decide +kernel
theorem dX7_outline_6 : decode cX7_outline 6 = .ok (.ifCond .ne 7, 3) := by decide +kernel
theorem dX7_outline_9 : decode cX7_outline 9 = .ok (.iconst 1, 1) := by decide +kernel
theorem dX7_outline_10 : decode cX7_outline 10 = .ok (.goto 20, 3) := by decide +kernel
theorem dX7_outline_13 : decode cX7_outline 13 = .ok (.iload_n 2, 1) := by decide +kernel
theorem dX7_outline_14 : decode cX7_outline 14 = .ok (.i2l, 1) := by decide +kernel
theorem dX7_outline_15 : decode cX7_outline 15 = .ok (.lconst 0, 1) := by decide +kernel
theorem dX7_outline_16 : decode cX7_outline 16 = .ok (.ldc2_w 287, 3) := by decide +kernel
theorem dX7_outline_19 : decode cX7_outline 19 = .ok (.invokestatic 68, 3) := by decide +kernel
theorem dX7_outline_22 : decode cX7_outline 22 = .ok (.ifCond .eq 7, 3) := by decide +kernel
theorem dX7_outline_25 : decode cX7_outline 25 = .ok (.iconst 0, 1) := by decide +kernel
theorem dX7_outline_26 : decode cX7_outline 26 = .ok (.goto 4, 3) := by decide +kernel
theorem dX7_outline_29 : decode cX7_outline 29 = .ok (.iconst 2, 1) := by decide +kernel
theorem dX7_outline_30 : decode cX7_outline 30 = .ok (.invokevirtual 192, 3) := by decide +kernel
theorem dX7_outline_33 : decode cX7_outline 33 = .ok (.ifCond .eq 5, 3) := by decide +kernel
theorem dX7_outline_36 : decode cX7_outline 36 = .ok (.iconst 0, 1) := by decide +kernel
theorem dX7_outline_37 : decode cX7_outline 37 = .ok (.ireturn, 1) := by decide +kernel
theorem dX7_outline_38 : decode cX7_outline 38 = .ok (.aload_n 0, 1) := by decide +kernel
theorem dX7_outline_39 : decode cX7_outline 39 = .ok (.aload_n 0, 1) := by decide +kernel
theorem dX7_outline_40 : decode cX7_outline 40 = .ok (.getfield 13, 3) := by decide +kernel
theorem dX7_outline_43 : decode cX7_outline 43 = .ok (.iload_n 1, 1) := by decide +kernel
theorem dX7_outline_44 : decode cX7_outline 44 = .ok (.iconst (-1), 1) := by decide +kernel
theorem dX7_outline_45 : decode cX7_outline 45 = .ok (.invokevirtual 289, 3) := by decide +kernel
theorem dX7_outline_48 : decode cX7_outline 48 = .ok (.iload_n 2, 1) := by decide +kernel
theorem dX7_outline_49 : decode cX7_outline 49 = .ok (.ifCond .ne 10, 3) := by decide +kernel
theorem dX7_outline_52 : decode cX7_outline 52 = .ok (.aload_n 0, 1) := by decide +kernel
theorem dX7_outline_53 : decode cX7_outline 53 = .ok (.getfield 142, 3) := by decide +kernel
theorem dX7_outline_56 : decode cX7_outline 56 = .ok (.goto 19, 3) := by decide +kernel
theorem dX7_outline_59 : decode cX7_outline 59 = .ok (.iload_n 2, 1) := by decide +kernel
theorem dX7_outline_60 : decode cX7_outline 60 = .ok (.iconst 1, 1) := by decide +kernel
theorem dX7_outline_61 : decode cX7_outline 61 = .ok (.if_icmp .ne 10, 3) := by decide +kernel
theorem dX7_outline_64 : decode cX7_outline 64 = .ok (.aload_n 0, 1) := by decide +kernel
theorem dX7_outline_65 : decode cX7_outline 65 = .ok (.getfield 145, 3) := by decide +kernel
theorem dX7_outline_68 : decode cX7_outline 68 = .ok (.goto 7, 3) := by decide +kernel
theorem dX7_outline_71 : decode cX7_outline 71 = .ok (.aload_n 0, 1) := by decide +kernel
theorem dX7_outline_72 : decode cX7_outline 72 = .ok (.getfield 148, 3) := by decide +kernel
theorem dX7_outline_75 : decode cX7_outline 75 = .ok (.ireturn, 1) := by decide +kernel
set_option maxRecDepth 100000 in
theorem c_moutline {i what : Int} (hS : SV S) (hB : ∀ i, 0 ≤ B i ∧ B i ≤ 5) (hI : ∀ i, rg (I i)) (hi : rg i) (hw : rg what) : Ct l yX7_outline cX7_outline 3 (some .int) rmX7_outline [.ref 0, iv i, iv what] (mdW rf sz S ac B I m Fi Co Br Wt mk gy S2 tx di ke ik ea sd rt lf wy sp ou)
    (fun z M => z = some (iv (if kIsle S i what 2 = 0 then aOutline S i what else 0)) ∧ WM (kIsle S i what 2) sz S ac tx di ke ik M) := by
  refine Ct.of miX7_outline (Nat.le_of_ble_eq_true rfl) ?_
  intro X hXl hN ok
  refine AW.cast (L2 := [some (.ref 0), some (iv i), some (iv what)]) ?_ rfl rfl rfl
  have hm : 1 ≤ mS S ∧ mS S ≤ 144 := mny_1 hS.1
  have hd := hS.1
  have hkr := kIsle_rg (S := S) (i := i) (what := what) (hi := 2)
  have s30 : ∀ B I Fi Co Br Wt : Int → Int, JS S B I Fi Co → ∀ z : Int, z = kIsle S i what 2 → AW X 0 0 30 [some (.ref 0), some (iv i), some (iv what)] [iv z, .ref 0] (mdW rf sz S ac (B) (I) (mS S) (Fi) (Co) (Br) (Wt) mk gy S2 tx di ke ik ea sd rt lf wy sp ou) := by
    intro B I Fi Co Br Wt hJ z hz
    have hB := hJ.1
    have hI := hJ.2.1
    by_cases k0 : kIsle S i what 2 = 0
    · rw [if_pos k0] at ok
      rw [k0] at ok hz
      subst hz
      obtain ⟨hi2, hw2⟩ := kIsle_0 k0
      obtain ⟨f1, f2, f3⟩ := fS_ok hS hi2
      refine x_callVi (pc := 30) ok [0, 11, 1, 10, 12, 13, 14, 2, 3, 4, 5, 6, 7, 8, 9, 15] 1 dX7_outline_30 mv7_192 miX7_refused (c_refused (by unfold rg; omega)) ⟨by decide, by decide, rfl, rfl, Nat.zero_le _, Nat.zero_le _⟩ rfl rfl (Nat.le_of_ble_eq_true rfl) rfl rfl (by decide) rfl rfl rfl ?_
      refine a_if_eq (pc := 33) (tgt := 38) ok dX7_outline_33 (by decide) (by first | omega | (unfold rg; omega) | (simp only [rg] at *; omega) | exact bz_rg _ | grind [rg]) (fun c33 => ?_) (fun c33 => ?_)
      · refine AW.cast (M2 := (mdW (0) sz S ac (B) (I) (mS S) (Fi) (Co) (Br) (Wt) mk gy S2 tx di ke ik ea sd rt lf wy sp ou)) ?_ rfl rfl rfl
        refine a_aload_n (pc := 38) ok dX7_outline_38 rfl ?_
        refine a_aload_n (pc := 39) ok dX7_outline_39 rfl ?_
        refine a_getf (pc := 40) ok dX7_outline_40 fl7_13 rfl rfl ?_
        refine a_iload_n (pc := 43) ok dX7_outline_43 rfl ?_
        refine a_iconst (pc := 44) ok dX7_outline_44 ?_
        refine x_callVv (pc := 45) ok [0, 1, 2, 3, 4, 5, 6, 7, 8, 9, 1, 10, 11, 12, 13, 14, 15] 10 dX7_outline_45 mv7_289 miX7_walk (c_walk hd f1 f2 f3 (by unfold rg; omega) hJ) ⟨by decide, by decide, rfl, rfl, Nat.zero_le _, Nat.zero_le _⟩ rfl rfl (Nat.le_of_ble_eq_true rfl) rfl rfl (by decide) rfl rfl rfl ?_
        refine AW.cast (M2 := (mdW (0) sz S ac (B) (I) (mS S) (Fi) (Co) (Br) (Wt) mk gy S2 tx di ke ik ea (aOutline S i 0) (aOutline S i 1) (aOutline S i 2) (wS1 S i (-1)) sp ou)) ?_ rfl rfl rfl
        refine a_iload_n (pc := 48) ok dX7_outline_48 rfl ?_
        refine a_if_ne (pc := 49) (tgt := 59) ok dX7_outline_49 (by decide) (by first | omega | (unfold rg; omega) | (simp only [rg] at *; omega) | exact bz_rg _ | grind [rg]) (fun c49 => ?_) (fun c49 => ?_)
        · refine a_iload_n (pc := 59) ok dX7_outline_59 rfl ?_
          refine a_iconst (pc := 60) ok dX7_outline_60 ?_
          refine a_icmp_ne (pc := 61) (tgt := 71) ok dX7_outline_61 (by decide) (by first | omega | (unfold rg; omega) | (simp only [rg] at *; omega) | exact bz_rg _ | grind [rg]) (by first | omega | (unfold rg; omega) | (simp only [rg] at *; omega) | exact bz_rg _ | grind [rg]) (fun c61 => ?_) (fun c61 => ?_)
          · refine a_aload_n (pc := 71) ok dX7_outline_71 rfl ?_
            refine a_getf (pc := 72) ok dX7_outline_72 fl7_148 rfl rfl ?_
            exact a_iret (pc := 75) ok dX7_outline_75 (⟨by rw [show what = 2 by omega], WM_mk hB hI⟩)
          · refine a_aload_n (pc := 64) ok dX7_outline_64 rfl ?_
            refine a_getf (pc := 65) ok dX7_outline_65 fl7_145 rfl rfl ?_
            refine a_goto (pc := 68) (tgt := 75) ok dX7_outline_68 (by decide) ?_
            exact a_iret (pc := 75) ok dX7_outline_75 (⟨by rw [show what = 1 by omega], WM_mk hB hI⟩)
        · refine a_aload_n (pc := 52) ok dX7_outline_52 rfl ?_
          refine a_getf (pc := 53) ok dX7_outline_53 fl7_142 rfl rfl ?_
          refine a_goto (pc := 56) (tgt := 75) ok dX7_outline_56 (by decide) ?_
          exact a_iret (pc := 75) ok dX7_outline_75 (⟨by rw [show what = 0 by omega], WM_mk hB hI⟩)
      · exact absurd rfl c33
    · rw [if_neg k0, ← hz] at ok
      refine x_callVi (pc := 30) ok [0, 11, 1, 10, 12, 13, 14, 2, 3, 4, 5, 6, 7, 8, 9, 15] 1 dX7_outline_30 mv7_192 miX7_refused (c_refused (by unfold rg; omega)) ⟨by decide, by decide, rfl, rfl, Nat.zero_le _, Nat.zero_le _⟩ rfl rfl (Nat.le_of_ble_eq_true rfl) rfl rfl (by decide) rfl rfl rfl ?_
      refine a_if_eq (pc := 33) (tgt := 38) ok dX7_outline_33 (by decide) (by exact bz_rg _) (fun c33 => ?_) (fun c33 => ?_)
      · exact absurd c33 (by rw [bz_pos (show 0 < z by omega)]; decide)
      · refine a_iconst (pc := 36) ok dX7_outline_36 ?_
        exact a_iret (pc := 37) ok dX7_outline_37 (⟨rfl, WM_mk hB hI⟩)
  refine a_aload_n (pc := 0) ok dX7_outline_0 rfl ?_
  refine a_aload_n (pc := 1) ok dX7_outline_1 rfl ?_
  refine a_iload_n (pc := 2) ok dX7_outline_2 rfl ?_
  refine a_callV (pc := 3) ok [0, 1, 2, 3, 4, 5, 6, 7, 8, 9, 10, 11, 12, 13, 14, 15] dX7_outline_3 mv7_269 miX7_isIsle (c_isIsle hS hB hI hi) ⟨by decide, by decide, rfl, rfl, Nat.zero_le _, Nat.zero_le _⟩ rfl rfl (Nat.le_of_ble_eq_true rfl) rfl (by decide) rfl rfl (fun v M' h => by obtain ⟨_, _, _, _, _, _, _, h, _⟩ := h; rw [h]; rfl) ?_
  rintro _ M' ⟨rfl, B', I', Fi', Co', Br', Q', rfl, hJ⟩
  refine AW.cast (st2 := [iv (bz (0 ≤ i ∧ i < mS S)), .ref 0]) (M2 := (mdW rf sz S ac (B') (I') (mS S) (Fi') (Co') (Br') (Q') mk gy S2 tx di ke ik ea sd rt lf wy sp ou)) ?_ rfl rfl rfl
  refine a_if_ne (pc := 6) (tgt := 13) ok dX7_outline_6 (by decide) (by exact bz_rg _) (fun c6 => ?_) (fun c6 => ?_)
  · refine a_iload_n (pc := 13) ok dX7_outline_13 rfl ?_
    refine a_i2l (pc := 14) ok dX7_outline_14 (by first | omega | (unfold rg; omega) | (simp only [rg] at *; omega) | exact bz_rg _ | grind [rg]) ?_
    refine a_lconst (pc := 15) (z := 0) ok dX7_outline_15 rfl ?_
    refine a_ldc2 (pc := 16) (z := 2) (v := Int64.ofInt 2) ok dX7_outline_16 (ug6 133 (by decide +kernel) rfl) rfl ?_
    refine a_callSp (pc := 19) ok [] dX7_outline_19 mv7_68 miX7_in (c_in (by unfold rgL; unfold rg at hw; omega) (by unfold rgL; omega) (by unfold rgL; omega)) ⟨by decide, by decide, rfl, rfl, Nat.zero_le _, Nat.zero_le _⟩ rfl rfl (Nat.le_of_ble_eq_true rfl) rfl (by decide) ?_
    refine a_if_eq (pc := 22) (tgt := 29) ok dX7_outline_22 (by decide) (by exact bz_rg _) (fun c22 => ?_) (fun c22 => ?_)
    · refine a_iconst (pc := 29) ok dX7_outline_29 ?_
      exact s30 _ _ _ _ _ _ hJ 2 (by unfold kIsle; rw [if_neg (fun z => c6 (bz_0.mpr z)), if_neg (bz_0.mp c22)])
    · refine a_iconst (pc := 25) ok dX7_outline_25 ?_
      refine a_goto (pc := 26) (tgt := 30) ok dX7_outline_26 (by decide) ?_
      exact s30 _ _ _ _ _ _ hJ 0 (by unfold kIsle; rw [if_neg (fun z => c6 (bz_0.mpr z)), if_pos (Classical.byContradiction fun z => c22 (bz_0.mpr z))])
  · refine a_iconst (pc := 9) ok dX7_outline_9 ?_
    refine a_goto (pc := 10) (tgt := 30) ok dX7_outline_10 (by decide) ?_
    exact s30 _ _ _ _ _ _ hJ 1 (by unfold kIsle; rw [if_pos (bz_0.mp c6)])
noncomputable def kWay (S : St) (i k : Int) : Int := if (0 ≤ i ∧ i < mS S) ∧ 0 ≤ k ∧ k < oN1 (sC S) (sR S) (bS S) (fS S i) then 0 else 1
theorem dX7_outlineWay_0 : decode cX7_outlineWay 0 = .ok (.aload_n 0, 1) := by decide +kernel
theorem dX7_outlineWay_1 : decode cX7_outlineWay 1 = .ok (.iload_n 1, 1) := by decide +kernel
theorem dX7_outlineWay_2 : decode cX7_outlineWay 2 = .ok (.invokevirtual 269, 3) := by decide +kernel
theorem dX7_outlineWay_5 : decode cX7_outlineWay 5 = .ok (.istore_n 3, 1) := by decide +kernel
theorem dX7_outlineWay_6 : decode cX7_outlineWay 6 = .ok (.iload_n 3, 1) := by decide +kernel
theorem dX7_outlineWay_7 : decode cX7_outlineWay 7 = .ok (.ifCond .eq 13, 3) := by decide +kernel
theorem dX7_outlineWay_10 : decode cX7_outlineWay 10 = .ok (.aload_n 0, 1) := by decide +kernel
theorem dX7_outlineWay_11 : decode cX7_outlineWay 11 = .ok (.aload_n 0, 1) := by decide +kernel
theorem dX7_outlineWay_12 : decode cX7_outlineWay 12 = .ok (.getfield 13, 3) := by decide +kernel
theorem dX7_outlineWay_15 : decode cX7_outlineWay 15 = .ok (.iload_n 1, 1) := by decide +kernel
theorem dX7_outlineWay_16 : decode cX7_outlineWay 16 = .ok (.iload_n 2, 1) := by decide +kernel
theorem dX7_outlineWay_17 : decode cX7_outlineWay 17 = .ok (.invokevirtual 289, 3) := by decide +kernel
theorem dX7_outlineWay_20 : decode cX7_outlineWay 20 = .ok (.aload_n 0, 1) := by decide +kernel
theorem dX7_outlineWay_21 : decode cX7_outlineWay 21 = .ok (.iload_n 3, 1) := by decide +kernel
theorem dX7_outlineWay_22 : decode cX7_outlineWay 22 = .ok (.ifCond .eq 23, 3) := by decide +kernel
theorem dX7_outlineWay_25 : decode cX7_outlineWay 25 = .ok (.iload_n 2, 1) := by decide +kernel
theorem dX7_outlineWay_26 : decode cX7_outlineWay 26 = .ok (.i2l, 1) := by decide +kernel
theorem dX7_outlineWay_27 : decode cX7_outlineWay 27 = .ok (.lconst 0, 1) := by decide +kernel
theorem dX7_outlineWay_28 : decode cX7_outlineWay 28 = .ok (.aload_n 0, 1) := by decide +kernel
theorem dX7_outlineWay_29 : decode cX7_outlineWay 29 = .ok (.getfield 142, 3) := by decide +kernel
theorem dX7_outlineWay_32 : decode cX7_outlineWay 32 = .ok (.iconst 1, 1) := by decide +kernel
theorem dX7_outlineWay_33 : decode cX7_outlineWay 33 = .ok (.isub, 1) := by decide +kernel
theorem dX7_outlineWay_34 : decode cX7_outlineWay 34 = .ok (.i2l, 1) := by decide +kernel
theorem dX7_outlineWay_35 : decode cX7_outlineWay 35 = .ok (.invokestatic 68, 3) := by decide +kernel
theorem dX7_outlineWay_38 : decode cX7_outlineWay 38 = .ok (.ifCond .eq 7, 3) := by decide +kernel
theorem dX7_outlineWay_41 : decode cX7_outlineWay 41 = .ok (.iconst 0, 1) := by decide +kernel
theorem dX7_outlineWay_42 : decode cX7_outlineWay 42 = .ok (.goto 4, 3) := by decide +kernel
theorem dX7_outlineWay_45 : decode cX7_outlineWay 45 = .ok (.iconst 1, 1) := by decide +kernel
theorem dX7_outlineWay_46 : decode cX7_outlineWay 46 = .ok (.invokevirtual 192, 3) := by decide +kernel
theorem dX7_outlineWay_49 : decode cX7_outlineWay 49 = .ok (.ifCond .eq 5, 3) := by decide +kernel
theorem dX7_outlineWay_52 : decode cX7_outlineWay 52 = .ok (.iconst 0, 1) := by decide +kernel
theorem dX7_outlineWay_53 : decode cX7_outlineWay 53 = .ok (.ireturn, 1) := by decide +kernel
theorem dX7_outlineWay_54 : decode cX7_outlineWay 54 = .ok (.aload_n 0, 1) := by decide +kernel
theorem dX7_outlineWay_55 : decode cX7_outlineWay 55 = .ok (.getfield 151, 3) := by decide +kernel
theorem dX7_outlineWay_58 : decode cX7_outlineWay 58 = .ok (.ireturn, 1) := by decide +kernel
set_option maxRecDepth 100000 in
theorem c_moutlineWay {i k : Int} (hS : SV S) (hB : ∀ i, 0 ≤ B i ∧ B i ≤ 5) (hI : ∀ i, rg (I i)) (hi : rg i) (hk : rg k) : Ct l yX7_outlineWay cX7_outlineWay 4 (some .int) rmX7_outlineWay [.ref 0, iv i, iv k] (mdW rf sz S ac B I m Fi Co Br Wt mk gy S2 tx di ke ik ea sd rt lf wy sp ou)
    (fun z M => z = some (iv (if kWay S i k = 0 then wS1 S i k else 0)) ∧ WM (kWay S i k) sz S ac tx di ke ik M) := by
  refine Ct.of miX7_outlineWay (Nat.le_of_ble_eq_true rfl) ?_
  intro X hXl hN ok
  refine AW.cast (L2 := [some (.ref 0), some (iv i), some (iv k), none]) ?_ rfl rfl rfl
  have hm : 1 ≤ mS S ∧ mS S ≤ 144 := mny_1 hS.1
  have hd := hS.1
  have s46 : ∀ (B I Fi Co Br Wt : Int → Int) (sd rt lf wy e : Int), JS S B I Fi Co → (kWay S i k = 0 → wy = wS1 S i k) → ∀ z : Int, z = kWay S i k → AW X 0 0 46 [some (.ref 0), some (iv i), some (iv k), some (iv e)] [iv z, .ref 0] (mdW rf sz S ac (B) (I) (mS S) (Fi) (Co) (Br) (Wt) mk gy S2 tx di ke ik ea sd rt lf wy sp ou) := by
    intro B I Fi Co Br Wt sd rt lf wy e hJ hwy z hz
    have hB := hJ.1
    have hI := hJ.2.1
    by_cases k0 : kWay S i k = 0
    · rw [if_pos k0] at ok
      rw [k0] at ok hz
      have hwy := hwy k0
      subst hz
      refine x_callVi (pc := 46) ok [0, 11, 1, 10, 12, 13, 14, 2, 3, 4, 5, 6, 7, 8, 9, 15] 1 dX7_outlineWay_46 mv7_192 miX7_refused (c_refused (by unfold rg; omega)) ⟨by decide, by decide, rfl, rfl, Nat.zero_le _, Nat.zero_le _⟩ rfl rfl (Nat.le_of_ble_eq_true rfl) rfl rfl (by decide) rfl rfl rfl ?_
      refine a_if_eq (pc := 49) (tgt := 54) ok dX7_outlineWay_49 (by decide) (by first | omega | (unfold rg; omega) | (simp only [rg] at *; omega) | exact bz_rg _ | grind [rg]) (fun c49 => ?_) (fun c49 => ?_)
      · refine AW.cast (M2 := (mdW (0) sz S ac (B) (I) (mS S) (Fi) (Co) (Br) (Wt) mk gy S2 tx di ke ik ea sd rt lf wy sp ou)) ?_ rfl rfl rfl
        refine a_aload_n (pc := 54) ok dX7_outlineWay_54 rfl ?_
        refine a_getf (pc := 55) ok dX7_outlineWay_55 fl7_151 rfl rfl ?_
        exact a_iret (pc := 58) ok dX7_outlineWay_58 (⟨by rw [hwy], WM_mk hB hI⟩)
      · exact absurd rfl c49
    · have k1 : kWay S i k = 1 := by unfold kWay at k0 ⊢; split at k0; exact absurd rfl k0; rw [if_neg (by assumption)]
      rw [if_neg k0, k1] at ok
      rw [k1] at hz
      subst hz
      refine x_callVi (pc := 46) ok [0, 11, 1, 10, 12, 13, 14, 2, 3, 4, 5, 6, 7, 8, 9, 15] 1 dX7_outlineWay_46 mv7_192 miX7_refused (c_refused (by unfold rg; omega)) ⟨by decide, by decide, rfl, rfl, Nat.zero_le _, Nat.zero_le _⟩ rfl rfl (Nat.le_of_ble_eq_true rfl) rfl rfl (by decide) rfl rfl rfl ?_
      refine a_if_eq (pc := 49) (tgt := 54) ok dX7_outlineWay_49 (by decide) (by first | omega | (unfold rg; omega) | (simp only [rg] at *; omega) | exact bz_rg _ | grind [rg]) (fun c49 => ?_) (fun c49 => ?_)
      · exact absurd c49 (by decide)
      · refine a_iconst (pc := 52) ok dX7_outlineWay_52 ?_
        exact a_iret (pc := 53) ok dX7_outlineWay_53 (⟨rfl, WM_mk hB hI⟩)
  refine a_aload_n (pc := 0) ok dX7_outlineWay_0 rfl ?_
  refine a_iload_n (pc := 1) ok dX7_outlineWay_1 rfl ?_
  refine a_callV (pc := 2) ok [0, 1, 2, 3, 4, 5, 6, 7, 8, 9, 10, 11, 12, 13, 14, 15] dX7_outlineWay_2 mv7_269 miX7_isIsle (c_isIsle hS hB hI hi) ⟨by decide, by decide, rfl, rfl, Nat.zero_le _, Nat.zero_le _⟩ rfl rfl (Nat.le_of_ble_eq_true rfl) rfl (by decide) rfl rfl (fun v M' h => by obtain ⟨_, _, _, _, _, _, _, h, _⟩ := h; rw [h]; rfl) ?_
  rintro _ M' ⟨rfl, B', I', Fi', Co', Br', Q', rfl, hJ⟩
  refine AW.cast (st2 := [iv (bz (0 ≤ i ∧ i < mS S))]) (M2 := (mdW rf sz S ac (B') (I') (mS S) (Fi') (Co') (Br') (Q') mk gy S2 tx di ke ik ea sd rt lf wy sp ou)) ?_ rfl rfl rfl
  refine a_istore_n (pc := 5) ok dX7_outlineWay_5 rfl (by rw [hN]; decide) ?_
  refine a_iload_n (pc := 6) ok dX7_outlineWay_6 rfl ?_
  refine a_if_eq (pc := 7) (tgt := 20) ok dX7_outlineWay_7 (by decide) (by exact bz_rg _) (fun c7 => ?_) (fun c7 => ?_)
  · refine a_aload_n (pc := 20) ok dX7_outlineWay_20 rfl ?_
    refine a_iload_n (pc := 21) ok dX7_outlineWay_21 rfl ?_
    refine a_if_eq (pc := 22) (tgt := 45) ok dX7_outlineWay_22 (by decide) (by exact bz_rg _) (fun c22 => ?_) (fun c22 => ?_)
    · refine a_iconst (pc := 45) ok dX7_outlineWay_45 ?_
      exact s46 _ _ _ _ _ _ sd rt lf wy _ hJ (fun z => by unfold kWay at z; rw [if_neg (fun y => (bz_0.mp c7) y.1)] at z; omega) 1 (by unfold kWay; rw [if_neg (fun y => (bz_0.mp c7) y.1)])
    · exact absurd c7 c22
  · have hi2 : 0 ≤ i ∧ i < mS S := Classical.byContradiction fun z => c7 (bz_0.mpr z)
    obtain ⟨f1, f2, f3⟩ := fS_ok hS hi2
    have hO := oLen_ok hd inI_P (o0_V hd f1 f2)
    refine a_aload_n (pc := 10) ok dX7_outlineWay_10 rfl ?_
    refine a_aload_n (pc := 11) ok dX7_outlineWay_11 rfl ?_
    refine a_getf (pc := 12) ok dX7_outlineWay_12 fl7_13 rfl rfl ?_
    refine a_iload_n (pc := 15) ok dX7_outlineWay_15 rfl ?_
    refine a_iload_n (pc := 16) ok dX7_outlineWay_16 rfl ?_
    refine x_callVv (pc := 17) ok [0, 1, 2, 3, 4, 5, 6, 7, 8, 9, 1, 10, 11, 12, 13, 14, 15] 10 dX7_outlineWay_17 mv7_289 miX7_walk (c_walk hd f1 f2 f3 hk hJ) ⟨by decide, by decide, rfl, rfl, Nat.zero_le _, Nat.zero_le _⟩ rfl rfl (Nat.le_of_ble_eq_true rfl) rfl rfl (by decide) rfl rfl rfl ?_
    refine AW.cast (M2 := (mdW rf sz S ac (B') (I') (mS S) (Fi') (Co') (Br') (Q') mk gy S2 tx di ke ik ea (oN1 (sC S) (sR S) (bS S) (fS S i)) (aOutline S i 1) (aOutline S i 2) (wS1 S i k) sp ou)) ?_ rfl rfl rfl
    have eN : oN1 (sC S) (sR S) (bS S) (fS S i) = oLen (inI (sC S) (sR S) (bS S) (fS S i)) (o0 (sC S) (fS S i)) := rfl
    refine a_aload_n (pc := 20) ok dX7_outlineWay_20 rfl ?_
    refine a_iload_n (pc := 21) ok dX7_outlineWay_21 rfl ?_
    refine a_if_eq (pc := 22) (tgt := 45) ok dX7_outlineWay_22 (by decide) (by exact bz_rg _) (fun c22 => ?_) (fun c22 => ?_)
    · exact absurd c22 c7
    · refine a_iload_n (pc := 25) ok dX7_outlineWay_25 rfl ?_
      refine a_i2l (pc := 26) ok dX7_outlineWay_26 (by first | omega | (unfold rg; omega) | (simp only [rg] at *; omega) | exact bz_rg _ | grind [rg]) ?_
      refine a_lconst (pc := 27) (z := 0) ok dX7_outlineWay_27 rfl ?_
      refine a_aload_n (pc := 28) ok dX7_outlineWay_28 rfl ?_
      refine a_getf (pc := 29) ok dX7_outlineWay_29 fl7_142 rfl rfl ?_
      refine a_iconst (pc := 32) ok dX7_outlineWay_32 ?_
      refine a_isub (pc := 33) ok dX7_outlineWay_33 ?_
      refine a_i2l (pc := 34) ok dX7_outlineWay_34 (by first | omega | (unfold rg; omega) | (simp only [rg] at *; omega) | exact bz_rg _ | grind [rg]) ?_
      refine a_callSp (pc := 35) ok [] dX7_outlineWay_35 mv7_68 miX7_in (c_in (by unfold rgL; unfold rg at hk; omega) (by unfold rgL; omega) (by unfold rgL; omega)) ⟨by decide, by decide, rfl, rfl, Nat.zero_le _, Nat.zero_le _⟩ rfl rfl (Nat.le_of_ble_eq_true rfl) rfl (by decide) ?_
      refine a_if_eq (pc := 38) (tgt := 45) ok dX7_outlineWay_38 (by decide) (by exact bz_rg _) (fun c38 => ?_) (fun c38 => ?_)
      · refine a_iconst (pc := 45) ok dX7_outlineWay_45 ?_
        exact s46 _ _ _ _ _ _ _ _ _ _ _ hJ (fun _ => rfl) 1 (by unfold kWay; rw [if_neg (fun y => (bz_0.mp c38) ⟨y.2.1, by omega⟩)])
      · refine a_iconst (pc := 41) ok dX7_outlineWay_41 ?_
        refine a_goto (pc := 42) (tgt := 46) ok dX7_outlineWay_42 (by decide) ?_
        exact s46 _ _ _ _ _ _ _ _ _ _ _ hJ (fun _ => rfl) 0 (by have := (show 0 ≤ k ∧ k ≤ oN1 (sC S) (sR S) (bS S) (fS S i) - 1 from Classical.byContradiction fun z => c38 (bz_0.mpr z)); unfold kWay; rw [if_pos ⟨hi2, this.1, by omega⟩])
noncomputable def kBor (S : St) (i j : Int) : Int := if (0 ≤ i ∧ i < mS S) ∧ 0 ≤ j ∧ j < mS S then 0 else 1
theorem dX7_border_0 : decode cX7_border 0 = .ok (.aload_n 0, 1) := by decide +kernel
theorem dX7_border_1 : decode cX7_border 1 = .ok (.aload_n 0, 1) := by decide +kernel
theorem dX7_border_2 : decode cX7_border 2 = .ok (.iload_n 1, 1) := by decide +kernel
theorem dX7_border_3 : decode cX7_border 3 = .ok (.invokevirtual 269, 3) := by decide +kernel
theorem dX7_border_6 : decode cX7_border 6 = .ok (.ifCond .eq 15, 3) := by decide +kernel
theorem dX7_border_9 : decode cX7_border 9 = .ok (.aload_n 0, 1) := by decide +kernel
theorem dX7_border_10 : decode cX7_border 10 = .ok (.iload_n 2, 1) := by decide +kernel
theorem dX7_border_11 : decode cX7_border 11 = .ok (.invokevirtual 269, 3) := by decide +kernel
theorem dX7_border_14 : decode cX7_border 14 = .ok (.ifCond .eq 7, 3) := by decide +kernel
theorem dX7_border_17 : decode cX7_border 17 = .ok (.iconst 0, 1) := by decide +kernel
theorem dX7_border_18 : decode cX7_border 18 = .ok (.goto 4, 3) := by decide +kernel
theorem dX7_border_21 : decode cX7_border 21 = .ok (.iconst 1, 1) := by decide +kernel
theorem dX7_border_22 : decode cX7_border 22 = .ok (.invokevirtual 192, 3) := by decide +kernel
theorem dX7_border_25 : decode cX7_border 25 = .ok (.ifCond .eq 5, 3) := by decide +kernel
theorem dX7_border_28 : decode cX7_border 28 = .ok (.iconst 0, 1) := by decide +kernel
theorem dX7_border_29 : decode cX7_border 29 = .ok (.ireturn, 1) := by decide +kernel
theorem dX7_border_30 : decode cX7_border 30 = .ok (.aload_n 0, 1) := by decide +kernel
theorem dX7_border_31 : decode cX7_border 31 = .ok (.aload_n 0, 1) := by decide +kernel
theorem dX7_border_32 : decode cX7_border 32 = .ok (.getfield 13, 3) := by decide +kernel
theorem dX7_border_35 : decode cX7_border 35 = .ok (.iload_n 1, 1) := by decide +kernel
theorem dX7_border_36 : decode cX7_border 36 = .ok (.invokevirtual 106, 3) := by decide +kernel
theorem dX7_border_39 : decode cX7_border 39 = .ok (.aload_n 0, 1) := by decide +kernel
theorem dX7_border_40 : decode cX7_border 40 = .ok (.getfield 41, 3) := by decide +kernel
theorem dX7_border_43 : decode cX7_border 43 = .ok (.iload_n 2, 1) := by decide +kernel
theorem dX7_border_44 : decode cX7_border 44 = .ok (.iaload, 1) := by decide +kernel
theorem dX7_border_45 : decode cX7_border 45 = .ok (.ireturn, 1) := by decide +kernel
theorem c_mborder {i j : Int} (hS : SV S) (hB : ∀ i, 0 ≤ B i ∧ B i ≤ 5) (hI : ∀ i, rg (I i)) (hi : rg i) (hj : rg j) : Ct l yX7_border cX7_border 3 (some .int) rmX7_border [.ref 0, iv i, iv j] (mdW rf sz S ac B I m Fi Co Br Wt mk gy S2 tx di ke ik ea sd rt lf wy sp ou)
    (fun z M => z = some (iv (if kBor S i j = 0 then brd (sC S) (sR S) (bS S) (fS S i) (fS S j) else 0)) ∧ WM (kBor S i j) sz S ac tx di ke ik M) := by
  refine Ct.of miX7_border (Nat.le_of_ble_eq_true rfl) ?_
  intro X hXl hN ok
  refine AW.cast (L2 := [some (.ref 0), some (iv i), some (iv j)]) ?_ rfl rfl rfl
  have hm : 1 ≤ mS S ∧ mS S ≤ 144 := mny_1 hS.1
  have hd := hS.1
  have s22 : ∀ (B I Fi Co Br Wt : Int → Int), JS S B I Fi Co → ∀ z : Int, z = kBor S i j → AW X 0 0 22 [some (.ref 0), some (iv i), some (iv j)] [iv z, .ref 0] (mdW rf sz S ac (B) (I) (mS S) (Fi) (Co) (Br) (Wt) mk gy S2 tx di ke ik ea sd rt lf wy sp ou) := by
    intro B I Fi Co Br Wt hJ z hz
    have hB := hJ.1
    have hI := hJ.2.1
    by_cases k0 : kBor S i j = 0
    · have k1 : (0 ≤ i ∧ i < mS S) ∧ 0 ≤ j ∧ j < mS S := Classical.byContradiction fun y => by unfold kBor at k0; rw [if_neg y] at k0; omega
      rw [if_pos k0] at ok
      rw [k0] at ok hz
      subst hz
      obtain ⟨f1, f2, f3⟩ := fS_ok hS k1.1
      obtain ⟨g1, g2, g3⟩ := fS_ok hS k1.2
      have cm := c_meet (l := X.1.2.1) (rf := 0) (sz := sz) (G := sG S) (T := sT S) (n := sN S) (le := sE S) (Hh := sH S) (li := sI S) (ac := ac) (Br := Br) (Wt := Wt) (mk := mk) (gy := gy) (sd := sd) (rt := rt) (lf := lf) (wy := wy) (sp := sp) (ou := ou) hd f1 f2 hJ
      rw [f3] at cm
      refine x_callVi (pc := 22) ok [0, 11, 1, 10, 12, 13, 14, 2, 3, 4, 5, 6, 7, 8, 9, 15] 1 dX7_border_22 mv7_192 miX7_refused (c_refused (by unfold rg; omega)) ⟨by decide, by decide, rfl, rfl, Nat.zero_le _, Nat.zero_le _⟩ rfl rfl (Nat.le_of_ble_eq_true rfl) rfl rfl (by decide) rfl rfl rfl ?_
      refine a_if_eq (pc := 25) (tgt := 30) ok dX7_border_25 (by decide) (by first | omega | (unfold rg; omega) | (simp only [rg] at *; omega) | exact bz_rg _ | grind [rg]) (fun c25 => ?_) (fun c25 => ?_)
      · refine AW.cast (M2 := (mdW (0) sz S ac (B) (I) (mS S) (Fi) (Co) (Br) (Wt) mk gy S2 tx di ke ik ea sd rt lf wy sp ou)) ?_ rfl rfl rfl
        refine a_aload_n (pc := 30) ok dX7_border_30 rfl ?_
        refine a_aload_n (pc := 31) ok dX7_border_31 rfl ?_
        refine a_getf (pc := 32) ok dX7_border_32 fl7_13 rfl rfl ?_
        refine a_iload_n (pc := 35) ok dX7_border_35 rfl ?_
        refine x_callV (pc := 36) ok [0, 1, 2, 3, 4, 5, 6, 7, 8, 9, 1, 10, 11, 12, 13, 14, 15] 10 dX7_border_36 mv7_106 miX7_meet (cm) ⟨by decide, by decide, rfl, rfl, Nat.zero_le _, Nat.zero_le _⟩ rfl rfl (Nat.le_of_ble_eq_true rfl) rfl rfl (by decide) rfl rfl (fun v M' h => by obtain ⟨_, _, h, _⟩ := h; rw [h]; rfl) ?_
        rintro _ M' ⟨rfl, Br', rfl, hBr⟩
        have e1 := hBr _ g1 g2
        rw [g3] at e1
        refine AW.cast (st2 := []) (M2 := (mdW (0) sz S ac (B) (I) (mS S) (Fi) (Co) (Br') (Wt) mk gy S2 tx di ke ik ea sd rt lf wy sp ou)) ?_ rfl rfl rfl
        refine a_aload_n (pc := 39) ok dX7_border_39 rfl ?_
        refine a_getf (pc := 40) ok dX7_border_40 fl7_41 rfl rfl ?_
        refine a_iload_n (pc := 43) ok dX7_border_43 rfl ?_
        refine a_iald (pc := 44) ok dX7_border_44 rfl (by first | decide | omega) (by first | omega | (unfold rg; omega) | (simp only [rg] at *; omega) | exact bz_rg _ | grind [rg]) ?_
        exact a_iret (pc := 45) ok dX7_border_45 (⟨by rw [e1], WM_mk hB hI⟩)
      · exact absurd rfl c25
    · have k1 : kBor S i j = 1 := by unfold kBor at k0 ⊢; split at k0; exact absurd rfl k0; rw [if_neg (by assumption)]
      rw [if_neg k0, k1] at ok
      rw [k1] at hz
      subst hz
      refine x_callVi (pc := 22) ok [0, 11, 1, 10, 12, 13, 14, 2, 3, 4, 5, 6, 7, 8, 9, 15] 1 dX7_border_22 mv7_192 miX7_refused (c_refused (by unfold rg; omega)) ⟨by decide, by decide, rfl, rfl, Nat.zero_le _, Nat.zero_le _⟩ rfl rfl (Nat.le_of_ble_eq_true rfl) rfl rfl (by decide) rfl rfl rfl ?_
      refine a_if_eq (pc := 25) (tgt := 30) ok dX7_border_25 (by decide) (by first | omega | (unfold rg; omega) | (simp only [rg] at *; omega) | exact bz_rg _ | grind [rg]) (fun c25 => ?_) (fun c25 => ?_)
      · exact absurd c25 (by decide)
      · refine a_iconst (pc := 28) ok dX7_border_28 ?_
        exact a_iret (pc := 29) ok dX7_border_29 (⟨rfl, WM_mk hB hI⟩)
  refine a_aload_n (pc := 0) ok dX7_border_0 rfl ?_
  refine a_aload_n (pc := 1) ok dX7_border_1 rfl ?_
  refine a_iload_n (pc := 2) ok dX7_border_2 rfl ?_
  refine a_callV (pc := 3) ok [0, 1, 2, 3, 4, 5, 6, 7, 8, 9, 10, 11, 12, 13, 14, 15] dX7_border_3 mv7_269 miX7_isIsle (c_isIsle hS hB hI hi) ⟨by decide, by decide, rfl, rfl, Nat.zero_le _, Nat.zero_le _⟩ rfl rfl (Nat.le_of_ble_eq_true rfl) rfl (by decide) rfl rfl (fun v M' h => by obtain ⟨_, _, _, _, _, _, _, h, _⟩ := h; rw [h]; rfl) ?_
  rintro _ M' ⟨rfl, B', I', Fi', Co', Br', Q', rfl, hJ⟩
  refine AW.cast (st2 := [iv (bz (0 ≤ i ∧ i < mS S)), .ref 0]) (M2 := (mdW rf sz S ac (B') (I') (mS S) (Fi') (Co') (Br') (Q') mk gy S2 tx di ke ik ea sd rt lf wy sp ou)) ?_ rfl rfl rfl
  refine a_if_eq (pc := 6) (tgt := 21) ok dX7_border_6 (by decide) (by exact bz_rg _) (fun c6 => ?_) (fun c6 => ?_)
  · refine a_iconst (pc := 21) ok dX7_border_21 ?_
    exact s22 _ _ _ _ _ _ hJ 1 (by unfold kBor; rw [if_neg (fun y => (bz_0.mp c6) y.1)])
  · refine a_aload_n (pc := 9) ok dX7_border_9 rfl ?_
    refine a_iload_n (pc := 10) ok dX7_border_10 rfl ?_
    refine a_callV (pc := 11) ok [0, 1, 2, 3, 4, 5, 6, 7, 8, 9, 10, 11, 12, 13, 14, 15] dX7_border_11 mv7_269 miX7_isIsle (c_isIsle hS hJ.1 hJ.2.1 hj) ⟨by decide, by decide, rfl, rfl, Nat.zero_le _, Nat.zero_le _⟩ rfl rfl (Nat.le_of_ble_eq_true rfl) rfl (by decide) rfl rfl (fun v M' h => by obtain ⟨_, _, _, _, _, _, _, h, _⟩ := h; rw [h]; rfl) ?_
    rintro _ M' ⟨rfl, B2, I2, Fi2, Co2, Br2, Q2, rfl, hJ2⟩
    refine AW.cast (st2 := [iv (bz (0 ≤ j ∧ j < mS S)), .ref 0]) (M2 := (mdW rf sz S ac (B2) (I2) (mS S) (Fi2) (Co2) (Br2) (Q2) mk gy S2 tx di ke ik ea sd rt lf wy sp ou)) ?_ rfl rfl rfl
    refine a_if_eq (pc := 14) (tgt := 21) ok dX7_border_14 (by decide) (by exact bz_rg _) (fun c14 => ?_) (fun c14 => ?_)
    · refine a_iconst (pc := 21) ok dX7_border_21 ?_
      exact s22 _ _ _ _ _ _ hJ2 1 (by unfold kBor; rw [if_neg (fun y => (bz_0.mp c14) y.2)])
    · refine a_iconst (pc := 17) ok dX7_border_17 ?_
      refine a_goto (pc := 18) (tgt := 22) ok dX7_border_18 (by decide) ?_
      exact s22 _ _ _ _ _ _ hJ2 0 (by unfold kBor; rw [if_pos ⟨Classical.byContradiction fun z => c6 (bz_0.mpr z), Classical.byContradiction fun z => c14 (bz_0.mpr z)⟩])
end MP3
