/-! THE CLASS: a script's groups, turns. -/
section CW6
variable {l : Launch} {S : St} {kn nk : Int} {S2 : St} {c1 r1 m1 ct1 : Int} {B1 F1 Z1 Br1 Q1 Fo1 No1 gb : Int → Int}
theorem nb_01 {z : Int} (h : z = 0 ∨ z = 1) : narrow .boolean (iv z) = iv z := by rcases h with rfl | rfl <;> rfl
theorem dX6_holdsGroup_0 : decode cX6_holdsGroup 0 = .ok (.iload_n 1, 1) := by decide +kernel
theorem dX6_holdsGroup_1 : decode cX6_holdsGroup 1 = .ok (.sipush 1000, 3) := by decide +kernel
theorem dX6_holdsGroup_4 : decode cX6_holdsGroup 4 = .ok (.irem, 1) := by decide +kernel
theorem dX6_holdsGroup_5 : decode cX6_holdsGroup 5 = .ok (.istore_n 2, 1) := by decide +kernel
theorem dX6_holdsGroup_6 : decode cX6_holdsGroup 6 = .ok (.iload_n 1, 1) := by decide +kernel
theorem dX6_holdsGroup_7 : decode cX6_holdsGroup 7 = .ok (.ldc_w 382, 3) := by decide +kernel
theorem dX6_holdsGroup_10 : decode cX6_holdsGroup 10 = .ok (.idiv, 1) := by decide +kernel
theorem dX6_holdsGroup_11 : decode cX6_holdsGroup 11 = .ok (.lookupswitch 104 #[(7, 25), (8, 75)], 25) := by decide +kernel
theorem dX6_holdsGroup_36 : decode cX6_holdsGroup 36 = .ok (.iload_n 1, 1) := by decide +kernel
theorem dX6_holdsGroup_37 : decode cX6_holdsGroup 37 = .ok (.sipush 10000, 3) := by decide +kernel
theorem dX6_holdsGroup_40 : decode cX6_holdsGroup 40 = .ok (.idiv, 1) := by decide +kernel
theorem dX6_holdsGroup_41 : decode cX6_holdsGroup 41 = .ok (.sipush 1000, 3) := by decide +kernel
theorem dX6_holdsGroup_44 : decode cX6_holdsGroup 44 = .ok (.irem, 1) := by decide +kernel
theorem dX6_holdsGroup_45 : decode cX6_holdsGroup 45 = .ok (.istore_n 3, 1) := by decide +kernel
theorem dX6_holdsGroup_46 : decode cX6_holdsGroup 46 = .ok (.iload_n 1, 1) := by decide +kernel
theorem dX6_holdsGroup_47 : decode cX6_holdsGroup 47 = .ok (.sipush 1000, 3) := by decide +kernel
theorem dX6_holdsGroup_50 : decode cX6_holdsGroup 50 = .ok (.idiv, 1) := by decide +kernel
theorem dX6_holdsGroup_51 : decode cX6_holdsGroup 51 = .ok (.bipush 10, 2) := by decide +kernel
theorem dX6_holdsGroup_53 : decode cX6_holdsGroup 53 = .ok (.irem, 1) := by decide +kernel
theorem dX6_holdsGroup_54 : decode cX6_holdsGroup 54 = .ok (.ifCond .ne 30, 3) := by decide +kernel
theorem dX6_holdsGroup_57 : decode cX6_holdsGroup 57 = .ok (.aload_n 0, 1) := by decide +kernel
theorem dX6_holdsGroup_58 : decode cX6_holdsGroup 58 = .ok (.getfield 62, 3) := by decide +kernel
theorem dX6_holdsGroup_61 : decode cX6_holdsGroup 61 = .ok (.iload_n 3, 1) := by decide +kernel
theorem dX6_holdsGroup_62 : decode cX6_holdsGroup 62 = .ok (.invokevirtual 235, 3) := by decide +kernel
theorem dX6_holdsGroup_65 : decode cX6_holdsGroup 65 = .ok (.ifCond .eq 19, 3) := by decide +kernel
theorem dX6_holdsGroup_68 : decode cX6_holdsGroup 68 = .ok (.aload_n 0, 1) := by decide +kernel
theorem dX6_holdsGroup_69 : decode cX6_holdsGroup 69 = .ok (.getfield 62, 3) := by decide +kernel
theorem dX6_holdsGroup_72 : decode cX6_holdsGroup 72 = .ok (.iload_n 3, 1) := by decide +kernel
theorem dX6_holdsGroup_73 : decode cX6_holdsGroup 73 = .ok (.invokevirtual 241, 3) := by decide +kernel
theorem dX6_holdsGroup_76 : decode cX6_holdsGroup 76 = .ok (.iload_n 2, 1) := by decide +kernel
theorem dX6_holdsGroup_77 : decode cX6_holdsGroup 77 = .ok (.if_icmp .lt 7, 3) := by decide +kernel
theorem dX6_holdsGroup_80 : decode cX6_holdsGroup 80 = .ok (.iconst 1, 1) := by decide +kernel
theorem dX6_holdsGroup_81 : decode cX6_holdsGroup 81 = .ok (.goto 4, 3) := by decide +kernel
theorem dX6_holdsGroup_84 : decode cX6_holdsGroup 84 = .ok (.iconst 0, 1) := by decide +kernel
theorem dX6_holdsGroup_85 : decode cX6_holdsGroup 85 = .ok (.ireturn, 1) := by decide +kernel
theorem dX6_holdsGroup_86 : decode cX6_holdsGroup 86 = .ok (.iload_n 1, 1) := by decide +kernel
theorem dX6_holdsGroup_87 : decode cX6_holdsGroup 87 = .ok (.sipush 1000, 3) := by decide +kernel
theorem dX6_holdsGroup_90 : decode cX6_holdsGroup 90 = .ok (.idiv, 1) := by decide +kernel
theorem dX6_holdsGroup_91 : decode cX6_holdsGroup 91 = .ok (.sipush 10000, 3) := by decide +kernel
theorem dX6_holdsGroup_94 : decode cX6_holdsGroup 94 = .ok (.irem, 1) := by decide +kernel
theorem dX6_holdsGroup_95 : decode cX6_holdsGroup 95 = .ok (.ifCond .ne 18, 3) := by decide +kernel
theorem dX6_holdsGroup_98 : decode cX6_holdsGroup 98 = .ok (.aload_n 0, 1) := by decide +kernel
theorem dX6_holdsGroup_99 : decode cX6_holdsGroup 99 = .ok (.getfield 62, 3) := by decide +kernel
theorem dX6_holdsGroup_102 : decode cX6_holdsGroup 102 = .ok (.getfield 172, 3) := by decide +kernel
theorem dX6_holdsGroup_105 : decode cX6_holdsGroup 105 = .ok (.iload_n 2, 1) := by decide +kernel
theorem dX6_holdsGroup_106 : decode cX6_holdsGroup 106 = .ok (.if_icmp .gt 7, 3) := by decide +kernel
theorem dX6_holdsGroup_109 : decode cX6_holdsGroup 109 = .ok (.iconst 1, 1) := by decide +kernel
theorem dX6_holdsGroup_110 : decode cX6_holdsGroup 110 = .ok (.goto 4, 3) := by decide +kernel
theorem dX6_holdsGroup_113 : decode cX6_holdsGroup 113 = .ok (.iconst 0, 1) := by decide +kernel
theorem dX6_holdsGroup_114 : decode cX6_holdsGroup 114 = .ok (.ireturn, 1) := by decide +kernel
theorem dX6_holdsGroup_115 : decode cX6_holdsGroup 115 = .ok (.iload_n 1, 1) := by decide +kernel
theorem dX6_holdsGroup_116 : decode cX6_holdsGroup 116 = .ok (.ldc_w 381, 3) := by decide +kernel
theorem dX6_holdsGroup_119 : decode cX6_holdsGroup 119 = .ok (.idiv, 1) := by decide +kernel
theorem dX6_holdsGroup_120 : decode cX6_holdsGroup 120 = .ok (.bipush 100, 2) := by decide +kernel
theorem dX6_holdsGroup_122 : decode cX6_holdsGroup 122 = .ok (.irem, 1) := by decide +kernel
theorem dX6_holdsGroup_123 : decode cX6_holdsGroup 123 = .ok (.istore 4, 2) := by decide +kernel
theorem dX6_holdsGroup_125 : decode cX6_holdsGroup 125 = .ok (.iload_n 1, 1) := by decide +kernel
theorem dX6_holdsGroup_126 : decode cX6_holdsGroup 126 = .ok (.sipush 1000, 3) := by decide +kernel
theorem dX6_holdsGroup_129 : decode cX6_holdsGroup 129 = .ok (.idiv, 1) := by decide +kernel
theorem dX6_holdsGroup_130 : decode cX6_holdsGroup 130 = .ok (.bipush 100, 2) := by decide +kernel
theorem dX6_holdsGroup_132 : decode cX6_holdsGroup 132 = .ok (.irem, 1) := by decide +kernel
theorem dX6_holdsGroup_133 : decode cX6_holdsGroup 133 = .ok (.istore 5, 2) := by decide +kernel
theorem dX6_holdsGroup_135 : decode cX6_holdsGroup 135 = .ok (.iload_n 1, 1) := by decide +kernel
theorem dX6_holdsGroup_136 : decode cX6_holdsGroup 136 = .ok (.bipush 10, 2) := by decide +kernel
theorem dX6_holdsGroup_138 : decode cX6_holdsGroup 138 = .ok (.idiv, 1) := by decide +kernel
theorem dX6_holdsGroup_139 : decode cX6_holdsGroup 139 = .ok (.bipush 100, 2) := by decide +kernel
theorem dX6_holdsGroup_141 : decode cX6_holdsGroup 141 = .ok (.irem, 1) := by decide +kernel
theorem dX6_holdsGroup_142 : decode cX6_holdsGroup 142 = .ok (.ifCond .ne 46, 3) := by decide +kernel
theorem dX6_holdsGroup_145 : decode cX6_holdsGroup 145 = .ok (.aload_n 0, 1) := by decide +kernel
theorem dX6_holdsGroup_146 : decode cX6_holdsGroup 146 = .ok (.getfield 59, 3) := by decide +kernel
theorem dX6_holdsGroup_149 : decode cX6_holdsGroup 149 = .ok (.iload 4, 2) := by decide +kernel
theorem dX6_holdsGroup_151 : decode cX6_holdsGroup 151 = .ok (.iload 5, 2) := by decide +kernel
theorem dX6_holdsGroup_153 : decode cX6_holdsGroup 153 = .ok (.invokevirtual 199, 3) := by decide +kernel
theorem dX6_holdsGroup_156 : decode cX6_holdsGroup 156 = .ok (.ifCond .eq 32, 3) := by decide +kernel
theorem dX6_holdsGroup_159 : decode cX6_holdsGroup 159 = .ok (.aload_n 0, 1) := by decide +kernel
theorem dX6_holdsGroup_160 : decode cX6_holdsGroup 160 = .ok (.getfield 62, 3) := by decide +kernel
theorem dX6_holdsGroup_163 : decode cX6_holdsGroup 163 = .ok (.aload_n 0, 1) := by decide +kernel
theorem dX6_holdsGroup_164 : decode cX6_holdsGroup 164 = .ok (.getfield 59, 3) := by decide +kernel
theorem dX6_holdsGroup_167 : decode cX6_holdsGroup 167 = .ok (.iload 4, 2) := by decide +kernel
theorem dX6_holdsGroup_169 : decode cX6_holdsGroup 169 = .ok (.iload 5, 2) := by decide +kernel
theorem dX6_holdsGroup_171 : decode cX6_holdsGroup 171 = .ok (.invokevirtual 214, 3) := by decide +kernel
theorem dX6_holdsGroup_174 : decode cX6_holdsGroup 174 = .ok (.invokevirtual 217, 3) := by decide +kernel
theorem dX6_holdsGroup_177 : decode cX6_holdsGroup 177 = .ok (.iload_n 1, 1) := by decide +kernel
theorem dX6_holdsGroup_178 : decode cX6_holdsGroup 178 = .ok (.bipush 10, 2) := by decide +kernel
theorem dX6_holdsGroup_180 : decode cX6_holdsGroup 180 = .ok (.irem, 1) := by decide +kernel
theorem dX6_holdsGroup_181 : decode cX6_holdsGroup 181 = .ok (.if_icmp .ne 7, 3) := by decide +kernel
theorem dX6_holdsGroup_184 : decode cX6_holdsGroup 184 = .ok (.iconst 1, 1) := by decide +kernel
theorem dX6_holdsGroup_185 : decode cX6_holdsGroup 185 = .ok (.goto 4, 3) := by decide +kernel
theorem dX6_holdsGroup_188 : decode cX6_holdsGroup 188 = .ok (.iconst 0, 1) := by decide +kernel
theorem dX6_holdsGroup_189 : decode cX6_holdsGroup 189 = .ok (.ireturn, 1) := by decide +kernel
set_option maxRecDepth 100000 in
theorem c_holdsGroup {g a k : Int} (hS : SV S2) (hI : IS S2 (mS S2) B1 F1 Z1 Fo1 No1) (hg : 0 ≤ g ∧ g < 100000000) (ha : a = g % 10000000) (hk : k = g / 10000000) (hk7 : 7 ≤ k ∧ k ≤ 9) : Ct l yX6_holdsGroup cX6_holdsGroup 6 (some .boolean) rmX6_holdsGroup [.ref 0, iv g] (clT kn nk S2 (sC S2) (sR S2) (sC S2 * sR S2) (mS S2) B1 F1 Z1 Br1 Q1 Fo1 No1 gb)
    (fun z M => z = some (iv (cmZ S2 k a)) ∧ RT kn nk S2 M) := by
  refine Ct.of miX6_holdsGroup (Nat.le_of_ble_eq_true rfl) ?_
  intro X hXl hN ok
  refine AW.cast (L2 := [some (.ref 0), some (iv g), none, none, none, none]) ?_ rfl rfl rfl
  have hd := hS.1
  have hm := mS_rg (S := S2) hd
  have z7 : k = 7 → cmZ S2 k a = bz (a / 1000 % 10 = 0 ∧ a / 10000 < mS S2 ∧ a % 1000 ≤ siz (sC S2) (sR S2) (bS S2) (fS S2 (a / 10000))) := fun e => by subst e; rfl
  have z8 : k = 8 → cmZ S2 k a = bz (a < 1000 ∧ mS S2 ≤ a % 1000) := fun e => by subst e; rfl
  have z9 : k = 9 → cmZ S2 k a = bz (a / 10 % 100 = 0 ∧ (a / 100000 < sC S2) ∧ (a / 1000 % 100 < sR S2) ∧ bS S2 (a / 1000 % 100 * sC S2 + a / 100000) = a % 10) := fun e => by subst e; rfl
  have hr2 := IS_rw hI
  refine a_iload_n (pc := 0) ok dX6_holdsGroup_0 rfl ?_
  refine a_sipush (pc := 1) ok dX6_holdsGroup_1 (by decide) ?_
  refine a_irem (pc := 4) ok dX6_holdsGroup_4 (by first | omega | (unfold rg; omega) | (simp only [rg] at *; omega) | exact bz_rg _ | grind [rg]) (by first | omega | (unfold rg; omega) | (simp only [rg] at *; omega) | exact bz_rg _ | grind [rg]) ?_
  refine a_istore_n (pc := 5) ok dX6_holdsGroup_5 rfl (by rw [hN]; decide) ?_
  refine a_iload_n (pc := 6) ok dX6_holdsGroup_6 rfl ?_
  refine a_ldcw (pc := 7) (z := 10000000) (v := Int32.ofInt 10000000) ok dX6_holdsGroup_7 (ug5 29 (by decide +kernel) rfl) (by decide) ?_
  refine a_idiv (pc := 10) ok dX6_holdsGroup_10 (by first | omega | (unfold rg; omega) | (simp only [rg] at *; omega) | exact bz_rg _ | grind [rg]) (by first | omega | (unfold rg; omega) | (simp only [rg] at *; omega) | exact bz_rg _ | grind [rg]) ?_
  refine a_look (pc := 11) (dt := 115) ok [36, 86] dX6_holdsGroup_11 (by decide) (by decide) (by decide) (by first | omega | (unfold rg; omega) | (simp only [rg] at *; omega) | exact bz_rg _ | grind [rg]) (fun j11 hj11 c11 => ?_) (fun c11 => ?_)
  · rcases (show j11 = 0 ∨ j11 = 1 by simp only [List.length_cons, List.length_nil] at hj11; omega) with rfl | rfl
    · have c11 : _ = (7 : Int) := c11
      refine a_iload_n (pc := 36) ok dX6_holdsGroup_36 rfl ?_
      refine a_sipush (pc := 37) ok dX6_holdsGroup_37 (by decide) ?_
      refine a_idiv (pc := 40) ok dX6_holdsGroup_40 (by first | omega | (unfold rg; omega) | (simp only [rg] at *; omega) | exact bz_rg _ | grind [rg]) (by first | omega | (unfold rg; omega) | (simp only [rg] at *; omega) | exact bz_rg _ | grind [rg]) ?_
      refine a_sipush (pc := 41) ok dX6_holdsGroup_41 (by decide) ?_
      refine a_irem (pc := 44) ok dX6_holdsGroup_44 (by first | omega | (unfold rg; omega) | (simp only [rg] at *; omega) | exact bz_rg _ | grind [rg]) (by first | omega | (unfold rg; omega) | (simp only [rg] at *; omega) | exact bz_rg _ | grind [rg]) ?_
      rw [show g / 10000 % 1000 = a / 10000 by omega]
      refine a_istore_n (pc := 45) ok dX6_holdsGroup_45 rfl (by rw [hN]; decide) ?_
      refine a_iload_n (pc := 46) ok dX6_holdsGroup_46 rfl ?_
      refine a_sipush (pc := 47) ok dX6_holdsGroup_47 (by decide) ?_
      refine a_idiv (pc := 50) ok dX6_holdsGroup_50 (by first | omega | (unfold rg; omega) | (simp only [rg] at *; omega) | exact bz_rg _ | grind [rg]) (by first | omega | (unfold rg; omega) | (simp only [rg] at *; omega) | exact bz_rg _ | grind [rg]) ?_
      refine a_bipush (pc := 51) ok dX6_holdsGroup_51 (by decide) ?_
      refine a_irem (pc := 53) ok dX6_holdsGroup_53 (by first | omega | (unfold rg; omega) | (simp only [rg] at *; omega) | exact bz_rg _ | grind [rg]) (by first | omega | (unfold rg; omega) | (simp only [rg] at *; omega) | exact bz_rg _ | grind [rg]) ?_
      refine a_if_ne (pc := 54) (tgt := 84) ok dX6_holdsGroup_54 (by decide) (by first | omega | (unfold rg; omega) | (simp only [rg] at *; omega) | exact bz_rg _ | grind [rg]) (fun c54 => ?_) (fun c54 => ?_)
      · refine a_iconst (pc := 84) ok dX6_holdsGroup_84 ?_
        exact a_zret (pc := 85) ok dX6_holdsGroup_85 (by first | rfl | exact nb_bz _ | exact @nb_bz _ (Classical.propDecidable _) | decide | exact nb_01 (by assumption)) (⟨by rw [z7 (by omega), bz_neg (fun z => by omega)], RT_mk hr2⟩)
      · refine a_aload_n (pc := 57) ok dX6_holdsGroup_57 rfl ?_
        refine a_getf (pc := 58) ok dX6_holdsGroup_58 fl6_62 rfl rfl ?_
        refine a_iload_n (pc := 61) ok dX6_holdsGroup_61 rfl ?_
        refine a_callVp (pc := 62) ok [5, 6, 7, 8, 9, 10, 11, 12] dX6_holdsGroup_62 mv6_235 miX0_has (c_has hd (by unfold rg; omega) hI) ⟨by decide, by decide, rfl, rfl, Nat.zero_le _, Nat.zero_le _⟩ rfl rfl (Nat.le_of_ble_eq_true rfl) rfl (by decide) rfl rfl ?_
        refine a_if_eq (pc := 65) (tgt := 84) ok dX6_holdsGroup_65 (by decide) (by exact bz_rg _) (fun c65 => ?_) (fun c65 => ?_)
        · refine a_iconst (pc := 84) ok dX6_holdsGroup_84 ?_
          exact a_zret (pc := 85) ok dX6_holdsGroup_85 (by first | rfl | exact nb_bz _ | exact @nb_bz _ (Classical.propDecidable _) | decide | exact nb_01 (by assumption)) (⟨by rw [z7 (by omega), bz_neg (fun z => bz_0.mp c65 ⟨by omega, z.2.1⟩)], RT_mk hr2⟩)
        · have hin : 0 ≤ a / 10000 ∧ a / 10000 < mS S2 := bz_y c65
          have hfs := fS_ok hS (show 0 ≤ a / 10000 ∧ a / 10000 < mS S2 from bz_y c65)
          have hsz : 0 ≤ siz (sC S2) (sR S2) (bS S2) (fS S2 (a / 10000)) ∧ siz (sC S2) (sR S2) (bS S2) (fS S2 (a / 10000)) ≤ (sC S2 * sR S2).toNat := cntK_rg _ _
          have hcc := dim_cells hd
          refine a_aload_n (pc := 68) ok dX6_holdsGroup_68 rfl ?_
          refine a_getf (pc := 69) ok dX6_holdsGroup_69 fl6_62 rfl rfl ?_
          refine a_iload_n (pc := 72) ok dX6_holdsGroup_72 rfl ?_
          refine a_callVp (pc := 73) ok [5, 6, 7, 8, 9, 10, 11, 12] dX6_holdsGroup_73 mv6_241 miX0_size (c_sizeI hd hfs.1 hfs.2.1 hfs.2.2 hI) ⟨by decide, by decide, rfl, rfl, Nat.zero_le _, Nat.zero_le _⟩ rfl rfl (Nat.le_of_ble_eq_true rfl) rfl (by decide) rfl rfl ?_
          refine a_iload_n (pc := 76) ok dX6_holdsGroup_76 rfl ?_
          refine a_icmp_lt (pc := 77) (tgt := 84) ok dX6_holdsGroup_77 (by decide) (by first | omega | (unfold rg; omega) | (simp only [rg] at *; omega) | exact bz_rg _ | grind [rg]) (by first | omega | (unfold rg; omega) | (simp only [rg] at *; omega) | exact bz_rg _ | grind [rg]) (fun c77 => ?_) (fun c77 => ?_)
          · refine a_iconst (pc := 84) ok dX6_holdsGroup_84 ?_
            exact a_zret (pc := 85) ok dX6_holdsGroup_85 (by first | rfl | exact nb_bz _ | exact @nb_bz _ (Classical.propDecidable _) | decide | exact nb_01 (by assumption)) (⟨by rw [z7 (by omega), bz_neg (fun z => by omega)], RT_mk hr2⟩)
          · refine a_iconst (pc := 80) ok dX6_holdsGroup_80 ?_
            refine a_goto (pc := 81) (tgt := 85) ok dX6_holdsGroup_81 (by decide) ?_
            exact a_zret (pc := 85) ok dX6_holdsGroup_85 (by first | rfl | exact nb_bz _ | exact @nb_bz _ (Classical.propDecidable _) | decide | exact nb_01 (by assumption)) (⟨by rw [z7 (by omega), bz_pos ⟨by omega, by omega, by omega⟩], RT_mk hr2⟩)
    · have c11 : _ = (8 : Int) := c11
      refine a_iload_n (pc := 86) ok dX6_holdsGroup_86 rfl ?_
      refine a_sipush (pc := 87) ok dX6_holdsGroup_87 (by decide) ?_
      refine a_idiv (pc := 90) ok dX6_holdsGroup_90 (by first | omega | (unfold rg; omega) | (simp only [rg] at *; omega) | exact bz_rg _ | grind [rg]) (by first | omega | (unfold rg; omega) | (simp only [rg] at *; omega) | exact bz_rg _ | grind [rg]) ?_
      refine a_sipush (pc := 91) ok dX6_holdsGroup_91 (by decide) ?_
      refine a_irem (pc := 94) ok dX6_holdsGroup_94 (by first | omega | (unfold rg; omega) | (simp only [rg] at *; omega) | exact bz_rg _ | grind [rg]) (by first | omega | (unfold rg; omega) | (simp only [rg] at *; omega) | exact bz_rg _ | grind [rg]) ?_
      refine a_if_ne (pc := 95) (tgt := 113) ok dX6_holdsGroup_95 (by decide) (by first | omega | (unfold rg; omega) | (simp only [rg] at *; omega) | exact bz_rg _ | grind [rg]) (fun c95 => ?_) (fun c95 => ?_)
      · refine a_iconst (pc := 113) ok dX6_holdsGroup_113 ?_
        exact a_zret (pc := 114) ok dX6_holdsGroup_114 (by first | rfl | exact nb_bz _ | exact @nb_bz _ (Classical.propDecidable _) | decide | exact nb_01 (by assumption)) (⟨by rw [z8 (by omega), bz_neg (fun z => by omega)], RT_mk hr2⟩)
      · refine a_aload_n (pc := 98) ok dX6_holdsGroup_98 rfl ?_
        refine a_getf (pc := 99) ok dX6_holdsGroup_99 fl6_62 rfl rfl ?_
        refine a_getf (pc := 102) ok dX6_holdsGroup_102 fl6_172 rfl rfl ?_
        refine a_iload_n (pc := 105) ok dX6_holdsGroup_105 rfl ?_
        refine a_icmp_gt (pc := 106) (tgt := 113) ok dX6_holdsGroup_106 (by decide) (by first | omega | (unfold rg; omega) | (simp only [rg] at *; omega) | exact bz_rg _ | grind [rg]) (by first | omega | (unfold rg; omega) | (simp only [rg] at *; omega) | exact bz_rg _ | grind [rg]) (fun c106 => ?_) (fun c106 => ?_)
        · refine a_iconst (pc := 113) ok dX6_holdsGroup_113 ?_
          exact a_zret (pc := 114) ok dX6_holdsGroup_114 (by first | rfl | exact nb_bz _ | exact @nb_bz _ (Classical.propDecidable _) | decide | exact nb_01 (by assumption)) (⟨by rw [z8 (by omega), bz_neg (fun z => by omega)], RT_mk hr2⟩)
        · refine a_iconst (pc := 109) ok dX6_holdsGroup_109 ?_
          refine a_goto (pc := 110) (tgt := 114) ok dX6_holdsGroup_110 (by decide) ?_
          exact a_zret (pc := 114) ok dX6_holdsGroup_114 (by first | rfl | exact nb_bz _ | exact @nb_bz _ (Classical.propDecidable _) | decide | exact nb_01 (by assumption)) (⟨by rw [z8 (by omega), bz_pos ⟨by omega, by omega⟩], RT_mk hr2⟩)
  · have c11_7 := c11 7 (by decide)
    have c11_8 := c11 8 (by decide)
    refine a_iload_n (pc := 115) ok dX6_holdsGroup_115 rfl ?_
    refine a_ldcw (pc := 116) (z := 100000) (v := Int32.ofInt 100000) ok dX6_holdsGroup_116 (ug5 28 (by decide +kernel) rfl) (by decide) ?_
    refine a_idiv (pc := 119) ok dX6_holdsGroup_119 (by first | omega | (unfold rg; omega) | (simp only [rg] at *; omega) | exact bz_rg _ | grind [rg]) (by first | omega | (unfold rg; omega) | (simp only [rg] at *; omega) | exact bz_rg _ | grind [rg]) ?_
    refine a_bipush (pc := 120) ok dX6_holdsGroup_120 (by decide) ?_
    refine a_irem (pc := 122) ok dX6_holdsGroup_122 (by first | omega | (unfold rg; omega) | (simp only [rg] at *; omega) | exact bz_rg _ | grind [rg]) (by first | omega | (unfold rg; omega) | (simp only [rg] at *; omega) | exact bz_rg _ | grind [rg]) ?_
    rw [show g / 100000 % 100 = a / 100000 by omega]
    refine a_istore (pc := 123) ok dX6_holdsGroup_123 rfl (by rw [hN]; decide) ?_
    refine a_iload_n (pc := 125) ok dX6_holdsGroup_125 rfl ?_
    refine a_sipush (pc := 126) ok dX6_holdsGroup_126 (by decide) ?_
    refine a_idiv (pc := 129) ok dX6_holdsGroup_129 (by first | omega | (unfold rg; omega) | (simp only [rg] at *; omega) | exact bz_rg _ | grind [rg]) (by first | omega | (unfold rg; omega) | (simp only [rg] at *; omega) | exact bz_rg _ | grind [rg]) ?_
    refine a_bipush (pc := 130) ok dX6_holdsGroup_130 (by decide) ?_
    refine a_irem (pc := 132) ok dX6_holdsGroup_132 (by first | omega | (unfold rg; omega) | (simp only [rg] at *; omega) | exact bz_rg _ | grind [rg]) (by first | omega | (unfold rg; omega) | (simp only [rg] at *; omega) | exact bz_rg _ | grind [rg]) ?_
    rw [show g / 1000 % 100 = a / 1000 % 100 by omega]
    refine a_istore (pc := 133) ok dX6_holdsGroup_133 rfl (by rw [hN]; decide) ?_
    refine a_iload_n (pc := 135) ok dX6_holdsGroup_135 rfl ?_
    refine a_bipush (pc := 136) ok dX6_holdsGroup_136 (by decide) ?_
    refine a_idiv (pc := 138) ok dX6_holdsGroup_138 (by first | omega | (unfold rg; omega) | (simp only [rg] at *; omega) | exact bz_rg _ | grind [rg]) (by first | omega | (unfold rg; omega) | (simp only [rg] at *; omega) | exact bz_rg _ | grind [rg]) ?_
    refine a_bipush (pc := 139) ok dX6_holdsGroup_139 (by decide) ?_
    refine a_irem (pc := 141) ok dX6_holdsGroup_141 (by first | omega | (unfold rg; omega) | (simp only [rg] at *; omega) | exact bz_rg _ | grind [rg]) (by first | omega | (unfold rg; omega) | (simp only [rg] at *; omega) | exact bz_rg _ | grind [rg]) ?_
    refine a_if_ne (pc := 142) (tgt := 188) ok dX6_holdsGroup_142 (by decide) (by first | omega | (unfold rg; omega) | (simp only [rg] at *; omega) | exact bz_rg _ | grind [rg]) (fun c142 => ?_) (fun c142 => ?_)
    · refine a_iconst (pc := 188) ok dX6_holdsGroup_188 ?_
      exact a_zret (pc := 189) ok dX6_holdsGroup_189 (by first | rfl | exact nb_bz _ | exact @nb_bz _ (Classical.propDecidable _) | decide | exact nb_01 (by assumption)) (⟨by rw [z9 (by omega), bz_neg (fun z => by omega)], RT_mk hr2⟩)
    · refine a_aload_n (pc := 145) ok dX6_holdsGroup_145 rfl ?_
      refine a_getf (pc := 146) ok dX6_holdsGroup_146 fl6_59 rfl rfl ?_
      refine a_iload (pc := 149) ok dX6_holdsGroup_149 rfl ?_
      refine a_iload (pc := 151) ok dX6_holdsGroup_151 rfl ?_
      refine a_callVp (pc := 153) ok [1, 2, 3, 4] dX6_holdsGroup_153 mv6_199 miX4_hasCell (c_hasCell hd (by unfold rg; omega) (by unfold rg; omega)) ⟨by decide, by decide, rfl, rfl, Nat.zero_le _, Nat.zero_le _⟩ rfl rfl (Nat.le_of_ble_eq_true rfl) rfl (by decide) rfl rfl ?_
      refine a_if_eq (pc := 156) (tgt := 188) ok dX6_holdsGroup_156 (by decide) (by exact bz_rg _) (fun c156 => ?_) (fun c156 => ?_)
      · refine a_iconst (pc := 188) ok dX6_holdsGroup_188 ?_
        exact a_zret (pc := 189) ok dX6_holdsGroup_189 (by first | rfl | exact nb_bz _ | exact @nb_bz _ (Classical.propDecidable _) | decide | exact nb_01 (by assumption)) (⟨by rw [z9 (by omega), bz_neg (fun z => bz_0.mp c156 ⟨by omega, z.2.1, by omega, z.2.2.1⟩)], RT_mk hr2⟩)
      · refine a_aload_n (pc := 159) ok dX6_holdsGroup_159 rfl ?_
        refine a_getf (pc := 160) ok dX6_holdsGroup_160 fl6_62 rfl rfl ?_
        refine a_aload_n (pc := 163) ok dX6_holdsGroup_163 rfl ?_
        refine a_getf (pc := 164) ok dX6_holdsGroup_164 fl6_59 rfl rfl ?_
        refine a_iload (pc := 167) ok dX6_holdsGroup_167 rfl ?_
        refine a_iload (pc := 169) ok dX6_holdsGroup_169 rfl ?_
        refine a_callVp (pc := 171) ok [1, 2, 3, 4] dX6_holdsGroup_171 mv6_214 miX4_cellNumber (c_cellNumber) ⟨by decide, by decide, rfl, rfl, Nat.zero_le _, Nat.zero_le _⟩ rfl rfl (Nat.le_of_ble_eq_true rfl) rfl (by decide) rfl rfl ?_
        have hin := bz_y c156
        have hcel := xy_cel hd ⟨hin.1, hin.2.1⟩ ⟨hin.2.2.1, hin.2.2.2⟩
        have eB := hI.2.2.2.1 _ hcel
        have hBb := hI.1 (a / 1000 % 100 * sC S2 + a / 100000)
        rw [eB] at hBb
        refine a_callVp (pc := 174) ok [5, 6, 7, 8, 9, 10, 11, 12] dX6_holdsGroup_174 mv6_217 miX0_bandAt (c_bandAt hd hcel hI) ⟨by decide, by decide, rfl, rfl, Nat.zero_le _, Nat.zero_le _⟩ rfl rfl (Nat.le_of_ble_eq_true rfl) rfl (by decide) rfl rfl ?_
        refine a_iload_n (pc := 177) ok dX6_holdsGroup_177 rfl ?_
        refine a_bipush (pc := 178) ok dX6_holdsGroup_178 (by decide) ?_
        refine a_irem (pc := 180) ok dX6_holdsGroup_180 (by first | omega | (unfold rg; omega) | (simp only [rg] at *; omega) | exact bz_rg _ | grind [rg]) (by first | omega | (unfold rg; omega) | (simp only [rg] at *; omega) | exact bz_rg _ | grind [rg]) ?_
        refine a_icmp_ne (pc := 181) (tgt := 188) ok dX6_holdsGroup_181 (by decide) (by unfold rg; omega) (by unfold rg; omega) (fun c181 => ?_) (fun c181 => ?_)
        · refine a_iconst (pc := 188) ok dX6_holdsGroup_188 ?_
          exact a_zret (pc := 189) ok dX6_holdsGroup_189 (by first | rfl | exact nb_bz _ | exact @nb_bz _ (Classical.propDecidable _) | decide | exact nb_01 (by assumption)) (⟨by rw [z9 (by omega), bz_neg (fun z => by omega)], RT_mk hr2⟩)
        · refine a_iconst (pc := 184) ok dX6_holdsGroup_184 ?_
          refine a_goto (pc := 185) (tgt := 189) ok dX6_holdsGroup_185 (by decide) ?_
          exact a_zret (pc := 189) ok dX6_holdsGroup_189 (by first | rfl | exact nb_bz _ | exact @nb_bz _ (Classical.propDecidable _) | decide | exact nb_01 (by assumption)) (⟨by rw [z9 (by omega), bz_pos ⟨by omega, hin.2.1, hin.2.2.2, by omega⟩], RT_mk hr2⟩)
theorem dX6_obeysGroup_0 : decode cX6_obeysGroup 0 = .ok (.iload_n 1, 1) := by decide +kernel
theorem dX6_obeysGroup_1 : decode cX6_obeysGroup 1 = .ok (.ldc_w 381, 3) := by decide +kernel
theorem dX6_obeysGroup_4 : decode cX6_obeysGroup 4 = .ok (.idiv, 1) := by decide +kernel
theorem dX6_obeysGroup_5 : decode cX6_obeysGroup 5 = .ok (.bipush 100, 2) := by decide +kernel
theorem dX6_obeysGroup_7 : decode cX6_obeysGroup 7 = .ok (.irem, 1) := by decide +kernel
theorem dX6_obeysGroup_8 : decode cX6_obeysGroup 8 = .ok (.istore_n 2, 1) := by decide +kernel
theorem dX6_obeysGroup_9 : decode cX6_obeysGroup 9 = .ok (.iload_n 1, 1) := by decide +kernel
theorem dX6_obeysGroup_10 : decode cX6_obeysGroup 10 = .ok (.sipush 1000, 3) := by decide +kernel
theorem dX6_obeysGroup_13 : decode cX6_obeysGroup 13 = .ok (.idiv, 1) := by decide +kernel
theorem dX6_obeysGroup_14 : decode cX6_obeysGroup 14 = .ok (.bipush 100, 2) := by decide +kernel
theorem dX6_obeysGroup_16 : decode cX6_obeysGroup 16 = .ok (.irem, 1) := by decide +kernel
theorem dX6_obeysGroup_17 : decode cX6_obeysGroup 17 = .ok (.istore_n 3, 1) := by decide +kernel
theorem dX6_obeysGroup_18 : decode cX6_obeysGroup 18 = .ok (.iload_n 1, 1) := by decide +kernel
theorem dX6_obeysGroup_19 : decode cX6_obeysGroup 19 = .ok (.bipush 10, 2) := by decide +kernel
theorem dX6_obeysGroup_21 : decode cX6_obeysGroup 21 = .ok (.idiv, 1) := by decide +kernel
theorem dX6_obeysGroup_22 : decode cX6_obeysGroup 22 = .ok (.bipush 100, 2) := by decide +kernel
theorem dX6_obeysGroup_24 : decode cX6_obeysGroup 24 = .ok (.irem, 1) := by decide +kernel
theorem dX6_obeysGroup_25 : decode cX6_obeysGroup 25 = .ok (.istore 4, 2) := by decide +kernel
theorem dX6_obeysGroup_27 : decode cX6_obeysGroup 27 = .ok (.iload_n 1, 1) := by decide +kernel
theorem dX6_obeysGroup_28 : decode cX6_obeysGroup 28 = .ok (.bipush 10, 2) := by decide +kernel
theorem dX6_obeysGroup_30 : decode cX6_obeysGroup 30 = .ok (.irem, 1) := by decide +kernel
theorem dX6_obeysGroup_31 : decode cX6_obeysGroup 31 = .ok (.istore 5, 2) := by decide +kernel
theorem dX6_obeysGroup_33 : decode cX6_obeysGroup 33 = .ok (.iload_n 1, 1) := by decide +kernel
theorem dX6_obeysGroup_34 : decode cX6_obeysGroup 34 = .ok (.ldc_w 382, 3) := by decide +kernel
theorem dX6_obeysGroup_37 : decode cX6_obeysGroup 37 = .ok (.idiv, 1) := by decide +kernel
theorem dX6_obeysGroup_38 : decode cX6_obeysGroup 38 = .ok (.tableswitch 248 1 9 #[50, 75, 95, 147, 172, 200, 224, 224, 224], 50) := by decide +kernel
theorem dX6_obeysGroup_88 : decode cX6_obeysGroup 88 = .ok (.iload 5, 2) := by decide +kernel
theorem dX6_obeysGroup_90 : decode cX6_obeysGroup 90 = .ok (.ifCond .ne 21, 3) := by decide +kernel
theorem dX6_obeysGroup_93 : decode cX6_obeysGroup 93 = .ok (.aload_n 0, 1) := by decide +kernel
theorem dX6_obeysGroup_94 : decode cX6_obeysGroup 94 = .ok (.getfield 59, 3) := by decide +kernel
theorem dX6_obeysGroup_97 : decode cX6_obeysGroup 97 = .ok (.iload_n 2, 1) := by decide +kernel
theorem dX6_obeysGroup_98 : decode cX6_obeysGroup 98 = .ok (.iload_n 3, 1) := by decide +kernel
theorem dX6_obeysGroup_99 : decode cX6_obeysGroup 99 = .ok (.iload 4, 2) := by decide +kernel
theorem dX6_obeysGroup_101 : decode cX6_obeysGroup 101 = .ok (.invokevirtual 131, 3) := by decide +kernel
theorem dX6_obeysGroup_104 : decode cX6_obeysGroup 104 = .ok (.ifCond .eq 7, 3) := by decide +kernel
theorem dX6_obeysGroup_107 : decode cX6_obeysGroup 107 = .ok (.iconst 1, 1) := by decide +kernel
theorem dX6_obeysGroup_108 : decode cX6_obeysGroup 108 = .ok (.goto 4, 3) := by decide +kernel
theorem dX6_obeysGroup_111 : decode cX6_obeysGroup 111 = .ok (.iconst 0, 1) := by decide +kernel
theorem dX6_obeysGroup_112 : decode cX6_obeysGroup 112 = .ok (.ireturn, 1) := by decide +kernel
theorem dX6_obeysGroup_113 : decode cX6_obeysGroup 113 = .ok (.aload_n 0, 1) := by decide +kernel
theorem dX6_obeysGroup_114 : decode cX6_obeysGroup 114 = .ok (.getfield 59, 3) := by decide +kernel
theorem dX6_obeysGroup_117 : decode cX6_obeysGroup 117 = .ok (.iload_n 2, 1) := by decide +kernel
theorem dX6_obeysGroup_118 : decode cX6_obeysGroup 118 = .ok (.iload_n 2, 1) := by decide +kernel
theorem dX6_obeysGroup_119 : decode cX6_obeysGroup 119 = .ok (.iload 5, 2) := by decide +kernel
theorem dX6_obeysGroup_121 : decode cX6_obeysGroup 121 = .ok (.iadd, 1) := by decide +kernel
theorem dX6_obeysGroup_122 : decode cX6_obeysGroup 122 = .ok (.iload_n 3, 1) := by decide +kernel
theorem dX6_obeysGroup_123 : decode cX6_obeysGroup 123 = .ok (.iload_n 3, 1) := by decide +kernel
theorem dX6_obeysGroup_124 : decode cX6_obeysGroup 124 = .ok (.iload 5, 2) := by decide +kernel
theorem dX6_obeysGroup_126 : decode cX6_obeysGroup 126 = .ok (.iadd, 1) := by decide +kernel
theorem dX6_obeysGroup_127 : decode cX6_obeysGroup 127 = .ok (.iload 4, 2) := by decide +kernel
theorem dX6_obeysGroup_129 : decode cX6_obeysGroup 129 = .ok (.invokevirtual 135, 3) := by decide +kernel
theorem dX6_obeysGroup_132 : decode cX6_obeysGroup 132 = .ok (.ireturn, 1) := by decide +kernel
theorem dX6_obeysGroup_133 : decode cX6_obeysGroup 133 = .ok (.iload_n 1, 1) := by decide +kernel
theorem dX6_obeysGroup_134 : decode cX6_obeysGroup 134 = .ok (.sipush 10000, 3) := by decide +kernel
theorem dX6_obeysGroup_137 : decode cX6_obeysGroup 137 = .ok (.idiv, 1) := by decide +kernel
theorem dX6_obeysGroup_138 : decode cX6_obeysGroup 138 = .ok (.bipush 10, 2) := by decide +kernel
theorem dX6_obeysGroup_140 : decode cX6_obeysGroup 140 = .ok (.irem, 1) := by decide +kernel
theorem dX6_obeysGroup_141 : decode cX6_obeysGroup 141 = .ok (.istore 6, 2) := by decide +kernel
theorem dX6_obeysGroup_143 : decode cX6_obeysGroup 143 = .ok (.iload_n 1, 1) := by decide +kernel
theorem dX6_obeysGroup_144 : decode cX6_obeysGroup 144 = .ok (.sipush 10000, 3) := by decide +kernel
theorem dX6_obeysGroup_147 : decode cX6_obeysGroup 147 = .ok (.irem, 1) := by decide +kernel
theorem dX6_obeysGroup_148 : decode cX6_obeysGroup 148 = .ok (.ifCond .ne 35, 3) := by decide +kernel
theorem dX6_obeysGroup_151 : decode cX6_obeysGroup 151 = .ok (.iload 6, 2) := by decide +kernel
theorem dX6_obeysGroup_153 : decode cX6_obeysGroup 153 = .ok (.iconst 1, 1) := by decide +kernel
theorem dX6_obeysGroup_154 : decode cX6_obeysGroup 154 = .ok (.if_icmp .gt 29, 3) := by decide +kernel
theorem dX6_obeysGroup_157 : decode cX6_obeysGroup 157 = .ok (.aload_n 0, 1) := by decide +kernel
theorem dX6_obeysGroup_158 : decode cX6_obeysGroup 158 = .ok (.getfield 59, 3) := by decide +kernel
theorem dX6_obeysGroup_161 : decode cX6_obeysGroup 161 = .ok (.iload_n 2, 1) := by decide +kernel
theorem dX6_obeysGroup_162 : decode cX6_obeysGroup 162 = .ok (.iload 6, 2) := by decide +kernel
theorem dX6_obeysGroup_164 : decode cX6_obeysGroup 164 = .ok (.iconst 1, 1) := by decide +kernel
theorem dX6_obeysGroup_165 : decode cX6_obeysGroup 165 = .ok (.if_icmp .ne 7, 3) := by decide +kernel
theorem dX6_obeysGroup_168 : decode cX6_obeysGroup 168 = .ok (.iconst 1, 1) := by decide +kernel
theorem dX6_obeysGroup_169 : decode cX6_obeysGroup 169 = .ok (.goto 4, 3) := by decide +kernel
theorem dX6_obeysGroup_172 : decode cX6_obeysGroup 172 = .ok (.iconst 0, 1) := by decide +kernel
theorem dX6_obeysGroup_173 : decode cX6_obeysGroup 173 = .ok (.invokevirtual 139, 3) := by decide +kernel
theorem dX6_obeysGroup_176 : decode cX6_obeysGroup 176 = .ok (.ifCond .eq 7, 3) := by decide +kernel
theorem dX6_obeysGroup_179 : decode cX6_obeysGroup 179 = .ok (.iconst 1, 1) := by decide +kernel
theorem dX6_obeysGroup_180 : decode cX6_obeysGroup 180 = .ok (.goto 4, 3) := by decide +kernel
theorem dX6_obeysGroup_183 : decode cX6_obeysGroup 183 = .ok (.iconst 0, 1) := by decide +kernel
theorem dX6_obeysGroup_184 : decode cX6_obeysGroup 184 = .ok (.ireturn, 1) := by decide +kernel
theorem dX6_obeysGroup_185 : decode cX6_obeysGroup 185 = .ok (.iload_n 1, 1) := by decide +kernel
theorem dX6_obeysGroup_186 : decode cX6_obeysGroup 186 = .ok (.ldc_w 381, 3) := by decide +kernel
theorem dX6_obeysGroup_189 : decode cX6_obeysGroup 189 = .ok (.irem, 1) := by decide +kernel
theorem dX6_obeysGroup_190 : decode cX6_obeysGroup 190 = .ok (.ifCond .ne 18, 3) := by decide +kernel
theorem dX6_obeysGroup_193 : decode cX6_obeysGroup 193 = .ok (.aload_n 0, 1) := by decide +kernel
theorem dX6_obeysGroup_194 : decode cX6_obeysGroup 194 = .ok (.getfield 59, 3) := by decide +kernel
theorem dX6_obeysGroup_197 : decode cX6_obeysGroup 197 = .ok (.iload_n 2, 1) := by decide +kernel
theorem dX6_obeysGroup_198 : decode cX6_obeysGroup 198 = .ok (.invokevirtual 143, 3) := by decide +kernel
theorem dX6_obeysGroup_201 : decode cX6_obeysGroup 201 = .ok (.ifCond .eq 7, 3) := by decide +kernel
theorem dX6_obeysGroup_204 : decode cX6_obeysGroup 204 = .ok (.iconst 1, 1) := by decide +kernel
theorem dX6_obeysGroup_205 : decode cX6_obeysGroup 205 = .ok (.goto 4, 3) := by decide +kernel
theorem dX6_obeysGroup_208 : decode cX6_obeysGroup 208 = .ok (.iconst 0, 1) := by decide +kernel
theorem dX6_obeysGroup_209 : decode cX6_obeysGroup 209 = .ok (.ireturn, 1) := by decide +kernel
theorem dX6_obeysGroup_210 : decode cX6_obeysGroup 210 = .ok (.iload_n 1, 1) := by decide +kernel
theorem dX6_obeysGroup_211 : decode cX6_obeysGroup 211 = .ok (.ldc_w 382, 3) := by decide +kernel
theorem dX6_obeysGroup_214 : decode cX6_obeysGroup 214 = .ok (.irem, 1) := by decide +kernel
theorem dX6_obeysGroup_215 : decode cX6_obeysGroup 215 = .ok (.ifCond .ne 21, 3) := by decide +kernel
theorem dX6_obeysGroup_218 : decode cX6_obeysGroup 218 = .ok (.aload_n 0, 1) := by decide +kernel
theorem dX6_obeysGroup_219 : decode cX6_obeysGroup 219 = .ok (.getfield 59, 3) := by decide +kernel
theorem dX6_obeysGroup_222 : decode cX6_obeysGroup 222 = .ok (.aload_n 0, 1) := by decide +kernel
theorem dX6_obeysGroup_223 : decode cX6_obeysGroup 223 = .ok (.getfield 72, 3) := by decide +kernel
theorem dX6_obeysGroup_226 : decode cX6_obeysGroup 226 = .ok (.invokevirtual 149, 3) := by decide +kernel
theorem dX6_obeysGroup_229 : decode cX6_obeysGroup 229 = .ok (.ifCond .lt 7, 3) := by decide +kernel
theorem dX6_obeysGroup_232 : decode cX6_obeysGroup 232 = .ok (.iconst 1, 1) := by decide +kernel
theorem dX6_obeysGroup_233 : decode cX6_obeysGroup 233 = .ok (.goto 4, 3) := by decide +kernel
theorem dX6_obeysGroup_236 : decode cX6_obeysGroup 236 = .ok (.iconst 0, 1) := by decide +kernel
theorem dX6_obeysGroup_237 : decode cX6_obeysGroup 237 = .ok (.ireturn, 1) := by decide +kernel
theorem dX6_obeysGroup_238 : decode cX6_obeysGroup 238 = .ok (.iload_n 1, 1) := by decide +kernel
theorem dX6_obeysGroup_239 : decode cX6_obeysGroup 239 = .ok (.ldc_w 382, 3) := by decide +kernel
theorem dX6_obeysGroup_242 : decode cX6_obeysGroup 242 = .ok (.irem, 1) := by decide +kernel
theorem dX6_obeysGroup_243 : decode cX6_obeysGroup 243 = .ok (.ifCond .ne 17, 3) := by decide +kernel
theorem dX6_obeysGroup_246 : decode cX6_obeysGroup 246 = .ok (.aload_n 0, 1) := by decide +kernel
theorem dX6_obeysGroup_247 : decode cX6_obeysGroup 247 = .ok (.getfield 59, 3) := by decide +kernel
theorem dX6_obeysGroup_250 : decode cX6_obeysGroup 250 = .ok (.invokevirtual 153, 3) := by decide +kernel
theorem dX6_obeysGroup_253 : decode cX6_obeysGroup 253 = .ok (.ifCond .eq 7, 3) := by decide +kernel
theorem dX6_obeysGroup_256 : decode cX6_obeysGroup 256 = .ok (.iconst 1, 1) := by decide +kernel
theorem dX6_obeysGroup_257 : decode cX6_obeysGroup 257 = .ok (.goto 4, 3) := by decide +kernel
theorem dX6_obeysGroup_260 : decode cX6_obeysGroup 260 = .ok (.iconst 0, 1) := by decide +kernel
theorem dX6_obeysGroup_261 : decode cX6_obeysGroup 261 = .ok (.ireturn, 1) := by decide +kernel
theorem dX6_obeysGroup_262 : decode cX6_obeysGroup 262 = .ok (.aload_n 0, 1) := by decide +kernel
theorem dX6_obeysGroup_263 : decode cX6_obeysGroup 263 = .ok (.getfield 62, 3) := by decide +kernel
theorem dX6_obeysGroup_266 : decode cX6_obeysGroup 266 = .ok (.aload_n 0, 1) := by decide +kernel
theorem dX6_obeysGroup_267 : decode cX6_obeysGroup 267 = .ok (.getfield 59, 3) := by decide +kernel
theorem dX6_obeysGroup_270 : decode cX6_obeysGroup 270 = .ok (.aload_n 0, 1) := by decide +kernel
theorem dX6_obeysGroup_271 : decode cX6_obeysGroup 271 = .ok (.getfield 59, 3) := by decide +kernel
theorem dX6_obeysGroup_274 : decode cX6_obeysGroup 274 = .ok (.getfield 165, 3) := by decide +kernel
theorem dX6_obeysGroup_277 : decode cX6_obeysGroup 277 = .ok (.invokevirtual 175, 3) := by decide +kernel
theorem dX6_obeysGroup_280 : decode cX6_obeysGroup 280 = .ok (.aload_n 0, 1) := by decide +kernel
theorem dX6_obeysGroup_281 : decode cX6_obeysGroup 281 = .ok (.iload_n 1, 1) := by decide +kernel
theorem dX6_obeysGroup_282 : decode cX6_obeysGroup 282 = .ok (.invokevirtual 383, 3) := by decide +kernel
theorem dX6_obeysGroup_285 : decode cX6_obeysGroup 285 = .ok (.ireturn, 1) := by decide +kernel
theorem dX6_obeysGroup_286 : decode cX6_obeysGroup 286 = .ok (.iconst 0, 1) := by decide +kernel
theorem dX6_obeysGroup_287 : decode cX6_obeysGroup 287 = .ok (.ireturn, 1) := by decide +kernel
set_option maxRecDepth 100000 in
theorem c_obeysGroup {g a k : Int} (hS : SV S2) (hr : rwI B1 F1 Z1) (hg : 0 ≤ g ∧ g < 100000000) (ha : a = g % 10000000) (hk : k = g / 10000000) : Ct l yX6_obeysGroup cX6_obeysGroup 7 (some .boolean) rmX6_obeysGroup [.ref 0, iv g] (clT kn nk S2 c1 r1 m1 ct1 B1 F1 Z1 Br1 Q1 Fo1 No1 gb)
    (fun z M => z = some (iv (cmZ S2 k a)) ∧ RT kn nk (cmS S2 k a) M) := by
  refine Ct.of miX6_obeysGroup (Nat.le_of_ble_eq_true rfl) ?_
  intro X hXl hN ok
  refine AW.cast (L2 := [some (.ref 0), some (iv g), none, none, none, none, none]) ?_ rfl rfl rfl
  have hd := hS.1
  have h01 := cmZ_01 (S := S2) (k := k) (a := a)
  have hcb := cntK_rg (fun j => decide (blF (sC S2) (sR S2) (sG S2) j ≠ sG S2 j)) (sC S2 * sR S2).toNat
  have hc := dim_cells hd
  have z1 : k = 1 → cmZ S2 k a = bz (a % 10 = 0 ∧ kP S2 (a / 100000) (a / 1000 % 100) (a / 10 % 100)) ∧ cmS S2 k a = (if a % 10 = 0 then stP S2 (a / 100000) (a / 1000 % 100) (a / 10 % 100) else S2) := fun e => by subst e; exact ⟨rfl, rfl⟩
  have z2 : k = 2 → cmZ S2 k a = bz (kB S2 (a / 100000) (a / 100000 + a % 10) (a / 1000 % 100) (a / 1000 % 100 + a % 10) (a / 10 % 100)) ∧ cmS S2 k a = stB S2 (a / 100000) (a / 100000 + a % 10) (a / 1000 % 100) (a / 1000 % 100 + a % 10) (a / 10 % 100) := fun e => by subst e; exact ⟨rfl, rfl⟩
  have z3 : k = 3 → cmZ S2 k a = bz (a % 10000 = 0 ∧ a / 10000 % 10 < 2 ∧ kT S2 (a / 100000) (if a / 10000 % 10 = 1 then 1 else 0)) ∧ cmS S2 k a = (if a % 10000 = 0 ∧ a / 10000 % 10 < 2 then stT S2 (a / 100000) (if a / 10000 % 10 = 1 then 1 else 0) else S2) := fun e => by subst e; exact ⟨rfl, rfl⟩
  have z4 : k = 4 → cmZ S2 k a = bz (a % 100000 = 0 ∧ 1 ≤ a / 100000 ∧ a / 100000 ≤ 30) ∧ cmS S2 k a = (if a % 100000 = 0 then stL S2 (a / 100000) else S2) := fun e => by subst e; exact ⟨rfl, rfl⟩
  have z5 : k = 5 → cmZ S2 k a = bz (a = 0) ∧ cmS S2 k a = (if a = 0 then gU S2 else S2) := fun e => by subst e; exact ⟨rfl, rfl⟩
  have z6 : k = 6 → cmZ S2 k a = bz (a = 0) ∧ cmS S2 k a = (if a = 0 then gI S2 else S2) := fun e => by subst e; exact ⟨rfl, rfl⟩
  have z7 : 7 ≤ k ∧ k ≤ 9 → cmS S2 k a = S2 := fun e => by
    rcases (show k = 7 ∨ k = 8 ∨ k = 9 by omega) with e | e | e <;> subst e <;> rfl
  have z0 : k = 0 → cmZ S2 k a = 0 ∧ cmS S2 k a = S2 := fun e => by subst e; exact ⟨rfl, rfl⟩
  have done : ∀ {v : Int} {M : List va_E} {S3 : St} (gb' : Int → Int), M = (clT kn nk (S3) c1 r1 m1 ct1 B1 F1 Z1 Br1 Q1 Fo1 No1 (gb')) → v = cmZ S2 k a → cmS S2 k a = S3 → some (iv v) = some (iv (cmZ S2 k a)) ∧ RT kn nk (cmS S2 k a) M := fun gb' e1 e2 e3 => by subst e1; rw [e2, e3]; exact ⟨rfl, RT_mk hr⟩
  refine a_iload_n (pc := 0) ok dX6_obeysGroup_0 rfl ?_
  refine a_ldcw (pc := 1) (z := 100000) (v := Int32.ofInt 100000) ok dX6_obeysGroup_1 (ug5 28 (by decide +kernel) rfl) (by decide) ?_
  refine a_idiv (pc := 4) ok dX6_obeysGroup_4 (by first | omega | (unfold rg; omega) | (simp only [rg] at *; omega) | exact bz_rg _ | grind [rg]) (by first | omega | (unfold rg; omega) | (simp only [rg] at *; omega) | exact bz_rg _ | grind [rg]) ?_
  refine a_bipush (pc := 5) ok dX6_obeysGroup_5 (by decide) ?_
  refine a_irem (pc := 7) ok dX6_obeysGroup_7 (by first | omega | (unfold rg; omega) | (simp only [rg] at *; omega) | exact bz_rg _ | grind [rg]) (by first | omega | (unfold rg; omega) | (simp only [rg] at *; omega) | exact bz_rg _ | grind [rg]) ?_
  rw [show g / 100000 % 100 = a / 100000 by omega]
  refine a_istore_n (pc := 8) ok dX6_obeysGroup_8 rfl (by rw [hN]; decide) ?_
  refine a_iload_n (pc := 9) ok dX6_obeysGroup_9 rfl ?_
  refine a_sipush (pc := 10) ok dX6_obeysGroup_10 (by decide) ?_
  refine a_idiv (pc := 13) ok dX6_obeysGroup_13 (by first | omega | (unfold rg; omega) | (simp only [rg] at *; omega) | exact bz_rg _ | grind [rg]) (by first | omega | (unfold rg; omega) | (simp only [rg] at *; omega) | exact bz_rg _ | grind [rg]) ?_
  refine a_bipush (pc := 14) ok dX6_obeysGroup_14 (by decide) ?_
  refine a_irem (pc := 16) ok dX6_obeysGroup_16 (by first | omega | (unfold rg; omega) | (simp only [rg] at *; omega) | exact bz_rg _ | grind [rg]) (by first | omega | (unfold rg; omega) | (simp only [rg] at *; omega) | exact bz_rg _ | grind [rg]) ?_
  rw [show g / 1000 % 100 = a / 1000 % 100 by omega]
  refine a_istore_n (pc := 17) ok dX6_obeysGroup_17 rfl (by rw [hN]; decide) ?_
  refine a_iload_n (pc := 18) ok dX6_obeysGroup_18 rfl ?_
  refine a_bipush (pc := 19) ok dX6_obeysGroup_19 (by decide) ?_
  refine a_idiv (pc := 21) ok dX6_obeysGroup_21 (by first | omega | (unfold rg; omega) | (simp only [rg] at *; omega) | exact bz_rg _ | grind [rg]) (by first | omega | (unfold rg; omega) | (simp only [rg] at *; omega) | exact bz_rg _ | grind [rg]) ?_
  refine a_bipush (pc := 22) ok dX6_obeysGroup_22 (by decide) ?_
  refine a_irem (pc := 24) ok dX6_obeysGroup_24 (by first | omega | (unfold rg; omega) | (simp only [rg] at *; omega) | exact bz_rg _ | grind [rg]) (by first | omega | (unfold rg; omega) | (simp only [rg] at *; omega) | exact bz_rg _ | grind [rg]) ?_
  rw [show g / 10 % 100 = a / 10 % 100 by omega]
  refine a_istore (pc := 25) ok dX6_obeysGroup_25 rfl (by rw [hN]; decide) ?_
  refine a_iload_n (pc := 27) ok dX6_obeysGroup_27 rfl ?_
  refine a_bipush (pc := 28) ok dX6_obeysGroup_28 (by decide) ?_
  refine a_irem (pc := 30) ok dX6_obeysGroup_30 (by first | omega | (unfold rg; omega) | (simp only [rg] at *; omega) | exact bz_rg _ | grind [rg]) (by first | omega | (unfold rg; omega) | (simp only [rg] at *; omega) | exact bz_rg _ | grind [rg]) ?_
  rw [show g % 10 = a % 10 by omega]
  refine a_istore (pc := 31) ok dX6_obeysGroup_31 rfl (by rw [hN]; decide) ?_
  refine a_iload_n (pc := 33) ok dX6_obeysGroup_33 rfl ?_
  refine a_ldcw (pc := 34) (z := 10000000) (v := Int32.ofInt 10000000) ok dX6_obeysGroup_34 (ug5 29 (by decide +kernel) rfl) (by decide) ?_
  refine a_idiv (pc := 37) ok dX6_obeysGroup_37 (by first | omega | (unfold rg; omega) | (simp only [rg] at *; omega) | exact bz_rg _ | grind [rg]) (by first | omega | (unfold rg; omega) | (simp only [rg] at *; omega) | exact bz_rg _ | grind [rg]) ?_
  refine a_tab (pc := 38) (dt := 286) ok [88, 113, 133, 185, 210, 238, 262, 262, 262] dX6_obeysGroup_38 (by decide) (by decide) (by decide) (by first | omega | (unfold rg; omega) | (simp only [rg] at *; omega) | exact bz_rg _ | grind [rg]) (fun j38 hj38 c38 => ?_) (fun c38 => ?_)
  · rcases (show j38 = 0 ∨ j38 = 1 ∨ j38 = 2 ∨ j38 = 3 ∨ j38 = 4 ∨ j38 = 5 ∨ j38 = 6 ∨ j38 = 7 ∨ j38 = 8 by simp only [List.length_cons, List.length_nil] at hj38; omega) with rfl | rfl | rfl | rfl | rfl | rfl | rfl | rfl | rfl
    · refine a_iload (pc := 88) ok dX6_obeysGroup_88 rfl ?_
      refine a_if_ne (pc := 90) (tgt := 111) ok dX6_obeysGroup_90 (by decide) (by first | omega | (unfold rg; omega) | (simp only [rg] at *; omega) | exact bz_rg _ | grind [rg]) (fun c90 => ?_) (fun c90 => ?_)
      · refine a_iconst (pc := 111) ok dX6_obeysGroup_111 ?_
        exact a_zret (pc := 112) ok dX6_obeysGroup_112 (by first | rfl | exact nb_bz _ | exact @nb_bz _ (Classical.propDecidable _) | decide | exact nb_01 (by assumption)) (done gb rfl (by rw [(z1 (by omega)).1, bz_neg (fun z => by omega)]) (by rw [(z1 (by omega)).2, if_neg (by omega)]))
      · refine a_aload_n (pc := 93) ok dX6_obeysGroup_93 rfl ?_
        refine a_getf (pc := 94) ok dX6_obeysGroup_94 fl6_59 rfl rfl ?_
        refine a_iload_n (pc := 97) ok dX6_obeysGroup_97 rfl ?_
        refine a_iload_n (pc := 98) ok dX6_obeysGroup_98 rfl ?_
        refine a_iload (pc := 99) ok dX6_obeysGroup_99 rfl ?_
        refine a_callVi (pc := 101) ok [1, 2, 3, 4] dX6_obeysGroup_101 mv6_131 miX4_trySetGrey (c_tP hS (by unfold rg; omega) (by unfold rg; omega) (by unfold rg; omega)) ⟨by decide, by decide, rfl, rfl, Nat.zero_le _, Nat.zero_le _⟩ rfl rfl (Nat.le_of_ble_eq_true rfl) rfl (by decide) rfl rfl rfl ?_
        refine a_if_eq (pc := 104) (tgt := 111) ok dX6_obeysGroup_104 (by decide) (by exact bz_rg _) (fun c104 => ?_) (fun c104 => ?_)
        · refine a_iconst (pc := 111) ok dX6_obeysGroup_111 ?_
          exact a_zret (pc := 112) ok dX6_obeysGroup_112 (by first | rfl | exact nb_bz _ | exact @nb_bz _ (Classical.propDecidable _) | decide | exact nb_01 (by assumption)) (done gb rfl (by rw [(z1 (by omega)).1, bz_neg (fun z => bz_0.mp c104 z.2)]) (by rw [(z1 (by omega)).2, if_pos (by omega)]))
        · refine a_iconst (pc := 107) ok dX6_obeysGroup_107 ?_
          refine a_goto (pc := 108) (tgt := 112) ok dX6_obeysGroup_108 (by decide) ?_
          exact a_zret (pc := 112) ok dX6_obeysGroup_112 (by first | rfl | exact nb_bz _ | exact @nb_bz _ (Classical.propDecidable _) | decide | exact nb_01 (by assumption)) (done gb rfl (by rw [(z1 (by omega)).1, bz_pos ⟨by omega, bz_y c104⟩]) (by rw [(z1 (by omega)).2, if_pos (by omega)]))
    · refine a_aload_n (pc := 113) ok dX6_obeysGroup_113 rfl ?_
      refine a_getf (pc := 114) ok dX6_obeysGroup_114 fl6_59 rfl rfl ?_
      refine a_iload_n (pc := 117) ok dX6_obeysGroup_117 rfl ?_
      refine a_iload_n (pc := 118) ok dX6_obeysGroup_118 rfl ?_
      refine a_iload (pc := 119) ok dX6_obeysGroup_119 rfl ?_
      refine a_iadd (pc := 121) ok dX6_obeysGroup_121 ?_
      refine a_iload_n (pc := 122) ok dX6_obeysGroup_122 rfl ?_
      refine a_iload_n (pc := 123) ok dX6_obeysGroup_123 rfl ?_
      refine a_iload (pc := 124) ok dX6_obeysGroup_124 rfl ?_
      refine a_iadd (pc := 126) ok dX6_obeysGroup_126 ?_
      refine a_iload (pc := 127) ok dX6_obeysGroup_127 rfl ?_
      refine a_callVi (pc := 129) ok [1, 2, 3, 4] dX6_obeysGroup_129 mv6_135 miX4_tryFillBox (c_tB hS (by unfold rg; omega) (by unfold rg; omega) (by unfold rg; omega) (by unfold rg; omega) (by unfold rg; omega)) ⟨by decide, by decide, rfl, rfl, Nat.zero_le _, Nat.zero_le _⟩ rfl rfl (Nat.le_of_ble_eq_true rfl) rfl (by decide) rfl rfl rfl ?_
      exact a_zret (pc := 132) ok dX6_obeysGroup_132 (by first | rfl | exact nb_bz _ | exact @nb_bz _ (Classical.propDecidable _) | decide | exact nb_01 (by assumption)) (done gb rfl (by rw [(z2 (by omega)).1]) (z2 (by omega)).2)
    · refine a_iload_n (pc := 133) ok dX6_obeysGroup_133 rfl ?_
      refine a_sipush (pc := 134) ok dX6_obeysGroup_134 (by decide) ?_
      refine a_idiv (pc := 137) ok dX6_obeysGroup_137 (by first | omega | (unfold rg; omega) | (simp only [rg] at *; omega) | exact bz_rg _ | grind [rg]) (by first | omega | (unfold rg; omega) | (simp only [rg] at *; omega) | exact bz_rg _ | grind [rg]) ?_
      refine a_bipush (pc := 138) ok dX6_obeysGroup_138 (by decide) ?_
      refine a_irem (pc := 140) ok dX6_obeysGroup_140 (by first | omega | (unfold rg; omega) | (simp only [rg] at *; omega) | exact bz_rg _ | grind [rg]) (by first | omega | (unfold rg; omega) | (simp only [rg] at *; omega) | exact bz_rg _ | grind [rg]) ?_
      rw [show g / 10000 % 10 = a / 10000 % 10 by omega]
      refine a_istore (pc := 141) ok dX6_obeysGroup_141 rfl (by rw [hN]; decide) ?_
      refine a_iload_n (pc := 143) ok dX6_obeysGroup_143 rfl ?_
      refine a_sipush (pc := 144) ok dX6_obeysGroup_144 (by decide) ?_
      refine a_irem (pc := 147) ok dX6_obeysGroup_147 (by first | omega | (unfold rg; omega) | (simp only [rg] at *; omega) | exact bz_rg _ | grind [rg]) (by first | omega | (unfold rg; omega) | (simp only [rg] at *; omega) | exact bz_rg _ | grind [rg]) ?_
      refine a_if_ne (pc := 148) (tgt := 183) ok dX6_obeysGroup_148 (by decide) (by first | omega | (unfold rg; omega) | (simp only [rg] at *; omega) | exact bz_rg _ | grind [rg]) (fun c148 => ?_) (fun c148 => ?_)
      · refine a_iconst (pc := 183) ok dX6_obeysGroup_183 ?_
        exact a_zret (pc := 184) ok dX6_obeysGroup_184 (by first | rfl | exact nb_bz _ | exact @nb_bz _ (Classical.propDecidable _) | decide | exact nb_01 (by assumption)) (done gb rfl (by rw [(z3 (by omega)).1, bz_neg (fun z => by omega)]) (by rw [(z3 (by omega)).2, if_neg (by omega)]))
      · refine a_iload (pc := 151) ok dX6_obeysGroup_151 rfl ?_
        refine a_iconst (pc := 153) ok dX6_obeysGroup_153 ?_
        refine a_icmp_gt (pc := 154) (tgt := 183) ok dX6_obeysGroup_154 (by decide) (by first | omega | (unfold rg; omega) | (simp only [rg] at *; omega) | exact bz_rg _ | grind [rg]) (by first | omega | (unfold rg; omega) | (simp only [rg] at *; omega) | exact bz_rg _ | grind [rg]) (fun c154 => ?_) (fun c154 => ?_)
        · refine a_iconst (pc := 183) ok dX6_obeysGroup_183 ?_
          exact a_zret (pc := 184) ok dX6_obeysGroup_184 (by first | rfl | exact nb_bz _ | exact @nb_bz _ (Classical.propDecidable _) | decide | exact nb_01 (by assumption)) (done gb rfl (by rw [(z3 (by omega)).1, bz_neg (fun z => by omega)]) (by rw [(z3 (by omega)).2, if_neg (by omega)]))
        · refine a_aload_n (pc := 157) ok dX6_obeysGroup_157 rfl ?_
          refine a_getf (pc := 158) ok dX6_obeysGroup_158 fl6_59 rfl rfl ?_
          refine a_iload_n (pc := 161) ok dX6_obeysGroup_161 rfl ?_
          refine a_iload (pc := 162) ok dX6_obeysGroup_162 rfl ?_
          refine a_iconst (pc := 164) ok dX6_obeysGroup_164 ?_
          refine a_icmp_ne (pc := 165) (tgt := 172) ok dX6_obeysGroup_165 (by decide) (by first | omega | (unfold rg; omega) | (simp only [rg] at *; omega) | exact bz_rg _ | grind [rg]) (by first | omega | (unfold rg; omega) | (simp only [rg] at *; omega) | exact bz_rg _ | grind [rg]) (fun c165 => ?_) (fun c165 => ?_)
          · refine a_iconst (pc := 172) ok dX6_obeysGroup_172 ?_
            refine a_callVi (pc := 173) ok [1, 2, 3, 4] dX6_obeysGroup_173 mv6_139 miX4_tryChangeThreshold (c_tT hS (by unfold rg; omega) (by unfold rg; omega)) ⟨by decide, by decide, rfl, rfl, Nat.zero_le _, Nat.zero_le _⟩ rfl rfl (Nat.le_of_ble_eq_true rfl) rfl (by decide) rfl rfl rfl ?_
            refine a_if_eq (pc := 176) (tgt := 183) ok dX6_obeysGroup_176 (by decide) (by exact bz_rg _) (fun c176 => ?_) (fun c176 => ?_)
            · refine a_iconst (pc := 183) ok dX6_obeysGroup_183 ?_
              exact a_zret (pc := 184) ok dX6_obeysGroup_184 (by first | rfl | exact nb_bz _ | exact @nb_bz _ (Classical.propDecidable _) | decide | exact nb_01 (by assumption)) (done gb rfl (by rw [(z3 (by omega)).1, if_neg (by omega), bz_neg (fun z => bz_0.mp c176 z.2.2)]) (by rw [(z3 (by omega)).2, if_pos (by omega), if_neg (by omega)]))
            · refine a_iconst (pc := 179) ok dX6_obeysGroup_179 ?_
              refine a_goto (pc := 180) (tgt := 184) ok dX6_obeysGroup_180 (by decide) ?_
              exact a_zret (pc := 184) ok dX6_obeysGroup_184 (by first | rfl | exact nb_bz _ | exact @nb_bz _ (Classical.propDecidable _) | decide | exact nb_01 (by assumption)) (done gb rfl (by rw [(z3 (by omega)).1, if_neg (by omega), bz_pos ⟨by omega, by omega, bz_y c176⟩]) (by rw [(z3 (by omega)).2, if_pos (by omega), if_neg (by omega)]))
          · refine a_iconst (pc := 168) ok dX6_obeysGroup_168 ?_
            refine a_goto (pc := 169) (tgt := 173) ok dX6_obeysGroup_169 (by decide) ?_
            refine a_callVi (pc := 173) ok [1, 2, 3, 4] dX6_obeysGroup_173 mv6_139 miX4_tryChangeThreshold (c_tT hS (by unfold rg; omega) (by unfold rg; omega)) ⟨by decide, by decide, rfl, rfl, Nat.zero_le _, Nat.zero_le _⟩ rfl rfl (Nat.le_of_ble_eq_true rfl) rfl (by decide) rfl rfl rfl ?_
            refine a_if_eq (pc := 176) (tgt := 183) ok dX6_obeysGroup_176 (by decide) (by exact bz_rg _) (fun c176 => ?_) (fun c176 => ?_)
            · refine a_iconst (pc := 183) ok dX6_obeysGroup_183 ?_
              exact a_zret (pc := 184) ok dX6_obeysGroup_184 (by first | rfl | exact nb_bz _ | exact @nb_bz _ (Classical.propDecidable _) | decide | exact nb_01 (by assumption)) (done gb rfl (by rw [(z3 (by omega)).1, if_pos (by omega), bz_neg (fun z => bz_0.mp c176 z.2.2)]) (by rw [(z3 (by omega)).2, if_pos (by omega), if_pos (by omega)]))
            · refine a_iconst (pc := 179) ok dX6_obeysGroup_179 ?_
              refine a_goto (pc := 180) (tgt := 184) ok dX6_obeysGroup_180 (by decide) ?_
              exact a_zret (pc := 184) ok dX6_obeysGroup_184 (by first | rfl | exact nb_bz _ | exact @nb_bz _ (Classical.propDecidable _) | decide | exact nb_01 (by assumption)) (done gb rfl (by rw [(z3 (by omega)).1, if_pos (by omega), bz_pos ⟨by omega, by omega, bz_y c176⟩]) (by rw [(z3 (by omega)).2, if_pos (by omega), if_pos (by omega)]))
    · refine a_iload_n (pc := 185) ok dX6_obeysGroup_185 rfl ?_
      refine a_ldcw (pc := 186) (z := 100000) (v := Int32.ofInt 100000) ok dX6_obeysGroup_186 (ug5 28 (by decide +kernel) rfl) (by decide) ?_
      refine a_irem (pc := 189) ok dX6_obeysGroup_189 (by first | omega | (unfold rg; omega) | (simp only [rg] at *; omega) | exact bz_rg _ | grind [rg]) (by first | omega | (unfold rg; omega) | (simp only [rg] at *; omega) | exact bz_rg _ | grind [rg]) ?_
      refine a_if_ne (pc := 190) (tgt := 208) ok dX6_obeysGroup_190 (by decide) (by first | omega | (unfold rg; omega) | (simp only [rg] at *; omega) | exact bz_rg _ | grind [rg]) (fun c190 => ?_) (fun c190 => ?_)
      · refine a_iconst (pc := 208) ok dX6_obeysGroup_208 ?_
        exact a_zret (pc := 209) ok dX6_obeysGroup_209 (by first | rfl | exact nb_bz _ | exact @nb_bz _ (Classical.propDecidable _) | decide | exact nb_01 (by assumption)) (done gb rfl (by rw [(z4 (by omega)).1, bz_neg (fun z => by omega)]) (by rw [(z4 (by omega)).2, if_neg (by omega)]))
      · refine a_aload_n (pc := 193) ok dX6_obeysGroup_193 rfl ?_
        refine a_getf (pc := 194) ok dX6_obeysGroup_194 fl6_59 rfl rfl ?_
        refine a_iload_n (pc := 197) ok dX6_obeysGroup_197 rfl ?_
        refine a_callVi (pc := 198) ok [1, 2, 3, 4] dX6_obeysGroup_198 mv6_143 miX4_trySetLeast (c_tL (by unfold rg; omega)) ⟨by decide, by decide, rfl, rfl, Nat.zero_le _, Nat.zero_le _⟩ rfl rfl (Nat.le_of_ble_eq_true rfl) rfl (by decide) rfl rfl rfl ?_
        refine a_if_eq (pc := 201) (tgt := 208) ok dX6_obeysGroup_201 (by decide) (by exact bz_rg _) (fun c201 => ?_) (fun c201 => ?_)
        · refine a_iconst (pc := 208) ok dX6_obeysGroup_208 ?_
          exact a_zret (pc := 209) ok dX6_obeysGroup_209 (by first | rfl | exact nb_bz _ | exact @nb_bz _ (Classical.propDecidable _) | decide | exact nb_01 (by assumption)) (done gb rfl (by rw [(z4 (by omega)).1, bz_neg (fun z => bz_0.mp c201 z.2)]) (by rw [(z4 (by omega)).2, if_pos (by omega)]))
        · refine a_iconst (pc := 204) ok dX6_obeysGroup_204 ?_
          refine a_goto (pc := 205) (tgt := 209) ok dX6_obeysGroup_205 (by decide) ?_
          exact a_zret (pc := 209) ok dX6_obeysGroup_209 (by first | rfl | exact nb_bz _ | exact @nb_bz _ (Classical.propDecidable _) | decide | exact nb_01 (by assumption)) (done gb rfl (by rw [(z4 (by omega)).1, bz_pos ⟨by omega, bz_y c201⟩]) (by rw [(z4 (by omega)).2, if_pos (by omega)]))
    · refine a_iload_n (pc := 210) ok dX6_obeysGroup_210 rfl ?_
      refine a_ldcw (pc := 211) (z := 10000000) (v := Int32.ofInt 10000000) ok dX6_obeysGroup_211 (ug5 29 (by decide +kernel) rfl) (by decide) ?_
      refine a_irem (pc := 214) ok dX6_obeysGroup_214 (by first | omega | (unfold rg; omega) | (simp only [rg] at *; omega) | exact bz_rg _ | grind [rg]) (by first | omega | (unfold rg; omega) | (simp only [rg] at *; omega) | exact bz_rg _ | grind [rg]) ?_
      refine a_if_ne (pc := 215) (tgt := 236) ok dX6_obeysGroup_215 (by decide) (by first | omega | (unfold rg; omega) | (simp only [rg] at *; omega) | exact bz_rg _ | grind [rg]) (fun c215 => ?_) (fun c215 => ?_)
      · refine a_iconst (pc := 236) ok dX6_obeysGroup_236 ?_
        exact a_zret (pc := 237) ok dX6_obeysGroup_237 (by first | rfl | exact nb_bz _ | exact @nb_bz _ (Classical.propDecidable _) | decide | exact nb_01 (by assumption)) (done gb rfl (by rw [(z5 (by omega)).1, bz_neg (by omega)]) (by rw [(z5 (by omega)).2, if_neg (by omega)]))
      · refine a_aload_n (pc := 218) ok dX6_obeysGroup_218 rfl ?_
        refine a_getf (pc := 219) ok dX6_obeysGroup_219 fl6_59 rfl rfl ?_
        refine a_aload_n (pc := 222) ok dX6_obeysGroup_222 rfl ?_
        refine a_getf (pc := 223) ok dX6_obeysGroup_223 fl6_72 rfl rfl ?_
        refine a_callVi (pc := 226) ok [1, 2, 3, 4, 13] dX6_obeysGroup_226 mv6_149 miX4_blurGreys (c_blurGreys hd hS.2.1) ⟨by decide, by decide, rfl, rfl, Nat.zero_le _, Nat.zero_le _⟩ rfl rfl (Nat.le_of_ble_eq_true rfl) rfl (by decide) rfl rfl rfl ?_
        refine a_if_lt (pc := 229) (tgt := 236) ok dX6_obeysGroup_229 (by decide) (by unfold rg; omega) (fun c229 => ?_) (fun c229 => ?_)
        · omega
        · refine a_iconst (pc := 232) ok dX6_obeysGroup_232 ?_
          refine a_goto (pc := 233) (tgt := 237) ok dX6_obeysGroup_233 (by decide) ?_
          exact a_zret (pc := 237) ok dX6_obeysGroup_237 (by first | rfl | exact nb_bz _ | exact @nb_bz _ (Classical.propDecidable _) | decide | exact nb_01 (by assumption)) (done (sG S2) rfl (by rw [(z5 (by omega)).1, bz_pos (by omega)]) (by rw [(z5 (by omega)).2, if_pos (by omega)]))
    · refine a_iload_n (pc := 238) ok dX6_obeysGroup_238 rfl ?_
      refine a_ldcw (pc := 239) (z := 10000000) (v := Int32.ofInt 10000000) ok dX6_obeysGroup_239 (ug5 29 (by decide +kernel) rfl) (by decide) ?_
      refine a_irem (pc := 242) ok dX6_obeysGroup_242 (by first | omega | (unfold rg; omega) | (simp only [rg] at *; omega) | exact bz_rg _ | grind [rg]) (by first | omega | (unfold rg; omega) | (simp only [rg] at *; omega) | exact bz_rg _ | grind [rg]) ?_
      refine a_if_ne (pc := 243) (tgt := 260) ok dX6_obeysGroup_243 (by decide) (by first | omega | (unfold rg; omega) | (simp only [rg] at *; omega) | exact bz_rg _ | grind [rg]) (fun c243 => ?_) (fun c243 => ?_)
      · refine a_iconst (pc := 260) ok dX6_obeysGroup_260 ?_
        exact a_zret (pc := 261) ok dX6_obeysGroup_261 (by first | rfl | exact nb_bz _ | exact @nb_bz _ (Classical.propDecidable _) | decide | exact nb_01 (by assumption)) (done gb rfl (by rw [(z6 (by omega)).1, bz_neg (by omega)]) (by rw [(z6 (by omega)).2, if_neg (by omega)]))
      · refine a_aload_n (pc := 246) ok dX6_obeysGroup_246 rfl ?_
        refine a_getf (pc := 247) ok dX6_obeysGroup_247 fl6_59 rfl rfl ?_
        refine a_callVi (pc := 250) ok [1, 2, 3, 4] dX6_obeysGroup_250 mv6_153 miX4_invertGreys (c_invertGreys hd) ⟨by decide, by decide, rfl, rfl, Nat.zero_le _, Nat.zero_le _⟩ rfl rfl (Nat.le_of_ble_eq_true rfl) rfl (by decide) rfl rfl rfl ?_
        refine a_if_eq (pc := 253) (tgt := 260) ok dX6_obeysGroup_253 (by decide) (by first | omega | (unfold rg; omega) | (simp only [rg] at *; omega) | exact bz_rg _ | grind [rg]) (fun c253 => ?_) (fun c253 => ?_)
        · omega
        · refine a_iconst (pc := 256) ok dX6_obeysGroup_256 ?_
          refine a_goto (pc := 257) (tgt := 261) ok dX6_obeysGroup_257 (by decide) ?_
          exact a_zret (pc := 261) ok dX6_obeysGroup_261 (by first | rfl | exact nb_bz _ | exact @nb_bz _ (Classical.propDecidable _) | decide | exact nb_01 (by assumption)) (done gb rfl (by rw [(z6 (by omega)).1, bz_pos (by omega)]) (by rw [(z6 (by omega)).2, if_pos (by omega)]))
    · refine a_aload_n (pc := 262) ok dX6_obeysGroup_262 rfl ?_
      refine a_getf (pc := 263) ok dX6_obeysGroup_263 fl6_62 rfl rfl ?_
      refine a_aload_n (pc := 266) ok dX6_obeysGroup_266 rfl ?_
      refine a_getf (pc := 267) ok dX6_obeysGroup_267 fl6_59 rfl rfl ?_
      refine a_aload_n (pc := 270) ok dX6_obeysGroup_270 rfl ?_
      refine a_getf (pc := 271) ok dX6_obeysGroup_271 fl6_59 rfl rfl ?_
      refine a_getf (pc := 274) ok dX6_obeysGroup_274 fl6_165 rfl rfl ?_
      refine a_callV (pc := 277) ok [5, 6, 7, 8, 9, 10, 11, 12, 1, 2, 3, 4] dX6_obeysGroup_277 mv6_175 miX0_survey (c_surv 0 hS hr) ⟨by decide, by decide, rfl, rfl, Nat.zero_le _, Nat.zero_le _⟩ rfl rfl (Nat.le_of_ble_eq_true rfl) rfl (by decide) rfl rfl (fun v M' h => by obtain ⟨_, _, _, _, _, _, _, _, _, h, _⟩ := h; rw [h]; rfl) ?_
      rintro _ M' ⟨rfl, ct', B', F', Z', Br', Q', Fo', No', rfl, hI⟩
      have hct := mS_IS hI
      subst hct
      refine AW.cast (st2 := []) (M2 := (clT kn nk S2 (sC S2) (sR S2) (sC S2 * sR S2) (mS S2) (B') (F') (Z') (Br') (Q') (Fo') (No') gb)) ?_ rfl rfl rfl
      refine a_aload_n (pc := 280) ok dX6_obeysGroup_280 rfl ?_
      refine a_iload_n (pc := 281) ok dX6_obeysGroup_281 rfl ?_
      refine x_callV (pc := 282) ok [0, 1, 2, 3, 4, 5, 6, 7, 8, 9, 10, 11, 12, 13, 14, 15, 16, 17, 18, 19, 20, 21, 22, 23, 24] 14 dX6_obeysGroup_282 mv6_383 miX6_holdsGroup (c_holdsGroup hS hI hg ha hk (by omega)) ⟨by decide, by decide, rfl, rfl, Nat.zero_le _, Nat.zero_le _⟩ rfl rfl (Nat.le_of_ble_eq_true rfl) rfl rfl (by decide) rfl rfl (fun v M' h => RT_len h.2) ?_
      rintro _ M' ⟨rfl, hM⟩
      refine AW.cast (st2 := [iv (cmZ S2 k a)]) (M2 := M') ?_ rfl rfl (by obtain ⟨c1, r1, m1, ct1, B1, F1, Z1, Br1, Q1, Fo1, No1, gb, rfl, -⟩ := hM; rfl)
      exact a_zret (pc := 285) ok dX6_obeysGroup_285 (by first | rfl | exact nb_bz _ | exact @nb_bz _ (Classical.propDecidable _) | decide | exact nb_01 (by assumption)) (⟨rfl, by rw [z7 (by omega)]; exact hM⟩)
    · refine a_aload_n (pc := 262) ok dX6_obeysGroup_262 rfl ?_
      refine a_getf (pc := 263) ok dX6_obeysGroup_263 fl6_62 rfl rfl ?_
      refine a_aload_n (pc := 266) ok dX6_obeysGroup_266 rfl ?_
      refine a_getf (pc := 267) ok dX6_obeysGroup_267 fl6_59 rfl rfl ?_
      refine a_aload_n (pc := 270) ok dX6_obeysGroup_270 rfl ?_
      refine a_getf (pc := 271) ok dX6_obeysGroup_271 fl6_59 rfl rfl ?_
      refine a_getf (pc := 274) ok dX6_obeysGroup_274 fl6_165 rfl rfl ?_
      refine a_callV (pc := 277) ok [5, 6, 7, 8, 9, 10, 11, 12, 1, 2, 3, 4] dX6_obeysGroup_277 mv6_175 miX0_survey (c_surv 0 hS hr) ⟨by decide, by decide, rfl, rfl, Nat.zero_le _, Nat.zero_le _⟩ rfl rfl (Nat.le_of_ble_eq_true rfl) rfl (by decide) rfl rfl (fun v M' h => by obtain ⟨_, _, _, _, _, _, _, _, _, h, _⟩ := h; rw [h]; rfl) ?_
      rintro _ M' ⟨rfl, ct', B', F', Z', Br', Q', Fo', No', rfl, hI⟩
      have hct := mS_IS hI
      subst hct
      refine AW.cast (st2 := []) (M2 := (clT kn nk S2 (sC S2) (sR S2) (sC S2 * sR S2) (mS S2) (B') (F') (Z') (Br') (Q') (Fo') (No') gb)) ?_ rfl rfl rfl
      refine a_aload_n (pc := 280) ok dX6_obeysGroup_280 rfl ?_
      refine a_iload_n (pc := 281) ok dX6_obeysGroup_281 rfl ?_
      refine x_callV (pc := 282) ok [0, 1, 2, 3, 4, 5, 6, 7, 8, 9, 10, 11, 12, 13, 14, 15, 16, 17, 18, 19, 20, 21, 22, 23, 24] 14 dX6_obeysGroup_282 mv6_383 miX6_holdsGroup (c_holdsGroup hS hI hg ha hk (by omega)) ⟨by decide, by decide, rfl, rfl, Nat.zero_le _, Nat.zero_le _⟩ rfl rfl (Nat.le_of_ble_eq_true rfl) rfl rfl (by decide) rfl rfl (fun v M' h => RT_len h.2) ?_
      rintro _ M' ⟨rfl, hM⟩
      refine AW.cast (st2 := [iv (cmZ S2 k a)]) (M2 := M') ?_ rfl rfl (by obtain ⟨c1, r1, m1, ct1, B1, F1, Z1, Br1, Q1, Fo1, No1, gb, rfl, -⟩ := hM; rfl)
      exact a_zret (pc := 285) ok dX6_obeysGroup_285 (by first | rfl | exact nb_bz _ | exact @nb_bz _ (Classical.propDecidable _) | decide | exact nb_01 (by assumption)) (⟨rfl, by rw [z7 (by omega)]; exact hM⟩)
    · refine a_aload_n (pc := 262) ok dX6_obeysGroup_262 rfl ?_
      refine a_getf (pc := 263) ok dX6_obeysGroup_263 fl6_62 rfl rfl ?_
      refine a_aload_n (pc := 266) ok dX6_obeysGroup_266 rfl ?_
      refine a_getf (pc := 267) ok dX6_obeysGroup_267 fl6_59 rfl rfl ?_
      refine a_aload_n (pc := 270) ok dX6_obeysGroup_270 rfl ?_
      refine a_getf (pc := 271) ok dX6_obeysGroup_271 fl6_59 rfl rfl ?_
      refine a_getf (pc := 274) ok dX6_obeysGroup_274 fl6_165 rfl rfl ?_
      refine a_callV (pc := 277) ok [5, 6, 7, 8, 9, 10, 11, 12, 1, 2, 3, 4] dX6_obeysGroup_277 mv6_175 miX0_survey (c_surv 0 hS hr) ⟨by decide, by decide, rfl, rfl, Nat.zero_le _, Nat.zero_le _⟩ rfl rfl (Nat.le_of_ble_eq_true rfl) rfl (by decide) rfl rfl (fun v M' h => by obtain ⟨_, _, _, _, _, _, _, _, _, h, _⟩ := h; rw [h]; rfl) ?_
      rintro _ M' ⟨rfl, ct', B', F', Z', Br', Q', Fo', No', rfl, hI⟩
      have hct := mS_IS hI
      subst hct
      refine AW.cast (st2 := []) (M2 := (clT kn nk S2 (sC S2) (sR S2) (sC S2 * sR S2) (mS S2) (B') (F') (Z') (Br') (Q') (Fo') (No') gb)) ?_ rfl rfl rfl
      refine a_aload_n (pc := 280) ok dX6_obeysGroup_280 rfl ?_
      refine a_iload_n (pc := 281) ok dX6_obeysGroup_281 rfl ?_
      refine x_callV (pc := 282) ok [0, 1, 2, 3, 4, 5, 6, 7, 8, 9, 10, 11, 12, 13, 14, 15, 16, 17, 18, 19, 20, 21, 22, 23, 24] 14 dX6_obeysGroup_282 mv6_383 miX6_holdsGroup (c_holdsGroup hS hI hg ha hk (by omega)) ⟨by decide, by decide, rfl, rfl, Nat.zero_le _, Nat.zero_le _⟩ rfl rfl (Nat.le_of_ble_eq_true rfl) rfl rfl (by decide) rfl rfl (fun v M' h => RT_len h.2) ?_
      rintro _ M' ⟨rfl, hM⟩
      refine AW.cast (st2 := [iv (cmZ S2 k a)]) (M2 := M') ?_ rfl rfl (by obtain ⟨c1, r1, m1, ct1, B1, F1, Z1, Br1, Q1, Fo1, No1, gb, rfl, -⟩ := hM; rfl)
      exact a_zret (pc := 285) ok dX6_obeysGroup_285 (by first | rfl | exact nb_bz _ | exact @nb_bz _ (Classical.propDecidable _) | decide | exact nb_01 (by assumption)) (⟨rfl, by rw [z7 (by omega)]; exact hM⟩)
  · refine a_iconst (pc := 286) ok dX6_obeysGroup_286 ?_
    exact a_zret (pc := 287) ok dX6_obeysGroup_287 (by first | rfl | exact nb_bz _ | exact @nb_bz _ (Classical.propDecidable _) | decide | exact nb_01 (by assumption)) (done gb rfl (by rw [(z0 (by omega)).1]) (z0 (by omega)).2)
theorem dX6_takeTurn_0 : decode cX6_takeTurn 0 = .ok (.iload_n 1, 1) := by decide +kernel
theorem dX6_takeTurn_1 : decode cX6_takeTurn 1 = .ok (.bipush 8, 2) := by decide +kernel
theorem dX6_takeTurn_3 : decode cX6_takeTurn 3 = .ok (.idiv, 1) := by decide +kernel
theorem dX6_takeTurn_4 : decode cX6_takeTurn 4 = .ok (.istore_n 2, 1) := by decide +kernel
theorem dX6_takeTurn_5 : decode cX6_takeTurn 5 = .ok (.iload_n 2, 1) := by decide +kernel
theorem dX6_takeTurn_6 : decode cX6_takeTurn 6 = .ok (.bipush 12, 2) := by decide +kernel
theorem dX6_takeTurn_8 : decode cX6_takeTurn 8 = .ok (.irem, 1) := by decide +kernel
theorem dX6_takeTurn_9 : decode cX6_takeTurn 9 = .ok (.istore_n 3, 1) := by decide +kernel
theorem dX6_takeTurn_10 : decode cX6_takeTurn 10 = .ok (.iload_n 2, 1) := by decide +kernel
theorem dX6_takeTurn_11 : decode cX6_takeTurn 11 = .ok (.bipush 12, 2) := by decide +kernel
theorem dX6_takeTurn_13 : decode cX6_takeTurn 13 = .ok (.idiv, 1) := by decide +kernel
theorem dX6_takeTurn_14 : decode cX6_takeTurn 14 = .ok (.bipush 12, 2) := by decide +kernel
theorem dX6_takeTurn_16 : decode cX6_takeTurn 16 = .ok (.irem, 1) := by decide +kernel
theorem dX6_takeTurn_17 : decode cX6_takeTurn 17 = .ok (.istore 4, 2) := by decide +kernel
theorem dX6_takeTurn_19 : decode cX6_takeTurn 19 = .ok (.iload_n 1, 1) := by decide +kernel
theorem dX6_takeTurn_20 : decode cX6_takeTurn 20 = .ok (.bipush 8, 2) := by decide +kernel
theorem dX6_takeTurn_22 : decode cX6_takeTurn 22 = .ok (.irem, 1) := by decide +kernel
theorem dX6_takeTurn_23 : decode cX6_takeTurn 23 = .ok (.tableswitch 175 3 7 #[33, 74, 106, 143, 158], 33) := by decide +kernel
theorem dX6_takeTurn_56 : decode cX6_takeTurn 56 = .ok (.aload_n 0, 1) := by decide +kernel
theorem dX6_takeTurn_57 : decode cX6_takeTurn 57 = .ok (.getfield 59, 3) := by decide +kernel
theorem dX6_takeTurn_60 : decode cX6_takeTurn 60 = .ok (.iload_n 3, 1) := by decide +kernel
theorem dX6_takeTurn_61 : decode cX6_takeTurn 61 = .ok (.iload_n 3, 1) := by decide +kernel
theorem dX6_takeTurn_62 : decode cX6_takeTurn 62 = .ok (.iload_n 2, 1) := by decide +kernel
theorem dX6_takeTurn_63 : decode cX6_takeTurn 63 = .ok (.sipush 144, 3) := by decide +kernel
theorem dX6_takeTurn_66 : decode cX6_takeTurn 66 = .ok (.idiv, 1) := by decide +kernel
theorem dX6_takeTurn_67 : decode cX6_takeTurn 67 = .ok (.iconst 4, 1) := by decide +kernel
theorem dX6_takeTurn_68 : decode cX6_takeTurn 68 = .ok (.irem, 1) := by decide +kernel
theorem dX6_takeTurn_69 : decode cX6_takeTurn 69 = .ok (.iadd, 1) := by decide +kernel
theorem dX6_takeTurn_70 : decode cX6_takeTurn 70 = .ok (.iload 4, 2) := by decide +kernel
theorem dX6_takeTurn_72 : decode cX6_takeTurn 72 = .ok (.iload 4, 2) := by decide +kernel
theorem dX6_takeTurn_74 : decode cX6_takeTurn 74 = .ok (.iload_n 2, 1) := by decide +kernel
theorem dX6_takeTurn_75 : decode cX6_takeTurn 75 = .ok (.sipush 576, 3) := by decide +kernel
theorem dX6_takeTurn_78 : decode cX6_takeTurn 78 = .ok (.idiv, 1) := by decide +kernel
theorem dX6_takeTurn_79 : decode cX6_takeTurn 79 = .ok (.iconst 4, 1) := by decide +kernel
theorem dX6_takeTurn_80 : decode cX6_takeTurn 80 = .ok (.irem, 1) := by decide +kernel
theorem dX6_takeTurn_81 : decode cX6_takeTurn 81 = .ok (.iadd, 1) := by decide +kernel
theorem dX6_takeTurn_82 : decode cX6_takeTurn 82 = .ok (.iload_n 2, 1) := by decide +kernel
theorem dX6_takeTurn_83 : decode cX6_takeTurn 83 = .ok (.sipush 2304, 3) := by decide +kernel
theorem dX6_takeTurn_86 : decode cX6_takeTurn 86 = .ok (.idiv, 1) := by decide +kernel
theorem dX6_takeTurn_87 : decode cX6_takeTurn 87 = .ok (.bipush 100, 2) := by decide +kernel
theorem dX6_takeTurn_89 : decode cX6_takeTurn 89 = .ok (.irem, 1) := by decide +kernel
theorem dX6_takeTurn_90 : decode cX6_takeTurn 90 = .ok (.invokevirtual 135, 3) := by decide +kernel
theorem dX6_takeTurn_93 : decode cX6_takeTurn 93 = .ok (.pop, 1) := by decide +kernel
theorem dX6_takeTurn_94 : decode cX6_takeTurn 94 = .ok (.goto 123, 3) := by decide +kernel
theorem dX6_takeTurn_97 : decode cX6_takeTurn 97 = .ok (.aload_n 0, 1) := by decide +kernel
theorem dX6_takeTurn_98 : decode cX6_takeTurn 98 = .ok (.getfield 59, 3) := by decide +kernel
theorem dX6_takeTurn_101 : decode cX6_takeTurn 101 = .ok (.iconst 1, 1) := by decide +kernel
theorem dX6_takeTurn_102 : decode cX6_takeTurn 102 = .ok (.iload_n 2, 1) := by decide +kernel
theorem dX6_takeTurn_103 : decode cX6_takeTurn 103 = .ok (.bipush 99, 2) := by decide +kernel
theorem dX6_takeTurn_105 : decode cX6_takeTurn 105 = .ok (.irem, 1) := by decide +kernel
theorem dX6_takeTurn_106 : decode cX6_takeTurn 106 = .ok (.iadd, 1) := by decide +kernel
theorem dX6_takeTurn_107 : decode cX6_takeTurn 107 = .ok (.iload_n 2, 1) := by decide +kernel
theorem dX6_takeTurn_108 : decode cX6_takeTurn 108 = .ok (.sipush 128, 3) := by decide +kernel
theorem dX6_takeTurn_111 : decode cX6_takeTurn 111 = .ok (.idiv, 1) := by decide +kernel
theorem dX6_takeTurn_112 : decode cX6_takeTurn 112 = .ok (.iconst 2, 1) := by decide +kernel
theorem dX6_takeTurn_113 : decode cX6_takeTurn 113 = .ok (.irem, 1) := by decide +kernel
theorem dX6_takeTurn_114 : decode cX6_takeTurn 114 = .ok (.ifCond .ne 7, 3) := by decide +kernel
theorem dX6_takeTurn_117 : decode cX6_takeTurn 117 = .ok (.iconst 1, 1) := by decide +kernel
theorem dX6_takeTurn_118 : decode cX6_takeTurn 118 = .ok (.goto 4, 3) := by decide +kernel
theorem dX6_takeTurn_121 : decode cX6_takeTurn 121 = .ok (.iconst 0, 1) := by decide +kernel
theorem dX6_takeTurn_122 : decode cX6_takeTurn 122 = .ok (.invokevirtual 139, 3) := by decide +kernel
theorem dX6_takeTurn_125 : decode cX6_takeTurn 125 = .ok (.pop, 1) := by decide +kernel
theorem dX6_takeTurn_126 : decode cX6_takeTurn 126 = .ok (.goto 91, 3) := by decide +kernel
theorem dX6_takeTurn_129 : decode cX6_takeTurn 129 = .ok (.iload_n 2, 1) := by decide +kernel
theorem dX6_takeTurn_130 : decode cX6_takeTurn 130 = .ok (.bipush 32, 2) := by decide +kernel
theorem dX6_takeTurn_132 : decode cX6_takeTurn 132 = .ok (.idiv, 1) := by decide +kernel
theorem dX6_takeTurn_133 : decode cX6_takeTurn 133 = .ok (.iconst 3, 1) := by decide +kernel
theorem dX6_takeTurn_134 : decode cX6_takeTurn 134 = .ok (.irem, 1) := by decide +kernel
theorem dX6_takeTurn_135 : decode cX6_takeTurn 135 = .ok (.ifCond .ne 20, 3) := by decide +kernel
theorem dX6_takeTurn_138 : decode cX6_takeTurn 138 = .ok (.aload_n 0, 1) := by decide +kernel
theorem dX6_takeTurn_139 : decode cX6_takeTurn 139 = .ok (.getfield 59, 3) := by decide +kernel
theorem dX6_takeTurn_142 : decode cX6_takeTurn 142 = .ok (.iconst 1, 1) := by decide +kernel
theorem dX6_takeTurn_143 : decode cX6_takeTurn 143 = .ok (.iload_n 2, 1) := by decide +kernel
theorem dX6_takeTurn_144 : decode cX6_takeTurn 144 = .ok (.bipush 30, 2) := by decide +kernel
theorem dX6_takeTurn_146 : decode cX6_takeTurn 146 = .ok (.irem, 1) := by decide +kernel
theorem dX6_takeTurn_147 : decode cX6_takeTurn 147 = .ok (.iadd, 1) := by decide +kernel
theorem dX6_takeTurn_148 : decode cX6_takeTurn 148 = .ok (.invokevirtual 143, 3) := by decide +kernel
theorem dX6_takeTurn_151 : decode cX6_takeTurn 151 = .ok (.pop, 1) := by decide +kernel
theorem dX6_takeTurn_152 : decode cX6_takeTurn 152 = .ok (.goto 65, 3) := by decide +kernel
theorem dX6_takeTurn_155 : decode cX6_takeTurn 155 = .ok (.aload_n 0, 1) := by decide +kernel
theorem dX6_takeTurn_156 : decode cX6_takeTurn 156 = .ok (.getfield 59, 3) := by decide +kernel
theorem dX6_takeTurn_159 : decode cX6_takeTurn 159 = .ok (.invokevirtual 153, 3) := by decide +kernel
theorem dX6_takeTurn_162 : decode cX6_takeTurn 162 = .ok (.pop, 1) := by decide +kernel
theorem dX6_takeTurn_163 : decode cX6_takeTurn 163 = .ok (.goto 54, 3) := by decide +kernel
theorem dX6_takeTurn_166 : decode cX6_takeTurn 166 = .ok (.aload_n 0, 1) := by decide +kernel
theorem dX6_takeTurn_167 : decode cX6_takeTurn 167 = .ok (.getfield 59, 3) := by decide +kernel
theorem dX6_takeTurn_170 : decode cX6_takeTurn 170 = .ok (.aload_n 0, 1) := by decide +kernel
theorem dX6_takeTurn_171 : decode cX6_takeTurn 171 = .ok (.getfield 72, 3) := by decide +kernel
theorem dX6_takeTurn_174 : decode cX6_takeTurn 174 = .ok (.invokevirtual 149, 3) := by decide +kernel
theorem dX6_takeTurn_177 : decode cX6_takeTurn 177 = .ok (.pop, 1) := by decide +kernel
theorem dX6_takeTurn_178 : decode cX6_takeTurn 178 = .ok (.goto 39, 3) := by decide +kernel
theorem dX6_takeTurn_181 : decode cX6_takeTurn 181 = .ok (.aload_n 0, 1) := by decide +kernel
theorem dX6_takeTurn_182 : decode cX6_takeTurn 182 = .ok (.getfield 59, 3) := by decide +kernel
theorem dX6_takeTurn_185 : decode cX6_takeTurn 185 = .ok (.iconst 1, 1) := by decide +kernel
theorem dX6_takeTurn_186 : decode cX6_takeTurn 186 = .ok (.iload_n 2, 1) := by decide +kernel
theorem dX6_takeTurn_187 : decode cX6_takeTurn 187 = .ok (.bipush 49, 2) := by decide +kernel
theorem dX6_takeTurn_189 : decode cX6_takeTurn 189 = .ok (.irem, 1) := by decide +kernel
theorem dX6_takeTurn_190 : decode cX6_takeTurn 190 = .ok (.iadd, 1) := by decide +kernel
theorem dX6_takeTurn_191 : decode cX6_takeTurn 191 = .ok (.invokevirtual 146, 3) := by decide +kernel
theorem dX6_takeTurn_194 : decode cX6_takeTurn 194 = .ok (.pop, 1) := by decide +kernel
theorem dX6_takeTurn_195 : decode cX6_takeTurn 195 = .ok (.goto 22, 3) := by decide +kernel
theorem dX6_takeTurn_198 : decode cX6_takeTurn 198 = .ok (.aload_n 0, 1) := by decide +kernel
theorem dX6_takeTurn_199 : decode cX6_takeTurn 199 = .ok (.getfield 59, 3) := by decide +kernel
theorem dX6_takeTurn_202 : decode cX6_takeTurn 202 = .ok (.iload_n 3, 1) := by decide +kernel
theorem dX6_takeTurn_203 : decode cX6_takeTurn 203 = .ok (.iload 4, 2) := by decide +kernel
theorem dX6_takeTurn_205 : decode cX6_takeTurn 205 = .ok (.iload_n 2, 1) := by decide +kernel
theorem dX6_takeTurn_206 : decode cX6_takeTurn 206 = .ok (.sipush 144, 3) := by decide +kernel
theorem dX6_takeTurn_209 : decode cX6_takeTurn 209 = .ok (.idiv, 1) := by decide +kernel
theorem dX6_takeTurn_210 : decode cX6_takeTurn 210 = .ok (.bipush 100, 2) := by decide +kernel
theorem dX6_takeTurn_212 : decode cX6_takeTurn 212 = .ok (.irem, 1) := by decide +kernel
theorem dX6_takeTurn_213 : decode cX6_takeTurn 213 = .ok (.invokevirtual 131, 3) := by decide +kernel
theorem dX6_takeTurn_216 : decode cX6_takeTurn 216 = .ok (.pop, 1) := by decide +kernel
theorem dX6_takeTurn_217 : decode cX6_takeTurn 217 = .ok (.return_, 1) := by decide +kernel
set_option maxRecDepth 100000 in
theorem c_takeTurn {n : Int} (hS : SV S2) (hn : 0 ≤ n ∧ n < 2147483648) : Ct l yX6_takeTurn cX6_takeTurn 5 none rmX6_takeTurn [.ref 0, iv n] (clT kn nk S2 c1 r1 m1 ct1 B1 F1 Z1 Br1 Q1 Fo1 No1 gb)
    (fun z M => z = none ∧ ∃ gb' : Int → Int, M = (clT kn nk (tnF S2 n) c1 r1 m1 ct1 B1 F1 Z1 Br1 Q1 Fo1 No1 (gb'))) := by
  refine Ct.of miX6_takeTurn (Nat.le_of_ble_eq_true rfl) ?_
  intro X hXl hN ok
  refine AW.cast (L2 := [some (.ref 0), some (iv n), none, none, none]) ?_ rfl rfl rfl
  have hd := hS.1
  have hq : 0 ≤ n / 8 ∧ n / 8 < 268435456 := by omega
  refine a_iload_n (pc := 0) ok dX6_takeTurn_0 rfl ?_
  refine a_bipush (pc := 1) ok dX6_takeTurn_1 (by decide) ?_
  refine a_idiv (pc := 3) ok dX6_takeTurn_3 (by first | omega | (unfold rg; omega) | (simp only [rg] at *; omega) | exact bz_rg _ | grind [rg]) (by first | omega | (unfold rg; omega) | (simp only [rg] at *; omega) | exact bz_rg _ | grind [rg]) ?_
  refine a_istore_n (pc := 4) ok dX6_takeTurn_4 rfl (by rw [hN]; decide) ?_
  refine a_iload_n (pc := 5) ok dX6_takeTurn_5 rfl ?_
  refine a_bipush (pc := 6) ok dX6_takeTurn_6 (by decide) ?_
  refine a_irem (pc := 8) ok dX6_takeTurn_8 (by first | omega | (unfold rg; omega) | (simp only [rg] at *; omega) | exact bz_rg _ | grind [rg]) (by first | omega | (unfold rg; omega) | (simp only [rg] at *; omega) | exact bz_rg _ | grind [rg]) ?_
  refine a_istore_n (pc := 9) ok dX6_takeTurn_9 rfl (by rw [hN]; decide) ?_
  refine a_iload_n (pc := 10) ok dX6_takeTurn_10 rfl ?_
  refine a_bipush (pc := 11) ok dX6_takeTurn_11 (by decide) ?_
  refine a_idiv (pc := 13) ok dX6_takeTurn_13 (by first | omega | (unfold rg; omega) | (simp only [rg] at *; omega) | exact bz_rg _ | grind [rg]) (by first | omega | (unfold rg; omega) | (simp only [rg] at *; omega) | exact bz_rg _ | grind [rg]) ?_
  refine a_bipush (pc := 14) ok dX6_takeTurn_14 (by decide) ?_
  refine a_irem (pc := 16) ok dX6_takeTurn_16 (by first | omega | (unfold rg; omega) | (simp only [rg] at *; omega) | exact bz_rg _ | grind [rg]) (by first | omega | (unfold rg; omega) | (simp only [rg] at *; omega) | exact bz_rg _ | grind [rg]) ?_
  refine a_istore (pc := 17) ok dX6_takeTurn_17 rfl (by rw [hN]; decide) ?_
  refine a_iload_n (pc := 19) ok dX6_takeTurn_19 rfl ?_
  refine a_bipush (pc := 20) ok dX6_takeTurn_20 (by decide) ?_
  refine a_irem (pc := 22) ok dX6_takeTurn_22 (by first | omega | (unfold rg; omega) | (simp only [rg] at *; omega) | exact bz_rg _ | grind [rg]) (by first | omega | (unfold rg; omega) | (simp only [rg] at *; omega) | exact bz_rg _ | grind [rg]) ?_
  refine a_tab (pc := 23) (dt := 198) ok [56, 97, 129, 166, 181] dX6_takeTurn_23 (by decide) (by decide) (by decide) (by first | omega | (unfold rg; omega) | (simp only [rg] at *; omega) | exact bz_rg _ | grind [rg]) (fun j23 hj23 c23 => ?_) (fun c23 => ?_)
  · rcases (show j23 = 0 ∨ j23 = 1 ∨ j23 = 2 ∨ j23 = 3 ∨ j23 = 4 by simp only [List.length_cons, List.length_nil] at hj23; omega) with rfl | rfl | rfl | rfl | rfl
    · refine a_aload_n (pc := 56) ok dX6_takeTurn_56 rfl ?_
      refine a_getf (pc := 57) ok dX6_takeTurn_57 fl6_59 rfl rfl ?_
      refine a_iload_n (pc := 60) ok dX6_takeTurn_60 rfl ?_
      refine a_iload_n (pc := 61) ok dX6_takeTurn_61 rfl ?_
      refine a_iload_n (pc := 62) ok dX6_takeTurn_62 rfl ?_
      refine a_sipush (pc := 63) ok dX6_takeTurn_63 (by decide) ?_
      refine a_idiv (pc := 66) ok dX6_takeTurn_66 (by first | omega | (unfold rg; omega) | (simp only [rg] at *; omega) | exact bz_rg _ | grind [rg]) (by first | omega | (unfold rg; omega) | (simp only [rg] at *; omega) | exact bz_rg _ | grind [rg]) ?_
      refine a_iconst (pc := 67) ok dX6_takeTurn_67 ?_
      refine a_irem (pc := 68) ok dX6_takeTurn_68 (by first | omega | (unfold rg; omega) | (simp only [rg] at *; omega) | exact bz_rg _ | grind [rg]) (by first | omega | (unfold rg; omega) | (simp only [rg] at *; omega) | exact bz_rg _ | grind [rg]) ?_
      refine a_iadd (pc := 69) ok dX6_takeTurn_69 ?_
      refine a_iload (pc := 70) ok dX6_takeTurn_70 rfl ?_
      refine a_iload (pc := 72) ok dX6_takeTurn_72 rfl ?_
      refine a_iload_n (pc := 74) ok dX6_takeTurn_74 rfl ?_
      refine a_sipush (pc := 75) ok dX6_takeTurn_75 (by decide) ?_
      refine a_idiv (pc := 78) ok dX6_takeTurn_78 (by first | omega | (unfold rg; omega) | (simp only [rg] at *; omega) | exact bz_rg _ | grind [rg]) (by first | omega | (unfold rg; omega) | (simp only [rg] at *; omega) | exact bz_rg _ | grind [rg]) ?_
      refine a_iconst (pc := 79) ok dX6_takeTurn_79 ?_
      refine a_irem (pc := 80) ok dX6_takeTurn_80 (by first | omega | (unfold rg; omega) | (simp only [rg] at *; omega) | exact bz_rg _ | grind [rg]) (by first | omega | (unfold rg; omega) | (simp only [rg] at *; omega) | exact bz_rg _ | grind [rg]) ?_
      refine a_iadd (pc := 81) ok dX6_takeTurn_81 ?_
      refine a_iload_n (pc := 82) ok dX6_takeTurn_82 rfl ?_
      refine a_sipush (pc := 83) ok dX6_takeTurn_83 (by decide) ?_
      refine a_idiv (pc := 86) ok dX6_takeTurn_86 (by first | omega | (unfold rg; omega) | (simp only [rg] at *; omega) | exact bz_rg _ | grind [rg]) (by first | omega | (unfold rg; omega) | (simp only [rg] at *; omega) | exact bz_rg _ | grind [rg]) ?_
      refine a_bipush (pc := 87) ok dX6_takeTurn_87 (by decide) ?_
      refine a_irem (pc := 89) ok dX6_takeTurn_89 (by first | omega | (unfold rg; omega) | (simp only [rg] at *; omega) | exact bz_rg _ | grind [rg]) (by first | omega | (unfold rg; omega) | (simp only [rg] at *; omega) | exact bz_rg _ | grind [rg]) ?_
      refine a_callVi (pc := 90) ok [1, 2, 3, 4] dX6_takeTurn_90 mv6_135 miX4_tryFillBox (c_tB hS (by unfold rg; omega) (by unfold rg; omega) (by unfold rg; omega) (by unfold rg; omega) (by unfold rg; omega)) ⟨by decide, by decide, rfl, rfl, Nat.zero_le _, Nat.zero_le _⟩ rfl rfl (Nat.le_of_ble_eq_true rfl) rfl (by decide) rfl rfl rfl ?_
      refine a_pop (pc := 93) ok dX6_takeTurn_93 rfl ?_
      refine a_goto (pc := 94) (tgt := 217) ok dX6_takeTurn_94 (by decide) ?_
      exact a_vret (pc := 217) ok dX6_takeTurn_217 (⟨rfl, gb, by rw [tn_3 (S := S2) (n := n) (by omega)]; rfl⟩)
    · refine a_aload_n (pc := 97) ok dX6_takeTurn_97 rfl ?_
      refine a_getf (pc := 98) ok dX6_takeTurn_98 fl6_59 rfl rfl ?_
      refine a_iconst (pc := 101) ok dX6_takeTurn_101 ?_
      refine a_iload_n (pc := 102) ok dX6_takeTurn_102 rfl ?_
      refine a_bipush (pc := 103) ok dX6_takeTurn_103 (by decide) ?_
      refine a_irem (pc := 105) ok dX6_takeTurn_105 (by first | omega | (unfold rg; omega) | (simp only [rg] at *; omega) | exact bz_rg _ | grind [rg]) (by first | omega | (unfold rg; omega) | (simp only [rg] at *; omega) | exact bz_rg _ | grind [rg]) ?_
      refine a_iadd (pc := 106) ok dX6_takeTurn_106 ?_
      refine a_iload_n (pc := 107) ok dX6_takeTurn_107 rfl ?_
      refine a_sipush (pc := 108) ok dX6_takeTurn_108 (by decide) ?_
      refine a_idiv (pc := 111) ok dX6_takeTurn_111 (by first | omega | (unfold rg; omega) | (simp only [rg] at *; omega) | exact bz_rg _ | grind [rg]) (by first | omega | (unfold rg; omega) | (simp only [rg] at *; omega) | exact bz_rg _ | grind [rg]) ?_
      refine a_iconst (pc := 112) ok dX6_takeTurn_112 ?_
      refine a_irem (pc := 113) ok dX6_takeTurn_113 (by first | omega | (unfold rg; omega) | (simp only [rg] at *; omega) | exact bz_rg _ | grind [rg]) (by first | omega | (unfold rg; omega) | (simp only [rg] at *; omega) | exact bz_rg _ | grind [rg]) ?_
      refine a_if_ne (pc := 114) (tgt := 121) ok dX6_takeTurn_114 (by decide) (by first | omega | (unfold rg; omega) | (simp only [rg] at *; omega) | exact bz_rg _ | grind [rg]) (fun c114 => ?_) (fun c114 => ?_)
      · refine a_iconst (pc := 121) ok dX6_takeTurn_121 ?_
        refine a_callVi (pc := 122) ok [1, 2, 3, 4] dX6_takeTurn_122 mv6_139 miX4_tryChangeThreshold (c_tT hS (by unfold rg; omega) (by unfold rg; omega)) ⟨by decide, by decide, rfl, rfl, Nat.zero_le _, Nat.zero_le _⟩ rfl rfl (Nat.le_of_ble_eq_true rfl) rfl (by decide) rfl rfl rfl ?_
        refine a_pop (pc := 125) ok dX6_takeTurn_125 rfl ?_
        refine a_goto (pc := 126) (tgt := 217) ok dX6_takeTurn_126 (by decide) ?_
        exact a_vret (pc := 217) ok dX6_takeTurn_217 (⟨rfl, gb, by rw [tn_4 (S := S2) (n := n) (by omega), if_neg (by omega)]; rfl⟩)
      · refine a_iconst (pc := 117) ok dX6_takeTurn_117 ?_
        refine a_goto (pc := 118) (tgt := 122) ok dX6_takeTurn_118 (by decide) ?_
        refine a_callVi (pc := 122) ok [1, 2, 3, 4] dX6_takeTurn_122 mv6_139 miX4_tryChangeThreshold (c_tT hS (by unfold rg; omega) (by unfold rg; omega)) ⟨by decide, by decide, rfl, rfl, Nat.zero_le _, Nat.zero_le _⟩ rfl rfl (Nat.le_of_ble_eq_true rfl) rfl (by decide) rfl rfl rfl ?_
        refine a_pop (pc := 125) ok dX6_takeTurn_125 rfl ?_
        refine a_goto (pc := 126) (tgt := 217) ok dX6_takeTurn_126 (by decide) ?_
        exact a_vret (pc := 217) ok dX6_takeTurn_217 (⟨rfl, gb, by rw [tn_4 (S := S2) (n := n) (by omega), if_pos (by omega)]; rfl⟩)
    · refine a_iload_n (pc := 129) ok dX6_takeTurn_129 rfl ?_
      refine a_bipush (pc := 130) ok dX6_takeTurn_130 (by decide) ?_
      refine a_idiv (pc := 132) ok dX6_takeTurn_132 (by first | omega | (unfold rg; omega) | (simp only [rg] at *; omega) | exact bz_rg _ | grind [rg]) (by first | omega | (unfold rg; omega) | (simp only [rg] at *; omega) | exact bz_rg _ | grind [rg]) ?_
      refine a_iconst (pc := 133) ok dX6_takeTurn_133 ?_
      refine a_irem (pc := 134) ok dX6_takeTurn_134 (by first | omega | (unfold rg; omega) | (simp only [rg] at *; omega) | exact bz_rg _ | grind [rg]) (by first | omega | (unfold rg; omega) | (simp only [rg] at *; omega) | exact bz_rg _ | grind [rg]) ?_
      refine a_if_ne (pc := 135) (tgt := 155) ok dX6_takeTurn_135 (by decide) (by first | omega | (unfold rg; omega) | (simp only [rg] at *; omega) | exact bz_rg _ | grind [rg]) (fun c135 => ?_) (fun c135 => ?_)
      · refine a_aload_n (pc := 155) ok dX6_takeTurn_155 rfl ?_
        refine a_getf (pc := 156) ok dX6_takeTurn_156 fl6_59 rfl rfl ?_
        refine a_callVi (pc := 159) ok [1, 2, 3, 4] dX6_takeTurn_159 mv6_153 miX4_invertGreys (c_invertGreys hd) ⟨by decide, by decide, rfl, rfl, Nat.zero_le _, Nat.zero_le _⟩ rfl rfl (Nat.le_of_ble_eq_true rfl) rfl (by decide) rfl rfl rfl ?_
        refine a_pop (pc := 162) ok dX6_takeTurn_162 rfl ?_
        refine a_goto (pc := 163) (tgt := 217) ok dX6_takeTurn_163 (by decide) ?_
        exact a_vret (pc := 217) ok dX6_takeTurn_217 (⟨rfl, gb, by rw [tn_5 (S := S2) (n := n) (by omega), if_neg (by omega)]; rfl⟩)
      · refine a_aload_n (pc := 138) ok dX6_takeTurn_138 rfl ?_
        refine a_getf (pc := 139) ok dX6_takeTurn_139 fl6_59 rfl rfl ?_
        refine a_iconst (pc := 142) ok dX6_takeTurn_142 ?_
        refine a_iload_n (pc := 143) ok dX6_takeTurn_143 rfl ?_
        refine a_bipush (pc := 144) ok dX6_takeTurn_144 (by decide) ?_
        refine a_irem (pc := 146) ok dX6_takeTurn_146 (by first | omega | (unfold rg; omega) | (simp only [rg] at *; omega) | exact bz_rg _ | grind [rg]) (by first | omega | (unfold rg; omega) | (simp only [rg] at *; omega) | exact bz_rg _ | grind [rg]) ?_
        refine a_iadd (pc := 147) ok dX6_takeTurn_147 ?_
        refine a_callVi (pc := 148) ok [1, 2, 3, 4] dX6_takeTurn_148 mv6_143 miX4_trySetLeast (c_tL (by unfold rg; omega)) ⟨by decide, by decide, rfl, rfl, Nat.zero_le _, Nat.zero_le _⟩ rfl rfl (Nat.le_of_ble_eq_true rfl) rfl (by decide) rfl rfl rfl ?_
        refine a_pop (pc := 151) ok dX6_takeTurn_151 rfl ?_
        refine a_goto (pc := 152) (tgt := 217) ok dX6_takeTurn_152 (by decide) ?_
        exact a_vret (pc := 217) ok dX6_takeTurn_217 (⟨rfl, gb, by rw [tn_5 (S := S2) (n := n) (by omega), if_pos (by omega)]; rfl⟩)
    · refine a_aload_n (pc := 166) ok dX6_takeTurn_166 rfl ?_
      refine a_getf (pc := 167) ok dX6_takeTurn_167 fl6_59 rfl rfl ?_
      refine a_aload_n (pc := 170) ok dX6_takeTurn_170 rfl ?_
      refine a_getf (pc := 171) ok dX6_takeTurn_171 fl6_72 rfl rfl ?_
      refine a_callVi (pc := 174) ok [1, 2, 3, 4, 13] dX6_takeTurn_174 mv6_149 miX4_blurGreys (c_blurGreys hd hS.2.1) ⟨by decide, by decide, rfl, rfl, Nat.zero_le _, Nat.zero_le _⟩ rfl rfl (Nat.le_of_ble_eq_true rfl) rfl (by decide) rfl rfl rfl ?_
      refine a_pop (pc := 177) ok dX6_takeTurn_177 rfl ?_
      refine a_goto (pc := 178) (tgt := 217) ok dX6_takeTurn_178 (by decide) ?_
      exact a_vret (pc := 217) ok dX6_takeTurn_217 (⟨rfl, sG S2, by rw [tn_6 (S := S2) (n := n) (by omega)]; rfl⟩)
    · refine a_aload_n (pc := 181) ok dX6_takeTurn_181 rfl ?_
      refine a_getf (pc := 182) ok dX6_takeTurn_182 fl6_59 rfl rfl ?_
      refine a_iconst (pc := 185) ok dX6_takeTurn_185 ?_
      refine a_iload_n (pc := 186) ok dX6_takeTurn_186 rfl ?_
      refine a_bipush (pc := 187) ok dX6_takeTurn_187 (by decide) ?_
      refine a_irem (pc := 189) ok dX6_takeTurn_189 (by first | omega | (unfold rg; omega) | (simp only [rg] at *; omega) | exact bz_rg _ | grind [rg]) (by first | omega | (unfold rg; omega) | (simp only [rg] at *; omega) | exact bz_rg _ | grind [rg]) ?_
      refine a_iadd (pc := 190) ok dX6_takeTurn_190 ?_
      refine a_callVi (pc := 191) ok [1, 2, 3, 4] dX6_takeTurn_191 mv6_146 miX4_trySpread (c_tQ hS (by unfold rg; omega)) ⟨by decide, by decide, rfl, rfl, Nat.zero_le _, Nat.zero_le _⟩ rfl rfl (Nat.le_of_ble_eq_true rfl) rfl (by decide) rfl rfl rfl ?_
      refine a_pop (pc := 194) ok dX6_takeTurn_194 rfl ?_
      refine a_goto (pc := 195) (tgt := 217) ok dX6_takeTurn_195 (by decide) ?_
      exact a_vret (pc := 217) ok dX6_takeTurn_217 (⟨rfl, gb, by rw [tn_7 (S := S2) (n := n) (by omega), show stQ S2 (1 + n / 8 % 49) = gQ S2 (1 + n / 8 % 49) from if_pos (by omega)]; rfl⟩)
  · refine a_aload_n (pc := 198) ok dX6_takeTurn_198 rfl ?_
    refine a_getf (pc := 199) ok dX6_takeTurn_199 fl6_59 rfl rfl ?_
    refine a_iload_n (pc := 202) ok dX6_takeTurn_202 rfl ?_
    refine a_iload (pc := 203) ok dX6_takeTurn_203 rfl ?_
    refine a_iload_n (pc := 205) ok dX6_takeTurn_205 rfl ?_
    refine a_sipush (pc := 206) ok dX6_takeTurn_206 (by decide) ?_
    refine a_idiv (pc := 209) ok dX6_takeTurn_209 (by first | omega | (unfold rg; omega) | (simp only [rg] at *; omega) | exact bz_rg _ | grind [rg]) (by first | omega | (unfold rg; omega) | (simp only [rg] at *; omega) | exact bz_rg _ | grind [rg]) ?_
    refine a_bipush (pc := 210) ok dX6_takeTurn_210 (by decide) ?_
    refine a_irem (pc := 212) ok dX6_takeTurn_212 (by first | omega | (unfold rg; omega) | (simp only [rg] at *; omega) | exact bz_rg _ | grind [rg]) (by first | omega | (unfold rg; omega) | (simp only [rg] at *; omega) | exact bz_rg _ | grind [rg]) ?_
    refine a_callVi (pc := 213) ok [1, 2, 3, 4] dX6_takeTurn_213 mv6_131 miX4_trySetGrey (c_tP hS (by unfold rg; omega) (by unfold rg; omega) (by unfold rg; omega)) ⟨by decide, by decide, rfl, rfl, Nat.zero_le _, Nat.zero_le _⟩ rfl rfl (Nat.le_of_ble_eq_true rfl) rfl (by decide) rfl rfl rfl ?_
    refine a_pop (pc := 216) ok dX6_takeTurn_216 rfl ?_
    exact a_vret (pc := 217) ok dX6_takeTurn_217 (⟨rfl, gb, by rw [tn_p (S := S2) (n := n) (by omega)]; rfl⟩)
end CW6
