/-! THE LAW: alike; least sizes. Printed by wip/p37/gen/mktwo.py. -/
abbrev rgL_thrown : Room := { frames := 0, cells := 0, slots := 0, locals := 0 }
theorem miL_thrown : MI yL_thrown cL_thrown 1 (some .boolean) 1 := ⟨ug5 77 (by exact rfl) rfl, by decide +kernel, by decide +kernel, ug1 0 (by decide +kernel) rfl⟩
theorem dL_thrown_0 : decode cL_thrown 0 = .ok (.iload_n 0, 1) := by decide +kernel
theorem dL_thrown_1 : decode cL_thrown 1 = .ok (.ldc 25, 2) := by decide +kernel
theorem dL_thrown_3 : decode cL_thrown 3 = .ok (.if_icmp .eq 15, 3) := by decide +kernel
theorem dL_thrown_6 : decode cL_thrown 6 = .ok (.iload_n 0, 1) := by decide +kernel
theorem dL_thrown_7 : decode cL_thrown 7 = .ok (.ldc 15, 2) := by decide +kernel
theorem dL_thrown_9 : decode cL_thrown 9 = .ok (.if_icmp .eq 9, 3) := by decide +kernel
theorem dL_thrown_12 : decode cL_thrown 12 = .ok (.iload_n 0, 1) := by decide +kernel
theorem dL_thrown_13 : decode cL_thrown 13 = .ok (.ldc 18, 2) := by decide +kernel
theorem dL_thrown_15 : decode cL_thrown 15 = .ok (.if_icmp .ne 7, 3) := by decide +kernel
theorem dL_thrown_18 : decode cL_thrown 18 = .ok (.iconst 1, 1) := by decide +kernel
theorem dL_thrown_19 : decode cL_thrown 19 = .ok (.goto 4, 3) := by decide +kernel
theorem dL_thrown_22 : decode cL_thrown 22 = .ok (.iconst 0, 1) := by decide +kernel
theorem dL_thrown_23 : decode cL_thrown 23 = .ok (.ireturn, 1) := by decide +kernel
theorem c_lthrown {l : Launch} {v : Int} (hv : rg v) (h : v ≠ -9999001 ∧ v ≠ -9999002 ∧ v ≠ -9999003) : Cd l yL_thrown cL_thrown 1 (some .boolean) rgL_thrown [iv v] [] (some (iv 0)) [] := by
  refine Ct.of miL_thrown (Nat.le_of_ble_eq_true rfl) ?_
  intro X hXl hN ok
  refine AW.cast (L2 := [some (iv v)]) ?_ rfl rfl rfl
  refine a_iload_n (pc := 0) ok dL_thrown_0 rfl ?_
  refine a_ldc (pc := 1) (z := -9999001) (v := Int32.ofInt (-9999001)) ok dL_thrown_1 (ug3 205 (by decide +kernel) rfl) (by decide) ?_
  refine a_icmp_eq (pc := 3) (tgt := 18) ok dL_thrown_3 (by decide) (by first | exact rg_w _ | exact rg_tw (by unfold rg; omega) (by unfold rg; omega) | omega | (unfold rg; omega) | (simp only [rg] at *; omega) | exact bz_rg _ | grind [rg]) (by first | exact rg_w _ | exact rg_tw (by unfold rg; omega) (by unfold rg; omega) | omega | (unfold rg; omega) | (simp only [rg] at *; omega) | exact bz_rg _ | grind [rg]) (fun c3 => ?_) (fun c3 => ?_)
  · exfalso; first | omega | grind
  · refine a_iload_n (pc := 6) ok dL_thrown_6 rfl ?_
    refine a_ldc (pc := 7) (z := -9999002) (v := Int32.ofInt (-9999002)) ok dL_thrown_7 (ug2 127 (by decide +kernel) rfl) (by decide) ?_
    refine a_icmp_eq (pc := 9) (tgt := 18) ok dL_thrown_9 (by decide) (by first | exact rg_w _ | exact rg_tw (by unfold rg; omega) (by unfold rg; omega) | omega | (unfold rg; omega) | (simp only [rg] at *; omega) | exact bz_rg _ | grind [rg]) (by first | exact rg_w _ | exact rg_tw (by unfold rg; omega) (by unfold rg; omega) | omega | (unfold rg; omega) | (simp only [rg] at *; omega) | exact bz_rg _ | grind [rg]) (fun c9 => ?_) (fun c9 => ?_)
    · exfalso; first | omega | grind
    · refine a_iload_n (pc := 12) ok dL_thrown_12 rfl ?_
      refine a_ldc (pc := 13) (z := -9999003) (v := Int32.ofInt (-9999003)) ok dL_thrown_13 (ug2 128 (by decide +kernel) rfl) (by decide) ?_
      refine a_icmp_ne (pc := 15) (tgt := 22) ok dL_thrown_15 (by decide) (by first | exact rg_w _ | exact rg_tw (by unfold rg; omega) (by unfold rg; omega) | omega | (unfold rg; omega) | (simp only [rg] at *; omega) | exact bz_rg _ | grind [rg]) (by first | exact rg_w _ | exact rg_tw (by unfold rg; omega) (by unfold rg; omega) | omega | (unfold rg; omega) | (simp only [rg] at *; omega) | exact bz_rg _ | grind [rg]) (fun c15 => ?_) (fun c15 => ?_)
      · refine a_iconst (pc := 22) ok dL_thrown_22 ?_
        exact a_zret (pc := 23) ok dL_thrown_23 (by first | rfl | exact nb_bz _ | exact @nb_bz _ (Classical.propDecidable _) | decide | exact nb_01 (by assumption)) (⟨rfl, rfl⟩)
      · exfalso; first | omega | grind
abbrev rgL_alike : Room := { frames := 11, cells := 20, slots := 120, locals := 268 }
theorem miL_alike : MI yL_alike cL_alike 4 (some .boolean) 3 := ⟨ug5 71 (by exact rfl) rfl, by decide +kernel, by decide +kernel, ug1 0 (by decide +kernel) rfl⟩
theorem dL_alike_0 : decode cL_alike 0 = .ok (.iload_n 2, 1) := by decide +kernel
theorem dL_alike_1 : decode cL_alike 1 = .ok (.bipush 11, 2) := by decide +kernel
theorem dL_alike_3 : decode cL_alike 3 = .ok (.irem, 1) := by decide +kernel
theorem dL_alike_4 : decode cL_alike 4 = .ok (.istore_n 3, 1) := by decide +kernel
theorem dL_alike_5 : decode cL_alike 5 = .ok (.aload_n 0, 1) := by decide +kernel
theorem dL_alike_6 : decode cL_alike 6 = .ok (.iload_n 2, 1) := by decide +kernel
theorem dL_alike_7 : decode cL_alike 7 = .ok (.i2l, 1) := by decide +kernel
theorem dL_alike_8 : decode cL_alike 8 = .ok (.iconst 1, 1) := by decide +kernel
theorem dL_alike_9 : decode cL_alike 9 = .ok (.iload_n 2, 1) := by decide +kernel
theorem dL_alike_10 : decode cL_alike 10 = .ok (.bipush 6, 2) := by decide +kernel
theorem dL_alike_12 : decode cL_alike 12 = .ok (.irem, 1) := by decide +kernel
theorem dL_alike_13 : decode cL_alike 13 = .ok (.iadd, 1) := by decide +kernel
theorem dL_alike_14 : decode cL_alike 14 = .ok (.invokestatic 216, 3) := by decide +kernel
theorem dL_alike_17 : decode cL_alike 17 = .ok (.aload_n 1, 1) := by decide +kernel
theorem dL_alike_18 : decode cL_alike 18 = .ok (.iload_n 2, 1) := by decide +kernel
theorem dL_alike_19 : decode cL_alike 19 = .ok (.i2l, 1) := by decide +kernel
theorem dL_alike_20 : decode cL_alike 20 = .ok (.iconst 1, 1) := by decide +kernel
theorem dL_alike_21 : decode cL_alike 21 = .ok (.iload_n 2, 1) := by decide +kernel
theorem dL_alike_22 : decode cL_alike 22 = .ok (.bipush 6, 2) := by decide +kernel
theorem dL_alike_24 : decode cL_alike 24 = .ok (.irem, 1) := by decide +kernel
theorem dL_alike_25 : decode cL_alike 25 = .ok (.iadd, 1) := by decide +kernel
theorem dL_alike_26 : decode cL_alike 26 = .ok (.invokestatic 216, 3) := by decide +kernel
theorem dL_alike_29 : decode cL_alike 29 = .ok (.if_icmp .ne 172, 3) := by decide +kernel
theorem dL_alike_32 : decode cL_alike 32 = .ok (.aload_n 0, 1) := by decide +kernel
theorem dL_alike_33 : decode cL_alike 33 = .ok (.invokevirtual 223, 3) := by decide +kernel
theorem dL_alike_36 : decode cL_alike 36 = .ok (.aload_n 1, 1) := by decide +kernel
theorem dL_alike_37 : decode cL_alike 37 = .ok (.invokevirtual 223, 3) := by decide +kernel
theorem dL_alike_40 : decode cL_alike 40 = .ok (.if_icmp .ne 161, 3) := by decide +kernel
theorem dL_alike_43 : decode cL_alike 43 = .ok (.aload_n 0, 1) := by decide +kernel
theorem dL_alike_44 : decode cL_alike 44 = .ok (.iconst 2, 1) := by decide +kernel
theorem dL_alike_45 : decode cL_alike 45 = .ok (.iload_n 3, 1) := by decide +kernel
theorem dL_alike_46 : decode cL_alike 46 = .ok (.iconst 0, 1) := by decide +kernel
theorem dL_alike_47 : decode cL_alike 47 = .ok (.iconst 0, 1) := by decide +kernel
theorem dL_alike_48 : decode cL_alike 48 = .ok (.invokestatic 191, 3) := by decide +kernel
theorem dL_alike_51 : decode cL_alike 51 = .ok (.aload_n 1, 1) := by decide +kernel
theorem dL_alike_52 : decode cL_alike 52 = .ok (.iconst 2, 1) := by decide +kernel
theorem dL_alike_53 : decode cL_alike 53 = .ok (.iload_n 3, 1) := by decide +kernel
theorem dL_alike_54 : decode cL_alike 54 = .ok (.iconst 0, 1) := by decide +kernel
theorem dL_alike_55 : decode cL_alike 55 = .ok (.iconst 0, 1) := by decide +kernel
theorem dL_alike_56 : decode cL_alike 56 = .ok (.invokestatic 191, 3) := by decide +kernel
theorem dL_alike_59 : decode cL_alike 59 = .ok (.if_icmp .ne 142, 3) := by decide +kernel
theorem dL_alike_62 : decode cL_alike 62 = .ok (.aload_n 0, 1) := by decide +kernel
theorem dL_alike_63 : decode cL_alike 63 = .ok (.iconst 2, 1) := by decide +kernel
theorem dL_alike_64 : decode cL_alike 64 = .ok (.iconst 4, 1) := by decide +kernel
theorem dL_alike_65 : decode cL_alike 65 = .ok (.iconst 0, 1) := by decide +kernel
theorem dL_alike_66 : decode cL_alike 66 = .ok (.iconst 0, 1) := by decide +kernel
theorem dL_alike_67 : decode cL_alike 67 = .ok (.invokestatic 191, 3) := by decide +kernel
theorem dL_alike_70 : decode cL_alike 70 = .ok (.aload_n 1, 1) := by decide +kernel
theorem dL_alike_71 : decode cL_alike 71 = .ok (.iconst 2, 1) := by decide +kernel
theorem dL_alike_72 : decode cL_alike 72 = .ok (.iconst 4, 1) := by decide +kernel
theorem dL_alike_73 : decode cL_alike 73 = .ok (.iconst 0, 1) := by decide +kernel
theorem dL_alike_74 : decode cL_alike 74 = .ok (.iconst 0, 1) := by decide +kernel
theorem dL_alike_75 : decode cL_alike 75 = .ok (.invokestatic 191, 3) := by decide +kernel
theorem dL_alike_78 : decode cL_alike 78 = .ok (.if_icmp .ne 123, 3) := by decide +kernel
theorem dL_alike_81 : decode cL_alike 81 = .ok (.aload_n 0, 1) := by decide +kernel
theorem dL_alike_82 : decode cL_alike 82 = .ok (.iconst 2, 1) := by decide +kernel
theorem dL_alike_83 : decode cL_alike 83 = .ok (.bipush 10, 2) := by decide +kernel
theorem dL_alike_85 : decode cL_alike 85 = .ok (.iconst 0, 1) := by decide +kernel
theorem dL_alike_86 : decode cL_alike 86 = .ok (.iconst 0, 1) := by decide +kernel
theorem dL_alike_87 : decode cL_alike 87 = .ok (.invokestatic 191, 3) := by decide +kernel
theorem dL_alike_90 : decode cL_alike 90 = .ok (.aload_n 1, 1) := by decide +kernel
theorem dL_alike_91 : decode cL_alike 91 = .ok (.iconst 2, 1) := by decide +kernel
theorem dL_alike_92 : decode cL_alike 92 = .ok (.bipush 10, 2) := by decide +kernel
theorem dL_alike_94 : decode cL_alike 94 = .ok (.iconst 0, 1) := by decide +kernel
theorem dL_alike_95 : decode cL_alike 95 = .ok (.iconst 0, 1) := by decide +kernel
theorem dL_alike_96 : decode cL_alike 96 = .ok (.invokestatic 191, 3) := by decide +kernel
theorem dL_alike_99 : decode cL_alike 99 = .ok (.if_icmp .ne 102, 3) := by decide +kernel
theorem dL_alike_102 : decode cL_alike 102 = .ok (.aload_n 0, 1) := by decide +kernel
theorem dL_alike_103 : decode cL_alike 103 = .ok (.iconst 4, 1) := by decide +kernel
theorem dL_alike_104 : decode cL_alike 104 = .ok (.iload_n 2, 1) := by decide +kernel
theorem dL_alike_105 : decode cL_alike 105 = .ok (.iconst 5, 1) := by decide +kernel
theorem dL_alike_106 : decode cL_alike 106 = .ok (.irem, 1) := by decide +kernel
theorem dL_alike_107 : decode cL_alike 107 = .ok (.iconst 0, 1) := by decide +kernel
theorem dL_alike_108 : decode cL_alike 108 = .ok (.iconst 0, 1) := by decide +kernel
theorem dL_alike_109 : decode cL_alike 109 = .ok (.invokestatic 191, 3) := by decide +kernel
theorem dL_alike_112 : decode cL_alike 112 = .ok (.aload_n 1, 1) := by decide +kernel
theorem dL_alike_113 : decode cL_alike 113 = .ok (.iconst 4, 1) := by decide +kernel
theorem dL_alike_114 : decode cL_alike 114 = .ok (.iload_n 2, 1) := by decide +kernel
theorem dL_alike_115 : decode cL_alike 115 = .ok (.iconst 5, 1) := by decide +kernel
theorem dL_alike_116 : decode cL_alike 116 = .ok (.irem, 1) := by decide +kernel
theorem dL_alike_117 : decode cL_alike 117 = .ok (.iconst 0, 1) := by decide +kernel
theorem dL_alike_118 : decode cL_alike 118 = .ok (.iconst 0, 1) := by decide +kernel
theorem dL_alike_119 : decode cL_alike 119 = .ok (.invokestatic 191, 3) := by decide +kernel
theorem dL_alike_122 : decode cL_alike 122 = .ok (.if_icmp .ne 79, 3) := by decide +kernel
theorem dL_alike_125 : decode cL_alike 125 = .ok (.aload_n 0, 1) := by decide +kernel
theorem dL_alike_126 : decode cL_alike 126 = .ok (.iconst 3, 1) := by decide +kernel
theorem dL_alike_127 : decode cL_alike 127 = .ok (.iload_n 2, 1) := by decide +kernel
theorem dL_alike_128 : decode cL_alike 128 = .ok (.bipush 8, 2) := by decide +kernel
theorem dL_alike_130 : decode cL_alike 130 = .ok (.irem, 1) := by decide +kernel
theorem dL_alike_131 : decode cL_alike 131 = .ok (.iload_n 2, 1) := by decide +kernel
theorem dL_alike_132 : decode cL_alike 132 = .ok (.bipush 8, 2) := by decide +kernel
theorem dL_alike_134 : decode cL_alike 134 = .ok (.idiv, 1) := by decide +kernel
theorem dL_alike_135 : decode cL_alike 135 = .ok (.bipush 8, 2) := by decide +kernel
theorem dL_alike_137 : decode cL_alike 137 = .ok (.irem, 1) := by decide +kernel
theorem dL_alike_138 : decode cL_alike 138 = .ok (.iload_n 2, 1) := by decide +kernel
theorem dL_alike_139 : decode cL_alike 139 = .ok (.bipush 6, 2) := by decide +kernel
theorem dL_alike_141 : decode cL_alike 141 = .ok (.irem, 1) := by decide +kernel
theorem dL_alike_142 : decode cL_alike 142 = .ok (.invokestatic 191, 3) := by decide +kernel
theorem dL_alike_145 : decode cL_alike 145 = .ok (.aload_n 1, 1) := by decide +kernel
theorem dL_alike_146 : decode cL_alike 146 = .ok (.iconst 3, 1) := by decide +kernel
theorem dL_alike_147 : decode cL_alike 147 = .ok (.iload_n 2, 1) := by decide +kernel
theorem dL_alike_148 : decode cL_alike 148 = .ok (.bipush 8, 2) := by decide +kernel
theorem dL_alike_150 : decode cL_alike 150 = .ok (.irem, 1) := by decide +kernel
theorem dL_alike_151 : decode cL_alike 151 = .ok (.iload_n 2, 1) := by decide +kernel
theorem dL_alike_152 : decode cL_alike 152 = .ok (.bipush 8, 2) := by decide +kernel
theorem dL_alike_154 : decode cL_alike 154 = .ok (.idiv, 1) := by decide +kernel
theorem dL_alike_155 : decode cL_alike 155 = .ok (.bipush 8, 2) := by decide +kernel
theorem dL_alike_157 : decode cL_alike 157 = .ok (.irem, 1) := by decide +kernel
theorem dL_alike_158 : decode cL_alike 158 = .ok (.iload_n 2, 1) := by decide +kernel
theorem dL_alike_159 : decode cL_alike 159 = .ok (.bipush 6, 2) := by decide +kernel
theorem dL_alike_161 : decode cL_alike 161 = .ok (.irem, 1) := by decide +kernel
theorem dL_alike_162 : decode cL_alike 162 = .ok (.invokestatic 191, 3) := by decide +kernel
theorem dL_alike_165 : decode cL_alike 165 = .ok (.if_icmp .ne 36, 3) := by decide +kernel
theorem dL_alike_168 : decode cL_alike 168 = .ok (.aload_n 0, 1) := by decide +kernel
theorem dL_alike_169 : decode cL_alike 169 = .ok (.iconst 5, 1) := by decide +kernel
theorem dL_alike_170 : decode cL_alike 170 = .ok (.iload_n 2, 1) := by decide +kernel
theorem dL_alike_171 : decode cL_alike 171 = .ok (.iconst 3, 1) := by decide +kernel
theorem dL_alike_172 : decode cL_alike 172 = .ok (.irem, 1) := by decide +kernel
theorem dL_alike_173 : decode cL_alike 173 = .ok (.iload_n 2, 1) := by decide +kernel
theorem dL_alike_174 : decode cL_alike 174 = .ok (.bipush 9, 2) := by decide +kernel
theorem dL_alike_176 : decode cL_alike 176 = .ok (.irem, 1) := by decide +kernel
theorem dL_alike_177 : decode cL_alike 177 = .ok (.iconst 0, 1) := by decide +kernel
theorem dL_alike_178 : decode cL_alike 178 = .ok (.invokestatic 191, 3) := by decide +kernel
theorem dL_alike_181 : decode cL_alike 181 = .ok (.aload_n 1, 1) := by decide +kernel
theorem dL_alike_182 : decode cL_alike 182 = .ok (.iconst 5, 1) := by decide +kernel
theorem dL_alike_183 : decode cL_alike 183 = .ok (.iload_n 2, 1) := by decide +kernel
theorem dL_alike_184 : decode cL_alike 184 = .ok (.iconst 3, 1) := by decide +kernel
theorem dL_alike_185 : decode cL_alike 185 = .ok (.irem, 1) := by decide +kernel
theorem dL_alike_186 : decode cL_alike 186 = .ok (.iload_n 2, 1) := by decide +kernel
theorem dL_alike_187 : decode cL_alike 187 = .ok (.bipush 9, 2) := by decide +kernel
theorem dL_alike_189 : decode cL_alike 189 = .ok (.irem, 1) := by decide +kernel
theorem dL_alike_190 : decode cL_alike 190 = .ok (.iconst 0, 1) := by decide +kernel
theorem dL_alike_191 : decode cL_alike 191 = .ok (.invokestatic 191, 3) := by decide +kernel
theorem dL_alike_194 : decode cL_alike 194 = .ok (.if_icmp .ne 7, 3) := by decide +kernel
theorem dL_alike_197 : decode cL_alike 197 = .ok (.iconst 1, 1) := by decide +kernel
theorem dL_alike_198 : decode cL_alike 198 = .ok (.goto 4, 3) := by decide +kernel
theorem dL_alike_201 : decode cL_alike 201 = .ok (.iconst 0, 1) := by decide +kernel
theorem dL_alike_202 : decode cL_alike 202 = .ok (.ireturn, 1) := by decide +kernel
abbrev rgL_leasts : Room := { frames := 11, cells := 20, slots := 120, locals := 268 }
theorem miL_leasts : MI yL_leasts cL_leasts 8 (some .boolean) 3 := ⟨ug5 74 (by exact rfl) rfl, by decide +kernel, by decide +kernel, ug1 0 (by decide +kernel) rfl⟩
theorem dL_leasts_0 : decode cL_leasts 0 = .ok (.aload_n 0, 1) := by decide +kernel
theorem dL_leasts_1 : decode cL_leasts 1 = .ok (.iconst 2, 1) := by decide +kernel
theorem dL_leasts_2 : decode cL_leasts 2 = .ok (.iconst 3, 1) := by decide +kernel
theorem dL_leasts_3 : decode cL_leasts 3 = .ok (.iconst 0, 1) := by decide +kernel
theorem dL_leasts_4 : decode cL_leasts 4 = .ok (.iconst 0, 1) := by decide +kernel
theorem dL_leasts_5 : decode cL_leasts 5 = .ok (.invokestatic 191, 3) := by decide +kernel
theorem dL_leasts_8 : decode cL_leasts 8 = .ok (.istore_n 3, 1) := by decide +kernel
theorem dL_leasts_9 : decode cL_leasts 9 = .ok (.aload_n 0, 1) := by decide +kernel
theorem dL_leasts_10 : decode cL_leasts 10 = .ok (.bipush 18, 2) := by decide +kernel
theorem dL_leasts_12 : decode cL_leasts 12 = .ok (.iload_n 2, 1) := by decide +kernel
theorem dL_leasts_13 : decode cL_leasts 13 = .ok (.iconst 0, 1) := by decide +kernel
theorem dL_leasts_14 : decode cL_leasts 14 = .ok (.iconst 0, 1) := by decide +kernel
theorem dL_leasts_15 : decode cL_leasts 15 = .ok (.invokestatic 191, 3) := by decide +kernel
theorem dL_leasts_18 : decode cL_leasts 18 = .ok (.istore 4, 2) := by decide +kernel
theorem dL_leasts_20 : decode cL_leasts 20 = .ok (.aload_n 0, 1) := by decide +kernel
theorem dL_leasts_21 : decode cL_leasts 21 = .ok (.bipush 18, 2) := by decide +kernel
theorem dL_leasts_23 : decode cL_leasts 23 = .ok (.iload_n 2, 1) := by decide +kernel
theorem dL_leasts_24 : decode cL_leasts 24 = .ok (.iconst 1, 1) := by decide +kernel
theorem dL_leasts_25 : decode cL_leasts 25 = .ok (.iconst 0, 1) := by decide +kernel
theorem dL_leasts_26 : decode cL_leasts 26 = .ok (.invokestatic 191, 3) := by decide +kernel
theorem dL_leasts_29 : decode cL_leasts 29 = .ok (.istore 5, 2) := by decide +kernel
theorem dL_leasts_31 : decode cL_leasts 31 = .ok (.aload_n 0, 1) := by decide +kernel
theorem dL_leasts_32 : decode cL_leasts 32 = .ok (.bipush 18, 2) := by decide +kernel
theorem dL_leasts_34 : decode cL_leasts 34 = .ok (.iload_n 2, 1) := by decide +kernel
theorem dL_leasts_35 : decode cL_leasts 35 = .ok (.iconst 2, 1) := by decide +kernel
theorem dL_leasts_36 : decode cL_leasts 36 = .ok (.iconst 0, 1) := by decide +kernel
theorem dL_leasts_37 : decode cL_leasts 37 = .ok (.invokestatic 191, 3) := by decide +kernel
theorem dL_leasts_40 : decode cL_leasts 40 = .ok (.istore 6, 2) := by decide +kernel
theorem dL_leasts_42 : decode cL_leasts 42 = .ok (.aload_n 0, 1) := by decide +kernel
theorem dL_leasts_43 : decode cL_leasts 43 = .ok (.bipush 13, 2) := by decide +kernel
theorem dL_leasts_45 : decode cL_leasts 45 = .ok (.iload_n 2, 1) := by decide +kernel
theorem dL_leasts_46 : decode cL_leasts 46 = .ok (.iconst 0, 1) := by decide +kernel
theorem dL_leasts_47 : decode cL_leasts 47 = .ok (.iconst 0, 1) := by decide +kernel
theorem dL_leasts_48 : decode cL_leasts 48 = .ok (.invokestatic 191, 3) := by decide +kernel
theorem dL_leasts_51 : decode cL_leasts 51 = .ok (.iload_n 3, 1) := by decide +kernel
theorem dL_leasts_52 : decode cL_leasts 52 = .ok (.if_icmp .ne 56, 3) := by decide +kernel
theorem dL_leasts_55 : decode cL_leasts 55 = .ok (.aload_n 1, 1) := by decide +kernel
theorem dL_leasts_56 : decode cL_leasts 56 = .ok (.bipush 13, 2) := by decide +kernel
theorem dL_leasts_58 : decode cL_leasts 58 = .ok (.iload_n 2, 1) := by decide +kernel
theorem dL_leasts_59 : decode cL_leasts 59 = .ok (.iconst 0, 1) := by decide +kernel
theorem dL_leasts_60 : decode cL_leasts 60 = .ok (.iconst 0, 1) := by decide +kernel
theorem dL_leasts_61 : decode cL_leasts 61 = .ok (.invokestatic 191, 3) := by decide +kernel
theorem dL_leasts_64 : decode cL_leasts 64 = .ok (.iload_n 3, 1) := by decide +kernel
theorem dL_leasts_65 : decode cL_leasts 65 = .ok (.if_icmp .ne 43, 3) := by decide +kernel
theorem dL_leasts_68 : decode cL_leasts 68 = .ok (.aload_n 0, 1) := by decide +kernel
theorem dL_leasts_69 : decode cL_leasts 69 = .ok (.iconst 2, 1) := by decide +kernel
theorem dL_leasts_70 : decode cL_leasts 70 = .ok (.iconst 4, 1) := by decide +kernel
theorem dL_leasts_71 : decode cL_leasts 71 = .ok (.iconst 0, 1) := by decide +kernel
theorem dL_leasts_72 : decode cL_leasts 72 = .ok (.iconst 0, 1) := by decide +kernel
theorem dL_leasts_73 : decode cL_leasts 73 = .ok (.invokestatic 191, 3) := by decide +kernel
theorem dL_leasts_76 : decode cL_leasts 76 = .ok (.iload 4, 2) := by decide +kernel
theorem dL_leasts_78 : decode cL_leasts 78 = .ok (.if_icmp .ne 30, 3) := by decide +kernel
theorem dL_leasts_81 : decode cL_leasts 81 = .ok (.aload_n 0, 1) := by decide +kernel
theorem dL_leasts_82 : decode cL_leasts 82 = .ok (.iconst 2, 1) := by decide +kernel
theorem dL_leasts_83 : decode cL_leasts 83 = .ok (.bipush 6, 2) := by decide +kernel
theorem dL_leasts_85 : decode cL_leasts 85 = .ok (.iconst 0, 1) := by decide +kernel
theorem dL_leasts_86 : decode cL_leasts 86 = .ok (.iconst 0, 1) := by decide +kernel
theorem dL_leasts_87 : decode cL_leasts 87 = .ok (.invokestatic 191, 3) := by decide +kernel
theorem dL_leasts_90 : decode cL_leasts 90 = .ok (.iload 5, 2) := by decide +kernel
theorem dL_leasts_92 : decode cL_leasts 92 = .ok (.if_icmp .ne 16, 3) := by decide +kernel
theorem dL_leasts_95 : decode cL_leasts 95 = .ok (.aload_n 0, 1) := by decide +kernel
theorem dL_leasts_96 : decode cL_leasts 96 = .ok (.invokevirtual 223, 3) := by decide +kernel
theorem dL_leasts_99 : decode cL_leasts 99 = .ok (.iload 6, 2) := by decide +kernel
theorem dL_leasts_101 : decode cL_leasts 101 = .ok (.if_icmp .ne 7, 3) := by decide +kernel
theorem dL_leasts_104 : decode cL_leasts 104 = .ok (.iconst 1, 1) := by decide +kernel
theorem dL_leasts_105 : decode cL_leasts 105 = .ok (.goto 4, 3) := by decide +kernel
theorem dL_leasts_108 : decode cL_leasts 108 = .ok (.iconst 0, 1) := by decide +kernel
theorem dL_leasts_109 : decode cL_leasts 109 = .ok (.istore 7, 2) := by decide +kernel
theorem dL_leasts_111 : decode cL_leasts 111 = .ok (.iload 7, 2) := by decide +kernel
theorem dL_leasts_113 : decode cL_leasts 113 = .ok (.ifCond .eq 67, 3) := by decide +kernel
theorem dL_leasts_116 : decode cL_leasts 116 = .ok (.aload_n 0, 1) := by decide +kernel
theorem dL_leasts_117 : decode cL_leasts 117 = .ok (.bipush 17, 2) := by decide +kernel
theorem dL_leasts_119 : decode cL_leasts 119 = .ok (.iconst 0, 1) := by decide +kernel
theorem dL_leasts_120 : decode cL_leasts 120 = .ok (.iconst 0, 1) := by decide +kernel
theorem dL_leasts_121 : decode cL_leasts 121 = .ok (.iconst 0, 1) := by decide +kernel
theorem dL_leasts_122 : decode cL_leasts 122 = .ok (.invokestatic 191, 3) := by decide +kernel
theorem dL_leasts_125 : decode cL_leasts 125 = .ok (.invokestatic 261, 3) := by decide +kernel
theorem dL_leasts_128 : decode cL_leasts 128 = .ok (.ifCond .ne 52, 3) := by decide +kernel
theorem dL_leasts_131 : decode cL_leasts 131 = .ok (.aload_n 1, 1) := by decide +kernel
theorem dL_leasts_132 : decode cL_leasts 132 = .ok (.bipush 17, 2) := by decide +kernel
theorem dL_leasts_134 : decode cL_leasts 134 = .ok (.iconst 0, 1) := by decide +kernel
theorem dL_leasts_135 : decode cL_leasts 135 = .ok (.iconst 0, 1) := by decide +kernel
theorem dL_leasts_136 : decode cL_leasts 136 = .ok (.iconst 0, 1) := by decide +kernel
theorem dL_leasts_137 : decode cL_leasts 137 = .ok (.invokestatic 191, 3) := by decide +kernel
theorem dL_leasts_140 : decode cL_leasts 140 = .ok (.invokestatic 261, 3) := by decide +kernel
theorem dL_leasts_143 : decode cL_leasts 143 = .ok (.ifCond .ne 37, 3) := by decide +kernel
theorem dL_leasts_146 : decode cL_leasts 146 = .ok (.aload_n 0, 1) := by decide +kernel
theorem dL_leasts_147 : decode cL_leasts 147 = .ok (.iconst 2, 1) := by decide +kernel
theorem dL_leasts_148 : decode cL_leasts 148 = .ok (.iconst 3, 1) := by decide +kernel
theorem dL_leasts_149 : decode cL_leasts 149 = .ok (.iconst 0, 1) := by decide +kernel
theorem dL_leasts_150 : decode cL_leasts 150 = .ok (.iconst 0, 1) := by decide +kernel
theorem dL_leasts_151 : decode cL_leasts 151 = .ok (.invokestatic 191, 3) := by decide +kernel
theorem dL_leasts_154 : decode cL_leasts 154 = .ok (.iload_n 3, 1) := by decide +kernel
theorem dL_leasts_155 : decode cL_leasts 155 = .ok (.if_icmp .ne 25, 3) := by decide +kernel
theorem dL_leasts_158 : decode cL_leasts 158 = .ok (.iload 4, 2) := by decide +kernel
theorem dL_leasts_160 : decode cL_leasts 160 = .ok (.aload_n 0, 1) := by decide +kernel
theorem dL_leasts_161 : decode cL_leasts 161 = .ok (.iconst 2, 1) := by decide +kernel
theorem dL_leasts_162 : decode cL_leasts 162 = .ok (.iconst 4, 1) := by decide +kernel
theorem dL_leasts_163 : decode cL_leasts 163 = .ok (.iconst 0, 1) := by decide +kernel
theorem dL_leasts_164 : decode cL_leasts 164 = .ok (.iconst 0, 1) := by decide +kernel
theorem dL_leasts_165 : decode cL_leasts 165 = .ok (.invokestatic 191, 3) := by decide +kernel
theorem dL_leasts_168 : decode cL_leasts 168 = .ok (.if_icmp .ge 8, 3) := by decide +kernel
theorem dL_leasts_171 : decode cL_leasts 171 = .ok (.iload_n 2, 1) := by decide +kernel
theorem dL_leasts_172 : decode cL_leasts 172 = .ok (.iload_n 3, 1) := by decide +kernel
theorem dL_leasts_173 : decode cL_leasts 173 = .ok (.if_icmp .le 7, 3) := by decide +kernel
theorem dL_leasts_176 : decode cL_leasts 176 = .ok (.iconst 1, 1) := by decide +kernel
theorem dL_leasts_177 : decode cL_leasts 177 = .ok (.goto 4, 3) := by decide +kernel
theorem dL_leasts_180 : decode cL_leasts 180 = .ok (.iconst 0, 1) := by decide +kernel
theorem dL_leasts_181 : decode cL_leasts 181 = .ok (.ireturn, 1) := by decide +kernel
section TWO3
variable {l : Launch} {A : Ob} {Mo Mq : List va_E}
theorem H_alike (hl : l.stackTraces = false) (hA : VA A) (hWo : WO A Mo) (hWq : WO A Mq) {x : Int} (hx : 0 ≤ x ∧ x < 5000) : CtV l yL_alike cL_alike 4 (some .boolean) rgL_alike [.ref 0, .ref 103, iv x] (W2 103 Mo Mq) (po2 1 A A) := by
  refine CtV.of hl miL_alike (Nat.le_of_ble_eq_true rfl) (po2_cl hWo hWq) ?_
  intro X hXl hN gk ex
  subst hXl
  have ok := gk.ok
  refine AW.cast (L2 := [some (.ref 0), some (.ref 103), some (iv x), none]) ?_ rfl rfl rfl
  refine a_iload_n (pc := 0) ok dL_alike_0 rfl ?_
  refine a_bipush (pc := 1) ok dL_alike_1 (by decide) ?_
  refine a_irem (pc := 3) ok dL_alike_3 (by first | exact rg_w _ | exact rg_tw (by unfold rg; omega) (by unfold rg; omega) | omega | (unfold rg; omega) | (simp only [rg] at *; omega) | exact bz_rg _ | grind [rg]) (by first | exact rg_w _ | exact rg_tw (by unfold rg; omega) (by unfold rg; omega) | omega | (unfold rg; omega) | (simp only [rg] at *; omega) | exact bz_rg _ | grind [rg]) ?_
  refine a_istore_n (pc := 4) ok dL_alike_4 rfl (by rw [hN]; decide) ?_
  refine a_aload_n (pc := 5) ok dL_alike_5 rfl ?_
  refine a_iload_n (pc := 6) ok dL_alike_6 rfl ?_
  refine a_i2l (pc := 7) ok dL_alike_7 (by first | exact rg_w _ | exact rg_tw (by unfold rg; omega) (by unfold rg; omega) | omega | (unfold rg; omega) | (simp only [rg] at *; omega) | exact bz_rg _ | grind [rg]) ?_
  refine a_iconst (pc := 8) ok dL_alike_8 ?_
  refine a_iload_n (pc := 9) ok dL_alike_9 rfl ?_
  refine a_bipush (pc := 10) ok dL_alike_10 (by decide) ?_
  refine a_irem (pc := 12) ok dL_alike_12 (by first | exact rg_w _ | exact rg_tw (by unfold rg; omega) (by unfold rg; omega) | omega | (unfold rg; omega) | (simp only [rg] at *; omega) | exact bz_rg _ | grind [rg]) (by first | exact rg_w _ | exact rg_tw (by unfold rg; omega) (by unfold rg; omega) | omega | (unfold rg; omega) | (simp only [rg] at *; omega) | exact bz_rg _ | grind [rg]) ?_
  refine a_iadd (pc := 13) ok dL_alike_13 ?_
  refine w_oo (pc := 14) ok ex dL_alike_14 (ug5 35 (by decide +kernel) rfl) (ug5 36 (by decide +kernel) rfl) miL_doSimulate hWo (ctw_rd (T_doSimulate hl hA hWo (x := x) (n := 1 + x % 6) (by unfold rg; omega))) ⟨by decide, by decide, rfl, rfl⟩ ⟨Nat.le_of_ble_eq_true rfl, Nat.le_of_ble_eq_true rfl⟩ rfl rfl (Nat.le_of_ble_eq_true rfl) ?_
  intro Mo hWo
  refine a_aload_n (pc := 17) ok dL_alike_17 rfl ?_
  refine a_iload_n (pc := 18) ok dL_alike_18 rfl ?_
  refine a_i2l (pc := 19) ok dL_alike_19 (by first | exact rg_w _ | exact rg_tw (by unfold rg; omega) (by unfold rg; omega) | omega | (unfold rg; omega) | (simp only [rg] at *; omega) | exact bz_rg _ | grind [rg]) ?_
  refine a_iconst (pc := 20) ok dL_alike_20 ?_
  refine a_iload_n (pc := 21) ok dL_alike_21 rfl ?_
  refine a_bipush (pc := 22) ok dL_alike_22 (by decide) ?_
  refine a_irem (pc := 24) ok dL_alike_24 (by first | exact rg_w _ | exact rg_tw (by unfold rg; omega) (by unfold rg; omega) | omega | (unfold rg; omega) | (simp only [rg] at *; omega) | exact bz_rg _ | grind [rg]) (by first | exact rg_w _ | exact rg_tw (by unfold rg; omega) (by unfold rg; omega) | omega | (unfold rg; omega) | (simp only [rg] at *; omega) | exact bz_rg _ | grind [rg]) ?_
  refine a_iadd (pc := 25) ok dL_alike_25 ?_
  refine w_qq (pc := 26) ok ex dL_alike_26 (ug5 35 (by decide +kernel) rfl) (ug5 36 (by decide +kernel) rfl) miL_doSimulate hWo hWq (ctw_rd (T_doSimulate hl hA hWq (x := x) (n := 1 + x % 6) (by unfold rg; omega))) ⟨by decide, by decide, rfl, rfl⟩ ⟨Nat.le_of_ble_eq_true rfl, Nat.le_of_ble_eq_true rfl⟩ rfl rfl (Nat.le_of_ble_eq_true rfl) ?_
  intro Mq hWq
  refine a_icmp_ne (pc := 29) (tgt := 201) ok dL_alike_29 (by decide) (by first | exact rg_w _ | exact rg_tw (by unfold rg; omega) (by unfold rg; omega) | omega | (unfold rg; omega) | (simp only [rg] at *; omega) | exact bz_rg _ | grind [rg]) (by first | exact rg_w _ | exact rg_tw (by unfold rg; omega) (by unfold rg; omega) | omega | (unfold rg; omega) | (simp only [rg] at *; omega) | exact bz_rg _ | grind [rg]) (fun c29 => ?_) (fun c29 => ?_)
  · exact absurd rfl c29
  · refine a_aload_n (pc := 32) ok dL_alike_32 rfl ?_
    refine c_oo (pc := 33) ok dL_alike_33 mvL_223 miX6_ink rfl hWo (KN_ink hA hWo) ⟨by decide, by decide, rfl, rfl, Nat.le_of_ble_eq_true rfl, Nat.le_of_ble_eq_true rfl⟩ rfl rfl (Nat.le_of_ble_eq_true rfl) ?_
    intro Mo hWo
    refine a_aload_n (pc := 36) ok dL_alike_36 rfl ?_
    refine c_qq (pc := 37) ok dL_alike_37 mvL_223 miX6_ink rfl hWo hWq (KN_ink hA hWq) ⟨by decide, by decide, rfl, rfl, Nat.le_of_ble_eq_true rfl, Nat.le_of_ble_eq_true rfl⟩ rfl rfl (Nat.le_of_ble_eq_true rfl) ?_
    intro Mq hWq
    refine a_icmp_ne (pc := 40) (tgt := 201) ok dL_alike_40 (by decide) (by first | exact rg_w _ | exact rg_tw (by unfold rg; omega) (by unfold rg; omega) | omega | (unfold rg; omega) | (simp only [rg] at *; omega) | exact bz_rg _ | grind [rg]) (by first | exact rg_w _ | exact rg_tw (by unfold rg; omega) (by unfold rg; omega) | omega | (unfold rg; omega) | (simp only [rg] at *; omega) | exact bz_rg _ | grind [rg]) (fun c40 => ?_) (fun c40 => ?_)
    · exact absurd rfl c40
    · refine a_aload_n (pc := 43) ok dL_alike_43 rfl ?_
      refine a_iconst (pc := 44) ok dL_alike_44 ?_
      refine a_iload_n (pc := 45) ok dL_alike_45 rfl ?_
      refine a_iconst (pc := 46) ok dL_alike_46 ?_
      refine a_iconst (pc := 47) ok dL_alike_47 ?_
      refine v_oo (pc := 48) ok ex gk.1 dL_alike_48 (ug2 16 (by decide +kernel) rfl) (ug2 17 (by decide +kernel) rfl) miL_call hWo (ABg hl hA hWo (k := x % 11) (u2 := 0) (u3 := 0) (by omega)) ⟨by decide, by decide⟩ ⟨Nat.le_of_ble_eq_true rfl, Nat.le_of_ble_eq_true rfl⟩ rfl rfl (Nat.le_of_ble_eq_true rfl) ?_
      intro Mo hWo
      refine a_aload_n (pc := 51) ok dL_alike_51 rfl ?_
      refine a_iconst (pc := 52) ok dL_alike_52 ?_
      refine a_iload_n (pc := 53) ok dL_alike_53 rfl ?_
      refine a_iconst (pc := 54) ok dL_alike_54 ?_
      refine a_iconst (pc := 55) ok dL_alike_55 ?_
      refine v_qq (pc := 56) ok ex gk.1 dL_alike_56 (ug2 16 (by decide +kernel) rfl) (ug2 17 (by decide +kernel) rfl) miL_call hWo hWq (ABg hl hA hWq (k := x % 11) (u2 := 0) (u3 := 0) (by omega)) ⟨by decide, by decide⟩ ⟨Nat.le_of_ble_eq_true rfl, Nat.le_of_ble_eq_true rfl⟩ rfl rfl (Nat.le_of_ble_eq_true rfl) ?_
      intro Mq hWq
      refine a_icmp_ne (pc := 59) (tgt := 201) ok dL_alike_59 (by decide) (by first | exact rg_w _ | exact rg_tw (by unfold rg; omega) (by unfold rg; omega) | omega | (unfold rg; omega) | (simp only [rg] at *; omega) | exact bz_rg _ | grind [rg]) (by first | exact rg_w _ | exact rg_tw (by unfold rg; omega) (by unfold rg; omega) | omega | (unfold rg; omega) | (simp only [rg] at *; omega) | exact bz_rg _ | grind [rg]) (fun c59 => ?_) (fun c59 => ?_)
      · exact absurd rfl c59
      · refine a_aload_n (pc := 62) ok dL_alike_62 rfl ?_
        refine a_iconst (pc := 63) ok dL_alike_63 ?_
        refine a_iconst (pc := 64) ok dL_alike_64 ?_
        refine a_iconst (pc := 65) ok dL_alike_65 ?_
        refine a_iconst (pc := 66) ok dL_alike_66 ?_
        refine v_oo (pc := 67) ok ex gk.1 dL_alike_67 (ug2 16 (by decide +kernel) rfl) (ug2 17 (by decide +kernel) rfl) miL_call hWo (ABg hl hA hWo (k := 4) (u2 := 0) (u3 := 0) (by omega)) ⟨by decide, by decide⟩ ⟨Nat.le_of_ble_eq_true rfl, Nat.le_of_ble_eq_true rfl⟩ rfl rfl (Nat.le_of_ble_eq_true rfl) ?_
        intro Mo hWo
        refine a_aload_n (pc := 70) ok dL_alike_70 rfl ?_
        refine a_iconst (pc := 71) ok dL_alike_71 ?_
        refine a_iconst (pc := 72) ok dL_alike_72 ?_
        refine a_iconst (pc := 73) ok dL_alike_73 ?_
        refine a_iconst (pc := 74) ok dL_alike_74 ?_
        refine v_qq (pc := 75) ok ex gk.1 dL_alike_75 (ug2 16 (by decide +kernel) rfl) (ug2 17 (by decide +kernel) rfl) miL_call hWo hWq (ABg hl hA hWq (k := 4) (u2 := 0) (u3 := 0) (by omega)) ⟨by decide, by decide⟩ ⟨Nat.le_of_ble_eq_true rfl, Nat.le_of_ble_eq_true rfl⟩ rfl rfl (Nat.le_of_ble_eq_true rfl) ?_
        intro Mq hWq
        refine a_icmp_ne (pc := 78) (tgt := 201) ok dL_alike_78 (by decide) (by first | exact rg_w _ | exact rg_tw (by unfold rg; omega) (by unfold rg; omega) | omega | (unfold rg; omega) | (simp only [rg] at *; omega) | exact bz_rg _ | grind [rg]) (by first | exact rg_w _ | exact rg_tw (by unfold rg; omega) (by unfold rg; omega) | omega | (unfold rg; omega) | (simp only [rg] at *; omega) | exact bz_rg _ | grind [rg]) (fun c78 => ?_) (fun c78 => ?_)
        · exact absurd rfl c78
        · refine a_aload_n (pc := 81) ok dL_alike_81 rfl ?_
          refine a_iconst (pc := 82) ok dL_alike_82 ?_
          refine a_bipush (pc := 83) ok dL_alike_83 (by decide) ?_
          refine a_iconst (pc := 85) ok dL_alike_85 ?_
          refine a_iconst (pc := 86) ok dL_alike_86 ?_
          refine v_oo (pc := 87) ok ex gk.1 dL_alike_87 (ug2 16 (by decide +kernel) rfl) (ug2 17 (by decide +kernel) rfl) miL_call hWo (ABg hl hA hWo (k := 10) (u2 := 0) (u3 := 0) (by omega)) ⟨by decide, by decide⟩ ⟨Nat.le_of_ble_eq_true rfl, Nat.le_of_ble_eq_true rfl⟩ rfl rfl (Nat.le_of_ble_eq_true rfl) ?_
          intro Mo hWo
          refine a_aload_n (pc := 90) ok dL_alike_90 rfl ?_
          refine a_iconst (pc := 91) ok dL_alike_91 ?_
          refine a_bipush (pc := 92) ok dL_alike_92 (by decide) ?_
          refine a_iconst (pc := 94) ok dL_alike_94 ?_
          refine a_iconst (pc := 95) ok dL_alike_95 ?_
          refine v_qq (pc := 96) ok ex gk.1 dL_alike_96 (ug2 16 (by decide +kernel) rfl) (ug2 17 (by decide +kernel) rfl) miL_call hWo hWq (ABg hl hA hWq (k := 10) (u2 := 0) (u3 := 0) (by omega)) ⟨by decide, by decide⟩ ⟨Nat.le_of_ble_eq_true rfl, Nat.le_of_ble_eq_true rfl⟩ rfl rfl (Nat.le_of_ble_eq_true rfl) ?_
          intro Mq hWq
          refine a_icmp_ne (pc := 99) (tgt := 201) ok dL_alike_99 (by decide) (by first | exact rg_w _ | exact rg_tw (by unfold rg; omega) (by unfold rg; omega) | omega | (unfold rg; omega) | (simp only [rg] at *; omega) | exact bz_rg _ | grind [rg]) (by first | exact rg_w _ | exact rg_tw (by unfold rg; omega) (by unfold rg; omega) | omega | (unfold rg; omega) | (simp only [rg] at *; omega) | exact bz_rg _ | grind [rg]) (fun c99 => ?_) (fun c99 => ?_)
          · exact absurd rfl c99
          · refine a_aload_n (pc := 102) ok dL_alike_102 rfl ?_
            refine a_iconst (pc := 103) ok dL_alike_103 ?_
            refine a_iload_n (pc := 104) ok dL_alike_104 rfl ?_
            refine a_iconst (pc := 105) ok dL_alike_105 ?_
            refine a_irem (pc := 106) ok dL_alike_106 (by first | exact rg_w _ | exact rg_tw (by unfold rg; omega) (by unfold rg; omega) | omega | (unfold rg; omega) | (simp only [rg] at *; omega) | exact bz_rg _ | grind [rg]) (by first | exact rg_w _ | exact rg_tw (by unfold rg; omega) (by unfold rg; omega) | omega | (unfold rg; omega) | (simp only [rg] at *; omega) | exact bz_rg _ | grind [rg]) ?_
            refine a_iconst (pc := 107) ok dL_alike_107 ?_
            refine a_iconst (pc := 108) ok dL_alike_108 ?_
            refine v_oo (pc := 109) ok ex gk.1 dL_alike_109 (ug2 16 (by decide +kernel) rfl) (ug2 17 (by decide +kernel) rfl) miL_call hWo (ctv_rd (C_4 hl hA hWo (k := x % 5) (u2 := 0) (u3 := 0) (by unfold rg; omega))) ⟨by decide, by decide⟩ ⟨Nat.le_of_ble_eq_true rfl, Nat.le_of_ble_eq_true rfl⟩ rfl rfl (Nat.le_of_ble_eq_true rfl) ?_
            intro Mo hWo
            refine a_aload_n (pc := 112) ok dL_alike_112 rfl ?_
            refine a_iconst (pc := 113) ok dL_alike_113 ?_
            refine a_iload_n (pc := 114) ok dL_alike_114 rfl ?_
            refine a_iconst (pc := 115) ok dL_alike_115 ?_
            refine a_irem (pc := 116) ok dL_alike_116 (by first | exact rg_w _ | exact rg_tw (by unfold rg; omega) (by unfold rg; omega) | omega | (unfold rg; omega) | (simp only [rg] at *; omega) | exact bz_rg _ | grind [rg]) (by first | exact rg_w _ | exact rg_tw (by unfold rg; omega) (by unfold rg; omega) | omega | (unfold rg; omega) | (simp only [rg] at *; omega) | exact bz_rg _ | grind [rg]) ?_
            refine a_iconst (pc := 117) ok dL_alike_117 ?_
            refine a_iconst (pc := 118) ok dL_alike_118 ?_
            refine v_qq (pc := 119) ok ex gk.1 dL_alike_119 (ug2 16 (by decide +kernel) rfl) (ug2 17 (by decide +kernel) rfl) miL_call hWo hWq (ctv_rd (C_4 hl hA hWq (k := x % 5) (u2 := 0) (u3 := 0) (by unfold rg; omega))) ⟨by decide, by decide⟩ ⟨Nat.le_of_ble_eq_true rfl, Nat.le_of_ble_eq_true rfl⟩ rfl rfl (Nat.le_of_ble_eq_true rfl) ?_
            intro Mq hWq
            refine a_icmp_ne (pc := 122) (tgt := 201) ok dL_alike_122 (by decide) (by first | exact rg_w _ | exact rg_tw (by unfold rg; omega) (by unfold rg; omega) | omega | (unfold rg; omega) | (simp only [rg] at *; omega) | exact bz_rg _ | grind [rg]) (by first | exact rg_w _ | exact rg_tw (by unfold rg; omega) (by unfold rg; omega) | omega | (unfold rg; omega) | (simp only [rg] at *; omega) | exact bz_rg _ | grind [rg]) (fun c122 => ?_) (fun c122 => ?_)
            · exact absurd rfl c122
            · refine a_aload_n (pc := 125) ok dL_alike_125 rfl ?_
              refine a_iconst (pc := 126) ok dL_alike_126 ?_
              refine a_iload_n (pc := 127) ok dL_alike_127 rfl ?_
              refine a_bipush (pc := 128) ok dL_alike_128 (by decide) ?_
              refine a_irem (pc := 130) ok dL_alike_130 (by first | exact rg_w _ | exact rg_tw (by unfold rg; omega) (by unfold rg; omega) | omega | (unfold rg; omega) | (simp only [rg] at *; omega) | exact bz_rg _ | grind [rg]) (by first | exact rg_w _ | exact rg_tw (by unfold rg; omega) (by unfold rg; omega) | omega | (unfold rg; omega) | (simp only [rg] at *; omega) | exact bz_rg _ | grind [rg]) ?_
              refine a_iload_n (pc := 131) ok dL_alike_131 rfl ?_
              refine a_bipush (pc := 132) ok dL_alike_132 (by decide) ?_
              refine a_idiv (pc := 134) ok dL_alike_134 (by first | exact rg_w _ | exact rg_tw (by unfold rg; omega) (by unfold rg; omega) | omega | (unfold rg; omega) | (simp only [rg] at *; omega) | exact bz_rg _ | grind [rg]) (by first | exact rg_w _ | exact rg_tw (by unfold rg; omega) (by unfold rg; omega) | omega | (unfold rg; omega) | (simp only [rg] at *; omega) | exact bz_rg _ | grind [rg]) ?_
              refine a_bipush (pc := 135) ok dL_alike_135 (by decide) ?_
              refine a_irem (pc := 137) ok dL_alike_137 (by first | exact rg_w _ | exact rg_tw (by unfold rg; omega) (by unfold rg; omega) | omega | (unfold rg; omega) | (simp only [rg] at *; omega) | exact bz_rg _ | grind [rg]) (by first | exact rg_w _ | exact rg_tw (by unfold rg; omega) (by unfold rg; omega) | omega | (unfold rg; omega) | (simp only [rg] at *; omega) | exact bz_rg _ | grind [rg]) ?_
              refine a_iload_n (pc := 138) ok dL_alike_138 rfl ?_
              refine a_bipush (pc := 139) ok dL_alike_139 (by decide) ?_
              refine a_irem (pc := 141) ok dL_alike_141 (by first | exact rg_w _ | exact rg_tw (by unfold rg; omega) (by unfold rg; omega) | omega | (unfold rg; omega) | (simp only [rg] at *; omega) | exact bz_rg _ | grind [rg]) (by first | exact rg_w _ | exact rg_tw (by unfold rg; omega) (by unfold rg; omega) | omega | (unfold rg; omega) | (simp only [rg] at *; omega) | exact bz_rg _ | grind [rg]) ?_
              refine v_oo (pc := 142) ok ex gk.1 dL_alike_142 (ug2 16 (by decide +kernel) rfl) (ug2 17 (by decide +kernel) rfl) miL_call hWo (ctv_rd (C_3 hl hA hWo (x := x % 8) (y := x / 8 % 8) (w := x % 6) (by unfold rg; omega) (by unfold rg; omega) (by unfold rg; omega))) ⟨by decide, by decide⟩ ⟨Nat.le_of_ble_eq_true rfl, Nat.le_of_ble_eq_true rfl⟩ rfl rfl (Nat.le_of_ble_eq_true rfl) ?_
              intro Mo hWo
              refine a_aload_n (pc := 145) ok dL_alike_145 rfl ?_
              refine a_iconst (pc := 146) ok dL_alike_146 ?_
              refine a_iload_n (pc := 147) ok dL_alike_147 rfl ?_
              refine a_bipush (pc := 148) ok dL_alike_148 (by decide) ?_
              refine a_irem (pc := 150) ok dL_alike_150 (by first | exact rg_w _ | exact rg_tw (by unfold rg; omega) (by unfold rg; omega) | omega | (unfold rg; omega) | (simp only [rg] at *; omega) | exact bz_rg _ | grind [rg]) (by first | exact rg_w _ | exact rg_tw (by unfold rg; omega) (by unfold rg; omega) | omega | (unfold rg; omega) | (simp only [rg] at *; omega) | exact bz_rg _ | grind [rg]) ?_
              refine a_iload_n (pc := 151) ok dL_alike_151 rfl ?_
              refine a_bipush (pc := 152) ok dL_alike_152 (by decide) ?_
              refine a_idiv (pc := 154) ok dL_alike_154 (by first | exact rg_w _ | exact rg_tw (by unfold rg; omega) (by unfold rg; omega) | omega | (unfold rg; omega) | (simp only [rg] at *; omega) | exact bz_rg _ | grind [rg]) (by first | exact rg_w _ | exact rg_tw (by unfold rg; omega) (by unfold rg; omega) | omega | (unfold rg; omega) | (simp only [rg] at *; omega) | exact bz_rg _ | grind [rg]) ?_
              refine a_bipush (pc := 155) ok dL_alike_155 (by decide) ?_
              refine a_irem (pc := 157) ok dL_alike_157 (by first | exact rg_w _ | exact rg_tw (by unfold rg; omega) (by unfold rg; omega) | omega | (unfold rg; omega) | (simp only [rg] at *; omega) | exact bz_rg _ | grind [rg]) (by first | exact rg_w _ | exact rg_tw (by unfold rg; omega) (by unfold rg; omega) | omega | (unfold rg; omega) | (simp only [rg] at *; omega) | exact bz_rg _ | grind [rg]) ?_
              refine a_iload_n (pc := 158) ok dL_alike_158 rfl ?_
              refine a_bipush (pc := 159) ok dL_alike_159 (by decide) ?_
              refine a_irem (pc := 161) ok dL_alike_161 (by first | exact rg_w _ | exact rg_tw (by unfold rg; omega) (by unfold rg; omega) | omega | (unfold rg; omega) | (simp only [rg] at *; omega) | exact bz_rg _ | grind [rg]) (by first | exact rg_w _ | exact rg_tw (by unfold rg; omega) (by unfold rg; omega) | omega | (unfold rg; omega) | (simp only [rg] at *; omega) | exact bz_rg _ | grind [rg]) ?_
              refine v_qq (pc := 162) ok ex gk.1 dL_alike_162 (ug2 16 (by decide +kernel) rfl) (ug2 17 (by decide +kernel) rfl) miL_call hWo hWq (ctv_rd (C_3 hl hA hWq (x := x % 8) (y := x / 8 % 8) (w := x % 6) (by unfold rg; omega) (by unfold rg; omega) (by unfold rg; omega))) ⟨by decide, by decide⟩ ⟨Nat.le_of_ble_eq_true rfl, Nat.le_of_ble_eq_true rfl⟩ rfl rfl (Nat.le_of_ble_eq_true rfl) ?_
              intro Mq hWq
              refine a_icmp_ne (pc := 165) (tgt := 201) ok dL_alike_165 (by decide) (by first | exact rg_w _ | exact rg_tw (by unfold rg; omega) (by unfold rg; omega) | omega | (unfold rg; omega) | (simp only [rg] at *; omega) | exact bz_rg _ | grind [rg]) (by first | exact rg_w _ | exact rg_tw (by unfold rg; omega) (by unfold rg; omega) | omega | (unfold rg; omega) | (simp only [rg] at *; omega) | exact bz_rg _ | grind [rg]) (fun c165 => ?_) (fun c165 => ?_)
              · exact absurd rfl c165
              · refine a_aload_n (pc := 168) ok dL_alike_168 rfl ?_
                refine a_iconst (pc := 169) ok dL_alike_169 ?_
                refine a_iload_n (pc := 170) ok dL_alike_170 rfl ?_
                refine a_iconst (pc := 171) ok dL_alike_171 ?_
                refine a_irem (pc := 172) ok dL_alike_172 (by first | exact rg_w _ | exact rg_tw (by unfold rg; omega) (by unfold rg; omega) | omega | (unfold rg; omega) | (simp only [rg] at *; omega) | exact bz_rg _ | grind [rg]) (by first | exact rg_w _ | exact rg_tw (by unfold rg; omega) (by unfold rg; omega) | omega | (unfold rg; omega) | (simp only [rg] at *; omega) | exact bz_rg _ | grind [rg]) ?_
                refine a_iload_n (pc := 173) ok dL_alike_173 rfl ?_
                refine a_bipush (pc := 174) ok dL_alike_174 (by decide) ?_
                refine a_irem (pc := 176) ok dL_alike_176 (by first | exact rg_w _ | exact rg_tw (by unfold rg; omega) (by unfold rg; omega) | omega | (unfold rg; omega) | (simp only [rg] at *; omega) | exact bz_rg _ | grind [rg]) (by first | exact rg_w _ | exact rg_tw (by unfold rg; omega) (by unfold rg; omega) | omega | (unfold rg; omega) | (simp only [rg] at *; omega) | exact bz_rg _ | grind [rg]) ?_
                refine a_iconst (pc := 177) ok dL_alike_177 ?_
                refine v_oo (pc := 178) ok ex gk.1 dL_alike_178 (ug2 16 (by decide +kernel) rfl) (ug2 17 (by decide +kernel) rfl) miL_call hWo (ctv_rd (C_5 hl hA hWo (i := x % 3) (w := x % 9) (u3 := 0) (by unfold rg; omega) (by unfold rg; omega))) ⟨by decide, by decide⟩ ⟨Nat.le_of_ble_eq_true rfl, Nat.le_of_ble_eq_true rfl⟩ rfl rfl (Nat.le_of_ble_eq_true rfl) ?_
                intro Mo hWo
                refine a_aload_n (pc := 181) ok dL_alike_181 rfl ?_
                refine a_iconst (pc := 182) ok dL_alike_182 ?_
                refine a_iload_n (pc := 183) ok dL_alike_183 rfl ?_
                refine a_iconst (pc := 184) ok dL_alike_184 ?_
                refine a_irem (pc := 185) ok dL_alike_185 (by first | exact rg_w _ | exact rg_tw (by unfold rg; omega) (by unfold rg; omega) | omega | (unfold rg; omega) | (simp only [rg] at *; omega) | exact bz_rg _ | grind [rg]) (by first | exact rg_w _ | exact rg_tw (by unfold rg; omega) (by unfold rg; omega) | omega | (unfold rg; omega) | (simp only [rg] at *; omega) | exact bz_rg _ | grind [rg]) ?_
                refine a_iload_n (pc := 186) ok dL_alike_186 rfl ?_
                refine a_bipush (pc := 187) ok dL_alike_187 (by decide) ?_
                refine a_irem (pc := 189) ok dL_alike_189 (by first | exact rg_w _ | exact rg_tw (by unfold rg; omega) (by unfold rg; omega) | omega | (unfold rg; omega) | (simp only [rg] at *; omega) | exact bz_rg _ | grind [rg]) (by first | exact rg_w _ | exact rg_tw (by unfold rg; omega) (by unfold rg; omega) | omega | (unfold rg; omega) | (simp only [rg] at *; omega) | exact bz_rg _ | grind [rg]) ?_
                refine a_iconst (pc := 190) ok dL_alike_190 ?_
                refine v_qq (pc := 191) ok ex gk.1 dL_alike_191 (ug2 16 (by decide +kernel) rfl) (ug2 17 (by decide +kernel) rfl) miL_call hWo hWq (ctv_rd (C_5 hl hA hWq (i := x % 3) (w := x % 9) (u3 := 0) (by unfold rg; omega) (by unfold rg; omega))) ⟨by decide, by decide⟩ ⟨Nat.le_of_ble_eq_true rfl, Nat.le_of_ble_eq_true rfl⟩ rfl rfl (Nat.le_of_ble_eq_true rfl) ?_
                intro Mq hWq
                refine a_icmp_ne (pc := 194) (tgt := 201) ok dL_alike_194 (by decide) (by first | exact rg_w _ | exact rg_tw (by unfold rg; omega) (by unfold rg; omega) | omega | (unfold rg; omega) | (simp only [rg] at *; omega) | exact bz_rg _ | grind [rg]) (by first | exact rg_w _ | exact rg_tw (by unfold rg; omega) (by unfold rg; omega) | omega | (unfold rg; omega) | (simp only [rg] at *; omega) | exact bz_rg _ | grind [rg]) (fun c194 => ?_) (fun c194 => ?_)
                · exact absurd rfl c194
                · refine a_iconst (pc := 197) ok dL_alike_197 ?_
                  refine a_goto (pc := 198) (tgt := 202) ok dL_alike_198 (by decide) ?_
                  refine AW.widen (kc2 := rgL_alike.cells) (ks2 := rgL_alike.slots) (Nat.le_of_ble_eq_true rfl) (Nat.le_of_ble_eq_true rfl) ?_
                  exact a_zret (pc := 202) ok dL_alike_202 (by first | rfl | exact nb_bz _ | exact @nb_bz _ (Classical.propDecidable _) | decide | exact nb_01 (by assumption)) (⟨rfl, _, _, hWo, hWq, rfl⟩)
theorem H_leasts (hl : l.stackTraces = false) (hA : VA A) (hWo : WO A Mo) (hWq : WO A Mq) {v : Int} (hv : 1 ≤ v ∧ v ≤ 30) : CtV l yL_leasts cL_leasts 8 (some .boolean) rgL_leasts [.ref 0, .ref 103, iv v] (W2 103 Mo Mq) (po2 1 (jUndo (jAct A (setE (jS A) v))) (jUndo (jAct A (setE (jS A) v)))) := by
  obtain ⟨f1, f2, f3, f4, f5⟩ := VA_d hA
  have hc := hA.2.1
  have hA1 : VA (jAct A (setE (jS A) v)) := VA_act hA (SV_setE hA.1 hv)
  have hA2 : VA (jUndo (jAct A (setE (jS A) v))) := VA_undo hA1 (by show min (jC A + 1) 14 ≠ 0; omega)
  have eS : jS (jUndo (jAct A (setE (jS A) v))) = jS A := und_S hA.2.2.1 _
  have r1 : rg (mS (setE (jS A) v)) := isles_rg (S := setE (jS A) v) hA.1.1
  have r2 : rg (mS (jS (jAct A (setE (jS A) v)))) := isles_rg hA1.1.1
  have r3 : rg (mS (jS (jUndo (jAct A (setE (jS A) v))))) := isles_rg hA2.1.1
  have r4 : rg (sE (jS A)) := by unfold rg; omega
  have r5 : rg (sE (jS (jUndo (jAct A (setE (jS A) v))))) := by rw [eS]; exact r4
  refine CtV.of hl miL_leasts (Nat.le_of_ble_eq_true rfl) (po2_cl hWo hWq) ?_
  intro X hXl hN gk ex
  subst hXl
  have ok := gk.ok
  refine AW.cast (L2 := [some (.ref 0), some (.ref 103), some (iv v), none, none, none, none, none]) ?_ rfl rfl rfl
  refine a_aload_n (pc := 0) ok dL_leasts_0 rfl ?_
  refine a_iconst (pc := 1) ok dL_leasts_1 ?_
  refine a_iconst (pc := 2) ok dL_leasts_2 ?_
  refine a_iconst (pc := 3) ok dL_leasts_3 ?_
  refine a_iconst (pc := 4) ok dL_leasts_4 ?_
  refine v_oo (pc := 5) ok ex gk.1 dL_leasts_5 (ug2 16 (by decide +kernel) rfl) (ug2 17 (by decide +kernel) rfl) miL_call hWo (AB3 hl hA hWo (u2 := 0) (u3 := 0)) ⟨by decide, by decide⟩ ⟨Nat.le_of_ble_eq_true rfl, Nat.le_of_ble_eq_true rfl⟩ rfl rfl (Nat.le_of_ble_eq_true rfl) ?_
  intro Mo hWo
  refine a_istore_n (pc := 8) ok dL_leasts_8 rfl (by rw [hN]; decide) ?_
  refine a_aload_n (pc := 9) ok dL_leasts_9 rfl ?_
  refine a_bipush (pc := 10) ok dL_leasts_10 (by decide) ?_
  refine a_iload_n (pc := 12) ok dL_leasts_12 rfl ?_
  refine a_iconst (pc := 13) ok dL_leasts_13 ?_
  refine a_iconst (pc := 14) ok dL_leasts_14 ?_
  refine v_oo (pc := 15) ok ex gk.1 dL_leasts_15 (ug2 16 (by decide +kernel) rfl) (ug2 17 (by decide +kernel) rfl) miL_call hWo (ctv_eq (show w32 (aIfL (jS A) v 0) = mS (setE (jS A) v) from w_id r1) (ctv_ok (by unfold kIfL; rw [if_pos (by omega)]) (C_18 hl hA hWo (v := v) (w := 0) (u3 := 0) (by unfold rg; omega) (by unfold rg; omega)))) ⟨by decide, by decide⟩ ⟨Nat.le_of_ble_eq_true rfl, Nat.le_of_ble_eq_true rfl⟩ rfl rfl (Nat.le_of_ble_eq_true rfl) ?_
  intro Mo hWo
  refine a_istore (pc := 18) ok dL_leasts_18 rfl (by rw [hN]; decide) ?_
  refine a_aload_n (pc := 20) ok dL_leasts_20 rfl ?_
  refine a_bipush (pc := 21) ok dL_leasts_21 (by decide) ?_
  refine a_iload_n (pc := 23) ok dL_leasts_23 rfl ?_
  refine a_iconst (pc := 24) ok dL_leasts_24 ?_
  refine a_iconst (pc := 25) ok dL_leasts_25 ?_
  refine v_oo (pc := 26) ok ex gk.1 dL_leasts_26 (ug2 16 (by decide +kernel) rfl) (ug2 17 (by decide +kernel) rfl) miL_call hWo (ctv_ok (by unfold kIfL; rw [if_pos (by omega)]) (C_18 hl hA hWo (v := v) (w := 1) (u3 := 0) (by unfold rg; omega) (by unfold rg; omega))) ⟨by decide, by decide⟩ ⟨Nat.le_of_ble_eq_true rfl, Nat.le_of_ble_eq_true rfl⟩ rfl rfl (Nat.le_of_ble_eq_true rfl) ?_
  intro Mo hWo
  refine a_istore (pc := 29) ok dL_leasts_29 rfl (by rw [hN]; decide) ?_
  refine a_aload_n (pc := 31) ok dL_leasts_31 rfl ?_
  refine a_bipush (pc := 32) ok dL_leasts_32 (by decide) ?_
  refine a_iload_n (pc := 34) ok dL_leasts_34 rfl ?_
  refine a_iconst (pc := 35) ok dL_leasts_35 ?_
  refine a_iconst (pc := 36) ok dL_leasts_36 ?_
  refine v_oo (pc := 37) ok ex gk.1 dL_leasts_37 (ug2 16 (by decide +kernel) rfl) (ug2 17 (by decide +kernel) rfl) miL_call hWo (ctv_ok (by unfold kIfL; rw [if_pos (by omega)]) (C_18 hl hA hWo (v := v) (w := 2) (u3 := 0) (by unfold rg; omega) (by unfold rg; omega))) ⟨by decide, by decide⟩ ⟨Nat.le_of_ble_eq_true rfl, Nat.le_of_ble_eq_true rfl⟩ rfl rfl (Nat.le_of_ble_eq_true rfl) ?_
  intro Mo hWo
  refine a_istore (pc := 40) ok dL_leasts_40 rfl (by rw [hN]; decide) ?_
  refine a_aload_n (pc := 42) ok dL_leasts_42 rfl ?_
  refine a_bipush (pc := 43) ok dL_leasts_43 (by decide) ?_
  refine a_iload_n (pc := 45) ok dL_leasts_45 rfl ?_
  refine a_iconst (pc := 46) ok dL_leasts_46 ?_
  refine a_iconst (pc := 47) ok dL_leasts_47 ?_
  refine v_oo (pc := 48) ok ex gk.1 dL_leasts_48 (ug2 16 (by decide +kernel) rfl) (ug2 17 (by decide +kernel) rfl) miL_call hWo (ctv_eq (w_id r4) (ctv_ok (by unfold kIn; rw [if_pos (by omega)]) (C_13 hl hA hWo (v := v) (u2 := 0) (u3 := 0) (by unfold rg; omega)))) ⟨by decide, by decide⟩ ⟨Nat.le_of_ble_eq_true rfl, Nat.le_of_ble_eq_true rfl⟩ rfl rfl (Nat.le_of_ble_eq_true rfl) ?_
  intro Mo hWo
  refine a_iload_n (pc := 51) ok dL_leasts_51 rfl ?_
  refine a_icmp_ne (pc := 52) (tgt := 108) ok dL_leasts_52 (by decide) (by first | exact rg_w _ | exact rg_tw (by unfold rg; omega) (by unfold rg; omega) | omega | (unfold rg; omega) | (simp only [rg] at *; omega) | exact bz_rg _ | grind [rg]) (by first | exact rg_w _ | exact rg_tw (by unfold rg; omega) (by unfold rg; omega) | omega | (unfold rg; omega) | (simp only [rg] at *; omega) | exact bz_rg _ | grind [rg]) (fun c52 => ?_) (fun c52 => ?_)
  · exact absurd rfl c52
  · refine a_aload_n (pc := 55) ok dL_leasts_55 rfl ?_
    refine a_bipush (pc := 56) ok dL_leasts_56 (by decide) ?_
    refine a_iload_n (pc := 58) ok dL_leasts_58 rfl ?_
    refine a_iconst (pc := 59) ok dL_leasts_59 ?_
    refine a_iconst (pc := 60) ok dL_leasts_60 ?_
    refine v_qq (pc := 61) ok ex gk.1 dL_leasts_61 (ug2 16 (by decide +kernel) rfl) (ug2 17 (by decide +kernel) rfl) miL_call hWo hWq (ctv_eq (w_id r4) (ctv_ok (by unfold kIn; rw [if_pos (by omega)]) (C_13 hl hA hWq (v := v) (u2 := 0) (u3 := 0) (by unfold rg; omega)))) ⟨by decide, by decide⟩ ⟨Nat.le_of_ble_eq_true rfl, Nat.le_of_ble_eq_true rfl⟩ rfl rfl (Nat.le_of_ble_eq_true rfl) ?_
    intro Mq hWq
    refine a_iload_n (pc := 64) ok dL_leasts_64 rfl ?_
    refine a_icmp_ne (pc := 65) (tgt := 108) ok dL_leasts_65 (by decide) (by first | exact rg_w _ | exact rg_tw (by unfold rg; omega) (by unfold rg; omega) | omega | (unfold rg; omega) | (simp only [rg] at *; omega) | exact bz_rg _ | grind [rg]) (by first | exact rg_w _ | exact rg_tw (by unfold rg; omega) (by unfold rg; omega) | omega | (unfold rg; omega) | (simp only [rg] at *; omega) | exact bz_rg _ | grind [rg]) (fun c65 => ?_) (fun c65 => ?_)
    · exact absurd rfl c65
    · refine a_aload_n (pc := 68) ok dL_leasts_68 rfl ?_
      refine a_iconst (pc := 69) ok dL_leasts_69 ?_
      refine a_iconst (pc := 70) ok dL_leasts_70 ?_
      refine a_iconst (pc := 71) ok dL_leasts_71 ?_
      refine a_iconst (pc := 72) ok dL_leasts_72 ?_
      refine v_oo (pc := 73) ok ex gk.1 dL_leasts_73 (ug2 16 (by decide +kernel) rfl) (ug2 17 (by decide +kernel) rfl) miL_call hWo (AB4 hl hA1 hWo (u2 := 0) (u3 := 0)) ⟨by decide, by decide⟩ ⟨Nat.le_of_ble_eq_true rfl, Nat.le_of_ble_eq_true rfl⟩ rfl rfl (Nat.le_of_ble_eq_true rfl) ?_
      intro Mo hWo
      refine a_iload (pc := 76) ok dL_leasts_76 rfl ?_
      refine a_icmp_ne (pc := 78) (tgt := 108) ok dL_leasts_78 (by decide) (by first | exact rg_w _ | exact rg_tw (by unfold rg; omega) (by unfold rg; omega) | omega | (unfold rg; omega) | (simp only [rg] at *; omega) | exact bz_rg _ | grind [rg]) (by first | exact rg_w _ | exact rg_tw (by unfold rg; omega) (by unfold rg; omega) | omega | (unfold rg; omega) | (simp only [rg] at *; omega) | exact bz_rg _ | grind [rg]) (fun c78 => ?_) (fun c78 => ?_)
      · exact absurd rfl c78
      · refine a_aload_n (pc := 81) ok dL_leasts_81 rfl ?_
        refine a_iconst (pc := 82) ok dL_leasts_82 ?_
        refine a_bipush (pc := 83) ok dL_leasts_83 (by decide) ?_
        refine a_iconst (pc := 85) ok dL_leasts_85 ?_
        refine a_iconst (pc := 86) ok dL_leasts_86 ?_
        refine v_oo (pc := 87) ok ex gk.1 dL_leasts_87 (ug2 16 (by decide +kernel) rfl) (ug2 17 (by decide +kernel) rfl) miL_call hWo (ABg hl hA1 hWo (k := 6) (u2 := 0) (u3 := 0) (by omega)) ⟨by decide, by decide⟩ ⟨Nat.le_of_ble_eq_true rfl, Nat.le_of_ble_eq_true rfl⟩ rfl rfl (Nat.le_of_ble_eq_true rfl) ?_
        intro Mo hWo
        refine a_iload (pc := 90) ok dL_leasts_90 rfl ?_
        refine a_icmp_ne (pc := 92) (tgt := 108) ok dL_leasts_92 (by decide) (by first | exact rg_w _ | exact rg_tw (by unfold rg; omega) (by unfold rg; omega) | omega | (unfold rg; omega) | (simp only [rg] at *; omega) | exact bz_rg _ | grind [rg]) (by first | exact rg_w _ | exact rg_tw (by unfold rg; omega) (by unfold rg; omega) | omega | (unfold rg; omega) | (simp only [rg] at *; omega) | exact bz_rg _ | grind [rg]) (fun c92 => ?_) (fun c92 => ?_)
        · exact absurd rfl c92
        · refine a_aload_n (pc := 95) ok dL_leasts_95 rfl ?_
          refine c_oo (pc := 96) ok dL_leasts_96 mvL_223 miX6_ink rfl hWo (KN_ink hA1 hWo) ⟨by decide, by decide, rfl, rfl, Nat.le_of_ble_eq_true rfl, Nat.le_of_ble_eq_true rfl⟩ rfl rfl (Nat.le_of_ble_eq_true rfl) ?_
          intro Mo hWo
          refine a_iload (pc := 99) ok dL_leasts_99 rfl ?_
          refine a_icmp_ne (pc := 101) (tgt := 108) ok dL_leasts_101 (by decide) (by first | exact rg_w _ | exact rg_tw (by unfold rg; omega) (by unfold rg; omega) | omega | (unfold rg; omega) | (simp only [rg] at *; omega) | exact bz_rg _ | grind [rg]) (by first | exact rg_w _ | exact rg_tw (by unfold rg; omega) (by unfold rg; omega) | omega | (unfold rg; omega) | (simp only [rg] at *; omega) | exact bz_rg _ | grind [rg]) (fun c101 => ?_) (fun c101 => ?_)
          · exact absurd rfl c101
          · refine a_iconst (pc := 104) ok dL_leasts_104 ?_
            refine a_goto (pc := 105) (tgt := 109) ok dL_leasts_105 (by decide) ?_
            refine a_istore (pc := 109) ok dL_leasts_109 rfl (by rw [hN]; decide) ?_
            refine a_iload (pc := 111) ok dL_leasts_111 rfl ?_
            refine a_if_eq (pc := 113) (tgt := 180) ok dL_leasts_113 (by decide) (by first | exact rg_w _ | exact rg_tw (by unfold rg; omega) (by unfold rg; omega) | omega | (unfold rg; omega) | (simp only [rg] at *; omega) | exact bz_rg _ | grind [rg]) (fun c113 => ?_) (fun c113 => ?_)
            · exfalso; first | omega | grind
            · refine a_aload_n (pc := 116) ok dL_leasts_116 rfl ?_
              refine a_bipush (pc := 117) ok dL_leasts_117 (by decide) ?_
              refine a_iconst (pc := 119) ok dL_leasts_119 ?_
              refine a_iconst (pc := 120) ok dL_leasts_120 ?_
              refine a_iconst (pc := 121) ok dL_leasts_121 ?_
              refine v_oo (pc := 122) ok ex gk.1 dL_leasts_122 (ug2 16 (by decide +kernel) rfl) (ug2 17 (by decide +kernel) rfl) miL_call hWo (ctv_eq (show w32 (jC (jAct A (setE (jS A) v)) - 1) = (min (jC A + 1) 14 - 1) from w_id (by unfold rg; show -2147483648 ≤ (min (jC A + 1) 14 - 1) ∧ (min (jC A + 1) 14 - 1) < 2147483648; omega)) (ctv_ok (by unfold kUndo; rw [if_pos (by show min (jC A + 1) 14 ≠ 0; omega)]) (C_17 hl hA1 hWo (u1 := 0) (u2 := 0) (u3 := 0)))) ⟨by decide, by decide⟩ ⟨Nat.le_of_ble_eq_true rfl, Nat.le_of_ble_eq_true rfl⟩ rfl rfl (Nat.le_of_ble_eq_true rfl) ?_
              intro Mo hWo
              refine a_callSp (pc := 125) ok [] dL_leasts_125 mvL_261 miL_thrown (c_lthrown (v := (min (jC A + 1) 14 - 1)) (by unfold rg; omega) (by omega)) ⟨by decide, by decide, rfl, rfl, Nat.le_of_ble_eq_true rfl, Nat.le_of_ble_eq_true rfl⟩ rfl rfl (Nat.le_of_ble_eq_true rfl) rfl (by decide) ?_
              refine a_if_ne (pc := 128) (tgt := 180) ok dL_leasts_128 (by decide) (by first | exact rg_w _ | exact rg_tw (by unfold rg; omega) (by unfold rg; omega) | omega | (unfold rg; omega) | (simp only [rg] at *; omega) | exact bz_rg _ | grind [rg]) (fun c128 => ?_) (fun c128 => ?_)
              · exfalso; first | omega | grind
              · refine a_aload_n (pc := 131) ok dL_leasts_131 rfl ?_
                refine a_bipush (pc := 132) ok dL_leasts_132 (by decide) ?_
                refine a_iconst (pc := 134) ok dL_leasts_134 ?_
                refine a_iconst (pc := 135) ok dL_leasts_135 ?_
                refine a_iconst (pc := 136) ok dL_leasts_136 ?_
                refine v_qq (pc := 137) ok ex gk.1 dL_leasts_137 (ug2 16 (by decide +kernel) rfl) (ug2 17 (by decide +kernel) rfl) miL_call hWo hWq (ctv_eq (show w32 (jC (jAct A (setE (jS A) v)) - 1) = (min (jC A + 1) 14 - 1) from w_id (by unfold rg; show -2147483648 ≤ (min (jC A + 1) 14 - 1) ∧ (min (jC A + 1) 14 - 1) < 2147483648; omega)) (ctv_ok (by unfold kUndo; rw [if_pos (by show min (jC A + 1) 14 ≠ 0; omega)]) (C_17 hl hA1 hWq (u1 := 0) (u2 := 0) (u3 := 0)))) ⟨by decide, by decide⟩ ⟨Nat.le_of_ble_eq_true rfl, Nat.le_of_ble_eq_true rfl⟩ rfl rfl (Nat.le_of_ble_eq_true rfl) ?_
                intro Mq hWq
                refine a_callSp (pc := 140) ok [] dL_leasts_140 mvL_261 miL_thrown (c_lthrown (v := (min (jC A + 1) 14 - 1)) (by unfold rg; omega) (by omega)) ⟨by decide, by decide, rfl, rfl, Nat.le_of_ble_eq_true rfl, Nat.le_of_ble_eq_true rfl⟩ rfl rfl (Nat.le_of_ble_eq_true rfl) rfl (by decide) ?_
                refine a_if_ne (pc := 143) (tgt := 180) ok dL_leasts_143 (by decide) (by first | exact rg_w _ | exact rg_tw (by unfold rg; omega) (by unfold rg; omega) | omega | (unfold rg; omega) | (simp only [rg] at *; omega) | exact bz_rg _ | grind [rg]) (fun c143 => ?_) (fun c143 => ?_)
                · exfalso; first | omega | grind
                · refine a_aload_n (pc := 146) ok dL_leasts_146 rfl ?_
                  refine a_iconst (pc := 147) ok dL_leasts_147 ?_
                  refine a_iconst (pc := 148) ok dL_leasts_148 ?_
                  refine a_iconst (pc := 149) ok dL_leasts_149 ?_
                  refine a_iconst (pc := 150) ok dL_leasts_150 ?_
                  refine v_oo (pc := 151) ok ex gk.1 dL_leasts_151 (ug2 16 (by decide +kernel) rfl) (ug2 17 (by decide +kernel) rfl) miL_call hWo (AB3 hl hA2 hWo (u2 := 0) (u3 := 0)) ⟨by decide, by decide⟩ ⟨Nat.le_of_ble_eq_true rfl, Nat.le_of_ble_eq_true rfl⟩ rfl rfl (Nat.le_of_ble_eq_true rfl) ?_
                  intro Mo hWo
                  refine a_iload_n (pc := 154) ok dL_leasts_154 rfl ?_
                  refine a_icmp_ne (pc := 155) (tgt := 180) ok dL_leasts_155 (by decide) (by first | exact rg_w _ | exact rg_tw (by unfold rg; omega) (by unfold rg; omega) | omega | (unfold rg; omega) | (simp only [rg] at *; omega) | exact bz_rg _ | grind [rg]) (by first | exact rg_w _ | exact rg_tw (by unfold rg; omega) (by unfold rg; omega) | omega | (unfold rg; omega) | (simp only [rg] at *; omega) | exact bz_rg _ | grind [rg]) (fun c155 => ?_) (fun c155 => ?_)
                  · exact absurd (by rw [eS]) c155
                  · refine a_iload (pc := 158) ok dL_leasts_158 rfl ?_
                    refine a_aload_n (pc := 160) ok dL_leasts_160 rfl ?_
                    refine a_iconst (pc := 161) ok dL_leasts_161 ?_
                    refine a_iconst (pc := 162) ok dL_leasts_162 ?_
                    refine a_iconst (pc := 163) ok dL_leasts_163 ?_
                    refine a_iconst (pc := 164) ok dL_leasts_164 ?_
                    refine v_oo (pc := 165) ok ex gk.1 dL_leasts_165 (ug2 16 (by decide +kernel) rfl) (ug2 17 (by decide +kernel) rfl) miL_call hWo (AB4 hl hA2 hWo (u2 := 0) (u3 := 0)) ⟨by decide, by decide⟩ ⟨Nat.le_of_ble_eq_true rfl, Nat.le_of_ble_eq_true rfl⟩ rfl rfl (Nat.le_of_ble_eq_true rfl) ?_
                    intro Mo hWo
                    refine a_icmp_ge (pc := 168) (tgt := 176) ok dL_leasts_168 (by decide) (by first | exact rg_w _ | exact rg_tw (by unfold rg; omega) (by unfold rg; omega) | omega | (unfold rg; omega) | (simp only [rg] at *; omega) | exact bz_rg _ | grind [rg]) (by first | exact rg_w _ | exact rg_tw (by unfold rg; omega) (by unfold rg; omega) | omega | (unfold rg; omega) | (simp only [rg] at *; omega) | exact bz_rg _ | grind [rg]) (fun c168 => ?_) (fun c168 => ?_)
                    · refine a_iconst (pc := 176) ok dL_leasts_176 ?_
                      refine a_goto (pc := 177) (tgt := 181) ok dL_leasts_177 (by decide) ?_
                      refine AW.widen (kc2 := rgL_leasts.cells) (ks2 := rgL_leasts.slots) (Nat.le_of_ble_eq_true rfl) (Nat.le_of_ble_eq_true rfl) ?_
                      exact a_zret (pc := 181) ok dL_leasts_181 (by first | rfl | exact nb_bz _ | exact @nb_bz _ (Classical.propDecidable _) | decide | exact nb_01 (by assumption)) (⟨rfl, _, _, hWo, hWq, rfl⟩)
                    · refine a_iload_n (pc := 171) ok dL_leasts_171 rfl ?_
                      refine a_iload_n (pc := 172) ok dL_leasts_172 rfl ?_
                      refine a_icmp_le (pc := 173) (tgt := 180) ok dL_leasts_173 (by decide) (by first | exact rg_w _ | exact rg_tw (by unfold rg; omega) (by unfold rg; omega) | omega | (unfold rg; omega) | (simp only [rg] at *; omega) | exact bz_rg _ | grind [rg]) (by first | exact rg_w _ | exact rg_tw (by unfold rg; omega) (by unfold rg; omega) | omega | (unfold rg; omega) | (simp only [rg] at *; omega) | exact bz_rg _ | grind [rg]) (fun c173 => ?_) (fun c173 => ?_)
                      · exfalso; have := least_less hA.1 c173; rw [eS] at c168; omega
                      · refine a_iconst (pc := 176) ok dL_leasts_176 ?_
                        refine a_goto (pc := 177) (tgt := 181) ok dL_leasts_177 (by decide) ?_
                        refine AW.widen (kc2 := rgL_leasts.cells) (ks2 := rgL_leasts.slots) (Nat.le_of_ble_eq_true rfl) (Nat.le_of_ble_eq_true rfl) ?_
                        exact a_zret (pc := 181) ok dL_leasts_181 (by first | rfl | exact nb_bz _ | exact @nb_bz _ (Classical.propDecidable _) | decide | exact nb_01 (by assumption)) (⟨rfl, _, _, hWo, hWq, rfl⟩)
end TWO3
