/-! THE LAW: a cell with another grey. Printed by wip/p37/gen/mktwo.py. -/
abbrev rgL_paints : Room := { frames := 11, cells := 24, slots := 144, locals := 268 }
theorem miL_paints : MI yL_paints cL_paints 10 (some .boolean) 3 := ⟨ug5 80 (by exact rfl) rfl, by decide +kernel, by decide +kernel, ug1 0 (by decide +kernel) rfl⟩
theorem dL_paints_0 : decode cL_paints 0 = .ok (.iload_n 2, 1) := by decide +kernel
theorem dL_paints_1 : decode cL_paints 1 = .ok (.aload_n 0, 1) := by decide +kernel
theorem dL_paints_2 : decode cL_paints 2 = .ok (.iconst 2, 1) := by decide +kernel
theorem dL_paints_3 : decode cL_paints 3 = .ok (.iconst 0, 1) := by decide +kernel
theorem dL_paints_4 : decode cL_paints 4 = .ok (.iconst 0, 1) := by decide +kernel
theorem dL_paints_5 : decode cL_paints 5 = .ok (.iconst 0, 1) := by decide +kernel
theorem dL_paints_6 : decode cL_paints 6 = .ok (.invokestatic 191, 3) := by decide +kernel
theorem dL_paints_9 : decode cL_paints 9 = .ok (.irem, 1) := by decide +kernel
theorem dL_paints_10 : decode cL_paints 10 = .ok (.istore_n 3, 1) := by decide +kernel
theorem dL_paints_11 : decode cL_paints 11 = .ok (.iload_n 2, 1) := by decide +kernel
theorem dL_paints_12 : decode cL_paints 12 = .ok (.bipush 8, 2) := by decide +kernel
theorem dL_paints_14 : decode cL_paints 14 = .ok (.idiv, 1) := by decide +kernel
theorem dL_paints_15 : decode cL_paints 15 = .ok (.aload_n 0, 1) := by decide +kernel
theorem dL_paints_16 : decode cL_paints 16 = .ok (.iconst 2, 1) := by decide +kernel
theorem dL_paints_17 : decode cL_paints 17 = .ok (.iconst 1, 1) := by decide +kernel
theorem dL_paints_18 : decode cL_paints 18 = .ok (.iconst 0, 1) := by decide +kernel
theorem dL_paints_19 : decode cL_paints 19 = .ok (.iconst 0, 1) := by decide +kernel
theorem dL_paints_20 : decode cL_paints 20 = .ok (.invokestatic 191, 3) := by decide +kernel
theorem dL_paints_23 : decode cL_paints 23 = .ok (.irem, 1) := by decide +kernel
theorem dL_paints_24 : decode cL_paints 24 = .ok (.istore 4, 2) := by decide +kernel
theorem dL_paints_26 : decode cL_paints 26 = .ok (.iload_n 2, 1) := by decide +kernel
theorem dL_paints_27 : decode cL_paints 27 = .ok (.bipush 64, 2) := by decide +kernel
theorem dL_paints_29 : decode cL_paints 29 = .ok (.idiv, 1) := by decide +kernel
theorem dL_paints_30 : decode cL_paints 30 = .ok (.bipush 100, 2) := by decide +kernel
theorem dL_paints_32 : decode cL_paints 32 = .ok (.irem, 1) := by decide +kernel
theorem dL_paints_33 : decode cL_paints 33 = .ok (.istore 5, 2) := by decide +kernel
theorem dL_paints_35 : decode cL_paints 35 = .ok (.aload_n 0, 1) := by decide +kernel
theorem dL_paints_36 : decode cL_paints 36 = .ok (.iload_n 3, 1) := by decide +kernel
theorem dL_paints_37 : decode cL_paints 37 = .ok (.iload 4, 2) := by decide +kernel
theorem dL_paints_39 : decode cL_paints 39 = .ok (.iload 5, 2) := by decide +kernel
theorem dL_paints_41 : decode cL_paints 41 = .ok (.iconst 0, 1) := by decide +kernel
theorem dL_paints_42 : decode cL_paints 42 = .ok (.invokestatic 207, 3) := by decide +kernel
theorem dL_paints_45 : decode cL_paints 45 = .ok (.istore 6, 2) := by decide +kernel
theorem dL_paints_47 : decode cL_paints 47 = .ok (.aload_n 0, 1) := by decide +kernel
theorem dL_paints_48 : decode cL_paints 48 = .ok (.iload_n 3, 1) := by decide +kernel
theorem dL_paints_49 : decode cL_paints 49 = .ok (.iload 4, 2) := by decide +kernel
theorem dL_paints_51 : decode cL_paints 51 = .ok (.iload 5, 2) := by decide +kernel
theorem dL_paints_53 : decode cL_paints 53 = .ok (.iconst 1, 1) := by decide +kernel
theorem dL_paints_54 : decode cL_paints 54 = .ok (.invokestatic 207, 3) := by decide +kernel
theorem dL_paints_57 : decode cL_paints 57 = .ok (.istore 7, 2) := by decide +kernel
theorem dL_paints_59 : decode cL_paints 59 = .ok (.aload_n 0, 1) := by decide +kernel
theorem dL_paints_60 : decode cL_paints 60 = .ok (.bipush 11, 2) := by decide +kernel
theorem dL_paints_62 : decode cL_paints 62 = .ok (.iload_n 3, 1) := by decide +kernel
theorem dL_paints_63 : decode cL_paints 63 = .ok (.iload 4, 2) := by decide +kernel
theorem dL_paints_65 : decode cL_paints 65 = .ok (.iload 5, 2) := by decide +kernel
theorem dL_paints_67 : decode cL_paints 67 = .ok (.invokestatic 191, 3) := by decide +kernel
theorem dL_paints_70 : decode cL_paints 70 = .ok (.istore 8, 2) := by decide +kernel
theorem dL_paints_72 : decode cL_paints 72 = .ok (.aload_n 1, 1) := by decide +kernel
theorem dL_paints_73 : decode cL_paints 73 = .ok (.bipush 11, 2) := by decide +kernel
theorem dL_paints_75 : decode cL_paints 75 = .ok (.iload_n 3, 1) := by decide +kernel
theorem dL_paints_76 : decode cL_paints 76 = .ok (.iload 4, 2) := by decide +kernel
theorem dL_paints_78 : decode cL_paints 78 = .ok (.iload 5, 2) := by decide +kernel
theorem dL_paints_80 : decode cL_paints 80 = .ok (.invokestatic 191, 3) := by decide +kernel
theorem dL_paints_83 : decode cL_paints 83 = .ok (.iload 8, 2) := by decide +kernel
theorem dL_paints_85 : decode cL_paints 85 = .ok (.if_icmp .ne 75, 3) := by decide +kernel
theorem dL_paints_88 : decode cL_paints 88 = .ok (.aload_n 0, 1) := by decide +kernel
theorem dL_paints_89 : decode cL_paints 89 = .ok (.iconst 5, 1) := by decide +kernel
theorem dL_paints_90 : decode cL_paints 90 = .ok (.aload_n 0, 1) := by decide +kernel
theorem dL_paints_91 : decode cL_paints 91 = .ok (.iconst 3, 1) := by decide +kernel
theorem dL_paints_92 : decode cL_paints 92 = .ok (.iload_n 3, 1) := by decide +kernel
theorem dL_paints_93 : decode cL_paints 93 = .ok (.iload 4, 2) := by decide +kernel
theorem dL_paints_95 : decode cL_paints 95 = .ok (.iconst 3, 1) := by decide +kernel
theorem dL_paints_96 : decode cL_paints 96 = .ok (.invokestatic 191, 3) := by decide +kernel
theorem dL_paints_99 : decode cL_paints 99 = .ok (.iconst 1, 1) := by decide +kernel
theorem dL_paints_100 : decode cL_paints 100 = .ok (.iconst 0, 1) := by decide +kernel
theorem dL_paints_101 : decode cL_paints 101 = .ok (.invokestatic 191, 3) := by decide +kernel
theorem dL_paints_104 : decode cL_paints 104 = .ok (.iload 6, 2) := by decide +kernel
theorem dL_paints_106 : decode cL_paints 106 = .ok (.if_icmp .ne 54, 3) := by decide +kernel
theorem dL_paints_109 : decode cL_paints 109 = .ok (.aload_n 0, 1) := by decide +kernel
theorem dL_paints_110 : decode cL_paints 110 = .ok (.iconst 2, 1) := by decide +kernel
theorem dL_paints_111 : decode cL_paints 111 = .ok (.iconst 4, 1) := by decide +kernel
theorem dL_paints_112 : decode cL_paints 112 = .ok (.iconst 0, 1) := by decide +kernel
theorem dL_paints_113 : decode cL_paints 113 = .ok (.iconst 0, 1) := by decide +kernel
theorem dL_paints_114 : decode cL_paints 114 = .ok (.invokestatic 191, 3) := by decide +kernel
theorem dL_paints_117 : decode cL_paints 117 = .ok (.iload 7, 2) := by decide +kernel
theorem dL_paints_119 : decode cL_paints 119 = .ok (.if_icmp .ne 41, 3) := by decide +kernel
theorem dL_paints_122 : decode cL_paints 122 = .ok (.aload_n 0, 1) := by decide +kernel
theorem dL_paints_123 : decode cL_paints 123 = .ok (.iconst 3, 1) := by decide +kernel
theorem dL_paints_124 : decode cL_paints 124 = .ok (.iload_n 3, 1) := by decide +kernel
theorem dL_paints_125 : decode cL_paints 125 = .ok (.iload 4, 2) := by decide +kernel
theorem dL_paints_127 : decode cL_paints 127 = .ok (.iconst 0, 1) := by decide +kernel
theorem dL_paints_128 : decode cL_paints 128 = .ok (.invokestatic 191, 3) := by decide +kernel
theorem dL_paints_131 : decode cL_paints 131 = .ok (.iload 5, 2) := by decide +kernel
theorem dL_paints_133 : decode cL_paints 133 = .ok (.if_icmp .ne 27, 3) := by decide +kernel
theorem dL_paints_136 : decode cL_paints 136 = .ok (.iload 8, 2) := by decide +kernel
theorem dL_paints_138 : decode cL_paints 138 = .ok (.iload 5, 2) := by decide +kernel
theorem dL_paints_140 : decode cL_paints 140 = .ok (.if_icmp .ne 16, 3) := by decide +kernel
theorem dL_paints_143 : decode cL_paints 143 = .ok (.aload_n 0, 1) := by decide +kernel
theorem dL_paints_144 : decode cL_paints 144 = .ok (.iload_n 3, 1) := by decide +kernel
theorem dL_paints_145 : decode cL_paints 145 = .ok (.iload 4, 2) := by decide +kernel
theorem dL_paints_147 : decode cL_paints 147 = .ok (.iload 5, 2) := by decide +kernel
theorem dL_paints_149 : decode cL_paints 149 = .ok (.iconst 2, 1) := by decide +kernel
theorem dL_paints_150 : decode cL_paints 150 = .ok (.invokestatic 207, 3) := by decide +kernel
theorem dL_paints_153 : decode cL_paints 153 = .ok (.ifCond .ne 7, 3) := by decide +kernel
theorem dL_paints_156 : decode cL_paints 156 = .ok (.iconst 1, 1) := by decide +kernel
theorem dL_paints_157 : decode cL_paints 157 = .ok (.goto 4, 3) := by decide +kernel
theorem dL_paints_160 : decode cL_paints 160 = .ok (.iconst 0, 1) := by decide +kernel
theorem dL_paints_161 : decode cL_paints 161 = .ok (.istore 9, 2) := by decide +kernel
theorem dL_paints_163 : decode cL_paints 163 = .ok (.iload 9, 2) := by decide +kernel
theorem dL_paints_165 : decode cL_paints 165 = .ok (.ifCond .eq 51, 3) := by decide +kernel
theorem dL_paints_168 : decode cL_paints 168 = .ok (.aload_n 0, 1) := by decide +kernel
theorem dL_paints_169 : decode cL_paints 169 = .ok (.bipush 17, 2) := by decide +kernel
theorem dL_paints_171 : decode cL_paints 171 = .ok (.iconst 0, 1) := by decide +kernel
theorem dL_paints_172 : decode cL_paints 172 = .ok (.iconst 0, 1) := by decide +kernel
theorem dL_paints_173 : decode cL_paints 173 = .ok (.iconst 0, 1) := by decide +kernel
theorem dL_paints_174 : decode cL_paints 174 = .ok (.invokestatic 191, 3) := by decide +kernel
theorem dL_paints_177 : decode cL_paints 177 = .ok (.invokestatic 261, 3) := by decide +kernel
theorem dL_paints_180 : decode cL_paints 180 = .ok (.ifCond .ne 36, 3) := by decide +kernel
theorem dL_paints_183 : decode cL_paints 183 = .ok (.aload_n 1, 1) := by decide +kernel
theorem dL_paints_184 : decode cL_paints 184 = .ok (.bipush 17, 2) := by decide +kernel
theorem dL_paints_186 : decode cL_paints 186 = .ok (.iconst 0, 1) := by decide +kernel
theorem dL_paints_187 : decode cL_paints 187 = .ok (.iconst 0, 1) := by decide +kernel
theorem dL_paints_188 : decode cL_paints 188 = .ok (.iconst 0, 1) := by decide +kernel
theorem dL_paints_189 : decode cL_paints 189 = .ok (.invokestatic 191, 3) := by decide +kernel
theorem dL_paints_192 : decode cL_paints 192 = .ok (.invokestatic 261, 3) := by decide +kernel
theorem dL_paints_195 : decode cL_paints 195 = .ok (.ifCond .ne 21, 3) := by decide +kernel
theorem dL_paints_198 : decode cL_paints 198 = .ok (.aload_n 0, 1) := by decide +kernel
theorem dL_paints_199 : decode cL_paints 199 = .ok (.iconst 3, 1) := by decide +kernel
theorem dL_paints_200 : decode cL_paints 200 = .ok (.iload_n 3, 1) := by decide +kernel
theorem dL_paints_201 : decode cL_paints 201 = .ok (.iload 4, 2) := by decide +kernel
theorem dL_paints_203 : decode cL_paints 203 = .ok (.iconst 0, 1) := by decide +kernel
theorem dL_paints_204 : decode cL_paints 204 = .ok (.invokestatic 191, 3) := by decide +kernel
theorem dL_paints_207 : decode cL_paints 207 = .ok (.iload 8, 2) := by decide +kernel
theorem dL_paints_209 : decode cL_paints 209 = .ok (.if_icmp .ne 7, 3) := by decide +kernel
theorem dL_paints_212 : decode cL_paints 212 = .ok (.iconst 1, 1) := by decide +kernel
theorem dL_paints_213 : decode cL_paints 213 = .ok (.goto 4, 3) := by decide +kernel
theorem dL_paints_216 : decode cL_paints 216 = .ok (.iconst 0, 1) := by decide +kernel
theorem dL_paints_217 : decode cL_paints 217 = .ok (.ireturn, 1) := by decide +kernel
section TWO4
variable {l : Launch} {A : Ob} {Mo Mq : List va_E}
theorem H_paints (hl : l.stackTraces = false) (hA : VA A) (hWo : WO A Mo) (hWq : WO A Mq) {x : Int} (hx : 0 ≤ x ∧ x < 2147483648) : CtV l yL_paints cL_paints 10 (some .boolean) rgL_paints [.ref 0, .ref 103, iv x] (W2 103 Mo Mq) (po2 1 (jUndo (jAct A (gP (jS A) (x % sC (jS A)) (x / 8 % sR (jS A)) (x / 64 % 100)))) (jUndo (jAct A (gP (jS A) (x % sC (jS A)) (x / 8 % sR (jS A)) (x / 64 % 100))))) := by
  obtain ⟨f1, f2, f3, f4, f5⟩ := VA_d hA
  have hc := hA.2.1
  have g1 : 0 ≤ (x % sC (jS A)) ∧ (x % sC (jS A)) < sC (jS A) := ⟨Int.emod_nonneg _ (by omega), Int.emod_lt_of_pos _ (by omega)⟩
  have g2 : 0 ≤ (x / 8 % sR (jS A)) ∧ (x / 8 % sR (jS A)) < sR (jS A) := ⟨Int.emod_nonneg _ (by omega), Int.emod_lt_of_pos _ (by omega)⟩
  have hA1 : VA (jAct A (gP (jS A) (x % sC (jS A)) (x / 8 % sR (jS A)) (x / 64 % 100))) := VA_act hA (SV_gP hA.1 (by omega))
  have hA2 : VA (jUndo (jAct A (gP (jS A) (x % sC (jS A)) (x / 8 % sR (jS A)) (x / 64 % 100)))) := VA_undo hA1 (by show min (jC A + 1) 14 ≠ 0; omega)
  have eS : jS (jUndo (jAct A (gP (jS A) (x % sC (jS A)) (x / 8 % sR (jS A)) (x / 64 % 100)))) = jS A := und_S hA.2.2.1 _
  have dC : sC (jS (jAct A (gP (jS A) (x % sC (jS A)) (x / 8 % sR (jS A)) (x / 64 % 100)))) = sC (jS A) := rfl
  have dR : sR (jS (jAct A (gP (jS A) (x % sC (jS A)) (x / 8 % sR (jS A)) (x / 64 % 100)))) = sR (jS A) := rfl
  have hci := cell_isle (S := jS (jAct A (gP (jS A) (x % sC (jS A)) (x / 8 % sR (jS A)) (x / 64 % 100)))) hA1.1.1 (x := (x % sC (jS A))) (y := (x / 8 % sR (jS A))) (by rw [dC]; exact g1) (by rw [dR]; exact g2)
  have hm1 := mS_rg (S := jS (jAct A (gP (jS A) (x % sC (jS A)) (x / 8 % sR (jS A)) (x / 64 % 100)))) hA1.1.1
  have r1 : rg (aCell (jS (jAct A (gP (jS A) (x % sC (jS A)) (x / 8 % sR (jS A)) (x / 64 % 100)))) (x % sC (jS A)) (x / 8 % sR (jS A)) 3) := by unfold rg; omega
  have hw := hA.1.2.1 ((x / 8 % sR (jS A)) * sC (jS A) + (x % sC (jS A)))
  have r2 : rg (sG (jS A) ((x / 8 % sR (jS A)) * sC (jS A) + (x % sC (jS A)))) := by unfold rg; omega
  have e1 : aCell (jS (jAct A (gP (jS A) (x % sC (jS A)) (x / 8 % sR (jS A)) (x / 64 % 100)))) (x % sC (jS A)) (x / 8 % sR (jS A)) 0 = (x / 64 % 100) := by show up (sG (jS A)) ((x / 8 % sR (jS A)) * sC (jS A) + (x % sC (jS A))) (x / 64 % 100) ((x / 8 % sR (jS A)) * sC (jS A) + (x % sC (jS A))) = (x / 64 % 100); exact up_at
  have e2 : aCell (jS (jUndo (jAct A (gP (jS A) (x % sC (jS A)) (x / 8 % sR (jS A)) (x / 64 % 100))))) (x % sC (jS A)) (x / 8 % sR (jS A)) 0 = (sG (jS A) ((x / 8 % sR (jS A)) * sC (jS A) + (x % sC (jS A)))) := by rw [eS]; rfl
  have dC2 : sC (jS (jUndo (jAct A (gP (jS A) (x % sC (jS A)) (x / 8 % sR (jS A)) (x / 64 % 100))))) = sC (jS A) := by rw [eS]
  have dR2 : sR (jS (jUndo (jAct A (gP (jS A) (x % sC (jS A)) (x / 8 % sR (jS A)) (x / 64 % 100))))) = sR (jS A) := by rw [eS]
  refine CtV.of hl miL_paints (Nat.le_of_ble_eq_true rfl) (po2_cl hWo hWq) ?_
  intro X hXl hN gk ex
  subst hXl
  have ok := gk.ok
  refine AW.cast (L2 := [some (.ref 0), some (.ref 103), some (iv x), none, none, none, none, none, none, none]) ?_ rfl rfl rfl
  refine a_iload_n (pc := 0) ok dL_paints_0 rfl ?_
  refine a_aload_n (pc := 1) ok dL_paints_1 rfl ?_
  refine a_iconst (pc := 2) ok dL_paints_2 ?_
  refine a_iconst (pc := 3) ok dL_paints_3 ?_
  refine a_iconst (pc := 4) ok dL_paints_4 ?_
  refine a_iconst (pc := 5) ok dL_paints_5 ?_
  refine v_oo (pc := 6) ok ex gk.1 dL_paints_6 (ug2 16 (by decide +kernel) rfl) (ug2 17 (by decide +kernel) rfl) miL_call hWo (AB0 hl hA hWo (u2 := 0) (u3 := 0)) ⟨by decide, by decide⟩ ⟨Nat.le_of_ble_eq_true rfl, Nat.le_of_ble_eq_true rfl⟩ rfl rfl (Nat.le_of_ble_eq_true rfl) ?_
  intro Mo hWo
  refine a_irem (pc := 9) ok dL_paints_9 (by first | exact rg_w _ | exact rg_tw (by unfold rg; omega) (by unfold rg; omega) | omega | (unfold rg; omega) | (simp only [rg] at *; omega) | exact bz_rg _ | grind [rg]) (by first | exact rg_w _ | exact rg_tw (by unfold rg; omega) (by unfold rg; omega) | omega | (unfold rg; omega) | (simp only [rg] at *; omega) | exact bz_rg _ | grind [rg]) ?_
  refine a_istore_n (pc := 10) ok dL_paints_10 rfl (by rw [hN]; decide) ?_
  refine a_iload_n (pc := 11) ok dL_paints_11 rfl ?_
  refine a_bipush (pc := 12) ok dL_paints_12 (by decide) ?_
  refine a_idiv (pc := 14) ok dL_paints_14 (by first | exact rg_w _ | exact rg_tw (by unfold rg; omega) (by unfold rg; omega) | omega | (unfold rg; omega) | (simp only [rg] at *; omega) | exact bz_rg _ | grind [rg]) (by first | exact rg_w _ | exact rg_tw (by unfold rg; omega) (by unfold rg; omega) | omega | (unfold rg; omega) | (simp only [rg] at *; omega) | exact bz_rg _ | grind [rg]) ?_
  refine a_aload_n (pc := 15) ok dL_paints_15 rfl ?_
  refine a_iconst (pc := 16) ok dL_paints_16 ?_
  refine a_iconst (pc := 17) ok dL_paints_17 ?_
  refine a_iconst (pc := 18) ok dL_paints_18 ?_
  refine a_iconst (pc := 19) ok dL_paints_19 ?_
  refine v_oo (pc := 20) ok ex gk.1 dL_paints_20 (ug2 16 (by decide +kernel) rfl) (ug2 17 (by decide +kernel) rfl) miL_call hWo (AB1 hl hA hWo (u2 := 0) (u3 := 0)) ⟨by decide, by decide⟩ ⟨Nat.le_of_ble_eq_true rfl, Nat.le_of_ble_eq_true rfl⟩ rfl rfl (Nat.le_of_ble_eq_true rfl) ?_
  intro Mo hWo
  refine a_irem (pc := 23) ok dL_paints_23 (by first | exact rg_w _ | exact rg_tw (by unfold rg; omega) (by unfold rg; omega) | omega | (unfold rg; omega) | (simp only [rg] at *; omega) | exact bz_rg _ | grind [rg]) (by first | exact rg_w _ | exact rg_tw (by unfold rg; omega) (by unfold rg; omega) | omega | (unfold rg; omega) | (simp only [rg] at *; omega) | exact bz_rg _ | grind [rg]) ?_
  refine a_istore (pc := 24) ok dL_paints_24 rfl (by rw [hN]; decide) ?_
  refine a_iload_n (pc := 26) ok dL_paints_26 rfl ?_
  refine a_bipush (pc := 27) ok dL_paints_27 (by decide) ?_
  refine a_idiv (pc := 29) ok dL_paints_29 (by first | exact rg_w _ | exact rg_tw (by unfold rg; omega) (by unfold rg; omega) | omega | (unfold rg; omega) | (simp only [rg] at *; omega) | exact bz_rg _ | grind [rg]) (by first | exact rg_w _ | exact rg_tw (by unfold rg; omega) (by unfold rg; omega) | omega | (unfold rg; omega) | (simp only [rg] at *; omega) | exact bz_rg _ | grind [rg]) ?_
  refine a_bipush (pc := 30) ok dL_paints_30 (by decide) ?_
  refine a_irem (pc := 32) ok dL_paints_32 (by first | exact rg_w _ | exact rg_tw (by unfold rg; omega) (by unfold rg; omega) | omega | (unfold rg; omega) | (simp only [rg] at *; omega) | exact bz_rg _ | grind [rg]) (by first | exact rg_w _ | exact rg_tw (by unfold rg; omega) (by unfold rg; omega) | omega | (unfold rg; omega) | (simp only [rg] at *; omega) | exact bz_rg _ | grind [rg]) ?_
  refine a_istore (pc := 33) ok dL_paints_33 rfl (by rw [hN]; decide) ?_
  refine a_aload_n (pc := 35) ok dL_paints_35 rfl ?_
  refine a_iload_n (pc := 36) ok dL_paints_36 rfl ?_
  refine a_iload (pc := 37) ok dL_paints_37 rfl ?_
  refine a_iload (pc := 39) ok dL_paints_39 rfl ?_
  refine a_iconst (pc := 41) ok dL_paints_41 ?_
  refine w_oo (pc := 42) ok ex dL_paints_42 (ug5 3 (by decide +kernel) rfl) (ug5 4 (by decide +kernel) rfl) miL_would hWo (ctw_ok (by unfold kIfC; (repeat' split) <;> omega) (T_would hl hA hWo (x := (x % sC (jS A))) (y := (x / 8 % sR (jS A))) (g := (x / 64 % 100)) (w := 0) (by unfold rg; omega) (by unfold rg; omega) (by unfold rg; omega) (by unfold rg; omega))) ⟨by decide, by decide, rfl, rfl⟩ ⟨Nat.le_of_ble_eq_true rfl, Nat.le_of_ble_eq_true rfl⟩ rfl rfl (Nat.le_of_ble_eq_true rfl) ?_
  intro Mo hWo
  refine a_istore (pc := 45) ok dL_paints_45 rfl (by rw [hN]; decide) ?_
  refine a_aload_n (pc := 47) ok dL_paints_47 rfl ?_
  refine a_iload_n (pc := 48) ok dL_paints_48 rfl ?_
  refine a_iload (pc := 49) ok dL_paints_49 rfl ?_
  refine a_iload (pc := 51) ok dL_paints_51 rfl ?_
  refine a_iconst (pc := 53) ok dL_paints_53 ?_
  refine w_oo (pc := 54) ok ex dL_paints_54 (ug5 3 (by decide +kernel) rfl) (ug5 4 (by decide +kernel) rfl) miL_would hWo (ctw_ok (by unfold kIfC; (repeat' split) <;> omega) (T_would hl hA hWo (x := (x % sC (jS A))) (y := (x / 8 % sR (jS A))) (g := (x / 64 % 100)) (w := 1) (by unfold rg; omega) (by unfold rg; omega) (by unfold rg; omega) (by unfold rg; omega))) ⟨by decide, by decide, rfl, rfl⟩ ⟨Nat.le_of_ble_eq_true rfl, Nat.le_of_ble_eq_true rfl⟩ rfl rfl (Nat.le_of_ble_eq_true rfl) ?_
  intro Mo hWo
  refine a_istore (pc := 57) ok dL_paints_57 rfl (by rw [hN]; decide) ?_
  refine a_aload_n (pc := 59) ok dL_paints_59 rfl ?_
  refine a_bipush (pc := 60) ok dL_paints_60 (by decide) ?_
  refine a_iload_n (pc := 62) ok dL_paints_62 rfl ?_
  refine a_iload (pc := 63) ok dL_paints_63 rfl ?_
  refine a_iload (pc := 65) ok dL_paints_65 rfl ?_
  refine v_oo (pc := 67) ok ex gk.1 dL_paints_67 (ug2 16 (by decide +kernel) rfl) (ug2 17 (by decide +kernel) rfl) miL_call hWo (ctv_eq (w_id r2) (ctv_ok (by unfold kPut; (repeat' split) <;> omega) (C_11 hl hA hWo (x := (x % sC (jS A))) (y := (x / 8 % sR (jS A))) (g := (x / 64 % 100)) (by unfold rg; omega) (by unfold rg; omega) (by unfold rg; omega)))) ⟨by decide, by decide⟩ ⟨Nat.le_of_ble_eq_true rfl, Nat.le_of_ble_eq_true rfl⟩ rfl rfl (Nat.le_of_ble_eq_true rfl) ?_
  intro Mo hWo
  refine a_istore (pc := 70) ok dL_paints_70 rfl (by rw [hN]; decide) ?_
  refine a_aload_n (pc := 72) ok dL_paints_72 rfl ?_
  refine a_bipush (pc := 73) ok dL_paints_73 (by decide) ?_
  refine a_iload_n (pc := 75) ok dL_paints_75 rfl ?_
  refine a_iload (pc := 76) ok dL_paints_76 rfl ?_
  refine a_iload (pc := 78) ok dL_paints_78 rfl ?_
  refine v_qq (pc := 80) ok ex gk.1 dL_paints_80 (ug2 16 (by decide +kernel) rfl) (ug2 17 (by decide +kernel) rfl) miL_call hWo hWq (ctv_eq (w_id r2) (ctv_ok (by unfold kPut; (repeat' split) <;> omega) (C_11 hl hA hWq (x := (x % sC (jS A))) (y := (x / 8 % sR (jS A))) (g := (x / 64 % 100)) (by unfold rg; omega) (by unfold rg; omega) (by unfold rg; omega)))) ⟨by decide, by decide⟩ ⟨Nat.le_of_ble_eq_true rfl, Nat.le_of_ble_eq_true rfl⟩ rfl rfl (Nat.le_of_ble_eq_true rfl) ?_
  intro Mq hWq
  refine a_iload (pc := 83) ok dL_paints_83 rfl ?_
  refine a_icmp_ne (pc := 85) (tgt := 160) ok dL_paints_85 (by decide) (by first | exact rg_w _ | exact rg_tw (by unfold rg; omega) (by unfold rg; omega) | omega | (unfold rg; omega) | (simp only [rg] at *; omega) | exact bz_rg _ | grind [rg]) (by first | exact rg_w _ | exact rg_tw (by unfold rg; omega) (by unfold rg; omega) | omega | (unfold rg; omega) | (simp only [rg] at *; omega) | exact bz_rg _ | grind [rg]) (fun c85 => ?_) (fun c85 => ?_)
  · exact absurd rfl c85
  · refine a_aload_n (pc := 88) ok dL_paints_88 rfl ?_
    refine a_iconst (pc := 89) ok dL_paints_89 ?_
    refine a_aload_n (pc := 90) ok dL_paints_90 rfl ?_
    refine a_iconst (pc := 91) ok dL_paints_91 ?_
    refine a_iload_n (pc := 92) ok dL_paints_92 rfl ?_
    refine a_iload (pc := 93) ok dL_paints_93 rfl ?_
    refine a_iconst (pc := 95) ok dL_paints_95 ?_
    refine v_oo (pc := 96) ok ex gk.1 dL_paints_96 (ug2 16 (by decide +kernel) rfl) (ug2 17 (by decide +kernel) rfl) miL_call hWo (ctv_eq (w_id r1) (ctv_ok (by unfold kCell; (repeat' split) <;> omega) (C_3 hl hA1 hWo (x := (x % sC (jS A))) (y := (x / 8 % sR (jS A))) (w := 3) (by unfold rg; omega) (by unfold rg; omega) (by unfold rg; omega)))) ⟨by decide, by decide⟩ ⟨Nat.le_of_ble_eq_true rfl, Nat.le_of_ble_eq_true rfl⟩ rfl rfl (Nat.le_of_ble_eq_true rfl) ?_
    intro Mo hWo
    refine a_iconst (pc := 99) ok dL_paints_99 ?_
    refine a_iconst (pc := 100) ok dL_paints_100 ?_
    refine v_oo (pc := 101) ok ex gk.1 dL_paints_101 (ug2 16 (by decide +kernel) rfl) (ug2 17 (by decide +kernel) rfl) miL_call hWo (ctv_ok (by unfold kIsle; (repeat' split) <;> omega) (C_5 hl hA1 hWo (i := aCell (jS (jAct A (gP (jS A) (x % sC (jS A)) (x / 8 % sR (jS A)) (x / 64 % 100)))) (x % sC (jS A)) (x / 8 % sR (jS A)) 3) (w := 1) (u3 := 0) r1 (by unfold rg; omega))) ⟨by decide, by decide⟩ ⟨Nat.le_of_ble_eq_true rfl, Nat.le_of_ble_eq_true rfl⟩ rfl rfl (Nat.le_of_ble_eq_true rfl) ?_
    intro Mo hWo
    refine a_iload (pc := 104) ok dL_paints_104 rfl ?_
    refine a_icmp_ne (pc := 106) (tgt := 160) ok dL_paints_106 (by decide) (by first | exact rg_w _ | exact rg_tw (by unfold rg; omega) (by unfold rg; omega) | omega | (unfold rg; omega) | (simp only [rg] at *; omega) | exact bz_rg _ | grind [rg]) (by first | exact rg_w _ | exact rg_tw (by unfold rg; omega) (by unfold rg; omega) | omega | (unfold rg; omega) | (simp only [rg] at *; omega) | exact bz_rg _ | grind [rg]) (fun c106 => ?_) (fun c106 => ?_)
    · exact absurd (congrArg w32 hci.2.2) c106
    · refine a_aload_n (pc := 109) ok dL_paints_109 rfl ?_
      refine a_iconst (pc := 110) ok dL_paints_110 ?_
      refine a_iconst (pc := 111) ok dL_paints_111 ?_
      refine a_iconst (pc := 112) ok dL_paints_112 ?_
      refine a_iconst (pc := 113) ok dL_paints_113 ?_
      refine v_oo (pc := 114) ok ex gk.1 dL_paints_114 (ug2 16 (by decide +kernel) rfl) (ug2 17 (by decide +kernel) rfl) miL_call hWo (ABg hl hA1 hWo (k := 4) (u2 := 0) (u3 := 0) (by omega)) ⟨by decide, by decide⟩ ⟨Nat.le_of_ble_eq_true rfl, Nat.le_of_ble_eq_true rfl⟩ rfl rfl (Nat.le_of_ble_eq_true rfl) ?_
      intro Mo hWo
      refine a_iload (pc := 117) ok dL_paints_117 rfl ?_
      refine a_icmp_ne (pc := 119) (tgt := 160) ok dL_paints_119 (by decide) (by first | exact rg_w _ | exact rg_tw (by unfold rg; omega) (by unfold rg; omega) | omega | (unfold rg; omega) | (simp only [rg] at *; omega) | exact bz_rg _ | grind [rg]) (by first | exact rg_w _ | exact rg_tw (by unfold rg; omega) (by unfold rg; omega) | omega | (unfold rg; omega) | (simp only [rg] at *; omega) | exact bz_rg _ | grind [rg]) (fun c119 => ?_) (fun c119 => ?_)
      · exact absurd rfl c119
      · refine a_aload_n (pc := 122) ok dL_paints_122 rfl ?_
        refine a_iconst (pc := 123) ok dL_paints_123 ?_
        refine a_iload_n (pc := 124) ok dL_paints_124 rfl ?_
        refine a_iload (pc := 125) ok dL_paints_125 rfl ?_
        refine a_iconst (pc := 127) ok dL_paints_127 ?_
        refine v_oo (pc := 128) ok ex gk.1 dL_paints_128 (ug2 16 (by decide +kernel) rfl) (ug2 17 (by decide +kernel) rfl) miL_call hWo (ctv_eq ((congrArg w32 e1).trans (w_id (by unfold rg; omega))) (ctv_ok (by unfold kCell; (repeat' split) <;> omega) (C_3 hl hA1 hWo (x := (x % sC (jS A))) (y := (x / 8 % sR (jS A))) (w := 0) (by unfold rg; omega) (by unfold rg; omega) (by unfold rg; omega)))) ⟨by decide, by decide⟩ ⟨Nat.le_of_ble_eq_true rfl, Nat.le_of_ble_eq_true rfl⟩ rfl rfl (Nat.le_of_ble_eq_true rfl) ?_
        intro Mo hWo
        refine a_iload (pc := 131) ok dL_paints_131 rfl ?_
        refine a_icmp_ne (pc := 133) (tgt := 160) ok dL_paints_133 (by decide) (by first | exact rg_w _ | exact rg_tw (by unfold rg; omega) (by unfold rg; omega) | omega | (unfold rg; omega) | (simp only [rg] at *; omega) | exact bz_rg _ | grind [rg]) (by first | exact rg_w _ | exact rg_tw (by unfold rg; omega) (by unfold rg; omega) | omega | (unfold rg; omega) | (simp only [rg] at *; omega) | exact bz_rg _ | grind [rg]) (fun c133 => ?_) (fun c133 => ?_)
        · exact absurd rfl c133
        · refine a_iload (pc := 136) ok dL_paints_136 rfl ?_
          refine a_iload (pc := 138) ok dL_paints_138 rfl ?_
          refine a_icmp_ne (pc := 140) (tgt := 156) ok dL_paints_140 (by decide) (by first | exact rg_w _ | exact rg_tw (by unfold rg; omega) (by unfold rg; omega) | omega | (unfold rg; omega) | (simp only [rg] at *; omega) | exact bz_rg _ | grind [rg]) (by first | exact rg_w _ | exact rg_tw (by unfold rg; omega) (by unfold rg; omega) | omega | (unfold rg; omega) | (simp only [rg] at *; omega) | exact bz_rg _ | grind [rg]) (fun c140 => ?_) (fun c140 => ?_)
          · refine a_iconst (pc := 156) ok dL_paints_156 ?_
            refine a_goto (pc := 157) (tgt := 161) ok dL_paints_157 (by decide) ?_
            refine a_istore (pc := 161) ok dL_paints_161 rfl (by rw [hN]; decide) ?_
            refine a_iload (pc := 163) ok dL_paints_163 rfl ?_
            refine a_if_eq (pc := 165) (tgt := 216) ok dL_paints_165 (by decide) (by first | exact rg_w _ | exact rg_tw (by unfold rg; omega) (by unfold rg; omega) | omega | (unfold rg; omega) | (simp only [rg] at *; omega) | exact bz_rg _ | grind [rg]) (fun c165 => ?_) (fun c165 => ?_)
            · exfalso; first | omega | grind
            · refine a_aload_n (pc := 168) ok dL_paints_168 rfl ?_
              refine a_bipush (pc := 169) ok dL_paints_169 (by decide) ?_
              refine a_iconst (pc := 171) ok dL_paints_171 ?_
              refine a_iconst (pc := 172) ok dL_paints_172 ?_
              refine a_iconst (pc := 173) ok dL_paints_173 ?_
              refine v_oo (pc := 174) ok ex gk.1 dL_paints_174 (ug2 16 (by decide +kernel) rfl) (ug2 17 (by decide +kernel) rfl) miL_call hWo (ctv_eq (show w32 (jC (jAct A (gP (jS A) (x % sC (jS A)) (x / 8 % sR (jS A)) (x / 64 % 100))) - 1) = (min (jC A + 1) 14 - 1) from w_id (by unfold rg; show -2147483648 ≤ (min (jC A + 1) 14 - 1) ∧ (min (jC A + 1) 14 - 1) < 2147483648; omega)) (ctv_ok (by unfold kUndo; rw [if_pos (by show min (jC A + 1) 14 ≠ 0; omega)]) (C_17 hl hA1 hWo (u1 := 0) (u2 := 0) (u3 := 0)))) ⟨by decide, by decide⟩ ⟨Nat.le_of_ble_eq_true rfl, Nat.le_of_ble_eq_true rfl⟩ rfl rfl (Nat.le_of_ble_eq_true rfl) ?_
              intro Mo hWo
              refine a_callSp (pc := 177) ok [] dL_paints_177 mvL_261 miL_thrown (c_lthrown (v := (min (jC A + 1) 14 - 1)) (by unfold rg; omega) (by omega)) ⟨by decide, by decide, rfl, rfl, Nat.le_of_ble_eq_true rfl, Nat.le_of_ble_eq_true rfl⟩ rfl rfl (Nat.le_of_ble_eq_true rfl) rfl (by decide) ?_
              refine a_if_ne (pc := 180) (tgt := 216) ok dL_paints_180 (by decide) (by first | exact rg_w _ | exact rg_tw (by unfold rg; omega) (by unfold rg; omega) | omega | (unfold rg; omega) | (simp only [rg] at *; omega) | exact bz_rg _ | grind [rg]) (fun c180 => ?_) (fun c180 => ?_)
              · exfalso; first | omega | grind
              · refine a_aload_n (pc := 183) ok dL_paints_183 rfl ?_
                refine a_bipush (pc := 184) ok dL_paints_184 (by decide) ?_
                refine a_iconst (pc := 186) ok dL_paints_186 ?_
                refine a_iconst (pc := 187) ok dL_paints_187 ?_
                refine a_iconst (pc := 188) ok dL_paints_188 ?_
                refine v_qq (pc := 189) ok ex gk.1 dL_paints_189 (ug2 16 (by decide +kernel) rfl) (ug2 17 (by decide +kernel) rfl) miL_call hWo hWq (ctv_eq (show w32 (jC (jAct A (gP (jS A) (x % sC (jS A)) (x / 8 % sR (jS A)) (x / 64 % 100))) - 1) = (min (jC A + 1) 14 - 1) from w_id (by unfold rg; show -2147483648 ≤ (min (jC A + 1) 14 - 1) ∧ (min (jC A + 1) 14 - 1) < 2147483648; omega)) (ctv_ok (by unfold kUndo; rw [if_pos (by show min (jC A + 1) 14 ≠ 0; omega)]) (C_17 hl hA1 hWq (u1 := 0) (u2 := 0) (u3 := 0)))) ⟨by decide, by decide⟩ ⟨Nat.le_of_ble_eq_true rfl, Nat.le_of_ble_eq_true rfl⟩ rfl rfl (Nat.le_of_ble_eq_true rfl) ?_
                intro Mq hWq
                refine a_callSp (pc := 192) ok [] dL_paints_192 mvL_261 miL_thrown (c_lthrown (v := (min (jC A + 1) 14 - 1)) (by unfold rg; omega) (by omega)) ⟨by decide, by decide, rfl, rfl, Nat.le_of_ble_eq_true rfl, Nat.le_of_ble_eq_true rfl⟩ rfl rfl (Nat.le_of_ble_eq_true rfl) rfl (by decide) ?_
                refine a_if_ne (pc := 195) (tgt := 216) ok dL_paints_195 (by decide) (by first | exact rg_w _ | exact rg_tw (by unfold rg; omega) (by unfold rg; omega) | omega | (unfold rg; omega) | (simp only [rg] at *; omega) | exact bz_rg _ | grind [rg]) (fun c195 => ?_) (fun c195 => ?_)
                · exfalso; first | omega | grind
                · refine a_aload_n (pc := 198) ok dL_paints_198 rfl ?_
                  refine a_iconst (pc := 199) ok dL_paints_199 ?_
                  refine a_iload_n (pc := 200) ok dL_paints_200 rfl ?_
                  refine a_iload (pc := 201) ok dL_paints_201 rfl ?_
                  refine a_iconst (pc := 203) ok dL_paints_203 ?_
                  refine v_oo (pc := 204) ok ex gk.1 dL_paints_204 (ug2 16 (by decide +kernel) rfl) (ug2 17 (by decide +kernel) rfl) miL_call hWo (ctv_eq ((congrArg w32 e2).trans (w_id r2)) (ctv_ok (by unfold kCell; (repeat' split) <;> omega) (C_3 hl hA2 hWo (x := (x % sC (jS A))) (y := (x / 8 % sR (jS A))) (w := 0) (by unfold rg; omega) (by unfold rg; omega) (by unfold rg; omega)))) ⟨by decide, by decide⟩ ⟨Nat.le_of_ble_eq_true rfl, Nat.le_of_ble_eq_true rfl⟩ rfl rfl (Nat.le_of_ble_eq_true rfl) ?_
                  intro Mo hWo
                  refine a_iload (pc := 207) ok dL_paints_207 rfl ?_
                  refine a_icmp_ne (pc := 209) (tgt := 216) ok dL_paints_209 (by decide) (by first | exact rg_w _ | exact rg_tw (by unfold rg; omega) (by unfold rg; omega) | omega | (unfold rg; omega) | (simp only [rg] at *; omega) | exact bz_rg _ | grind [rg]) (by first | exact rg_w _ | exact rg_tw (by unfold rg; omega) (by unfold rg; omega) | omega | (unfold rg; omega) | (simp only [rg] at *; omega) | exact bz_rg _ | grind [rg]) (fun c209 => ?_) (fun c209 => ?_)
                  · exact absurd rfl c209
                  · refine a_iconst (pc := 212) ok dL_paints_212 ?_
                    refine a_goto (pc := 213) (tgt := 217) ok dL_paints_213 (by decide) ?_
                    refine AW.widen (kc2 := rgL_paints.cells) (ks2 := rgL_paints.slots) (Nat.le_of_ble_eq_true rfl) (Nat.le_of_ble_eq_true rfl) ?_
                    exact a_zret (pc := 217) ok dL_paints_217 (by first | rfl | exact nb_bz _ | exact @nb_bz _ (Classical.propDecidable _) | decide | exact nb_01 (by assumption)) (⟨rfl, _, _, hWo, hWq, rfl⟩)
          · refine a_aload_n (pc := 143) ok dL_paints_143 rfl ?_
            refine a_iload_n (pc := 144) ok dL_paints_144 rfl ?_
            refine a_iload (pc := 145) ok dL_paints_145 rfl ?_
            refine a_iload (pc := 147) ok dL_paints_147 rfl ?_
            refine a_iconst (pc := 149) ok dL_paints_149 ?_
            refine w_oo (pc := 150) ok ex dL_paints_150 (ug5 3 (by decide +kernel) rfl) (ug5 4 (by decide +kernel) rfl) miL_would hWo (ctw_eq (z2 := 0) ((congrArg w32 (same_cell (jS A) (x % sC (jS A)) (x / 8 % sR (jS A)) (x / 64 % 100))).trans (by decide)) (ctw_ok (by unfold kIfC; (repeat' split) <;> omega) (T_would hl hA1 hWo (x := (x % sC (jS A))) (y := (x / 8 % sR (jS A))) (g := (x / 64 % 100)) (w := 2) (by unfold rg; omega) (by unfold rg; omega) (by unfold rg; omega) (by unfold rg; omega)))) ⟨by decide, by decide, rfl, rfl⟩ ⟨Nat.le_of_ble_eq_true rfl, Nat.le_of_ble_eq_true rfl⟩ rfl rfl (Nat.le_of_ble_eq_true rfl) ?_
            intro Mo hWo
            refine a_if_ne (pc := 153) (tgt := 160) ok dL_paints_153 (by decide) (by first | exact rg_w _ | exact rg_tw (by unfold rg; omega) (by unfold rg; omega) | omega | (unfold rg; omega) | (simp only [rg] at *; omega) | exact bz_rg _ | grind [rg]) (fun c153 => ?_) (fun c153 => ?_)
            · exfalso; first | omega | grind
            · refine a_iconst (pc := 156) ok dL_paints_156 ?_
              refine a_goto (pc := 157) (tgt := 161) ok dL_paints_157 (by decide) ?_
              refine a_istore (pc := 161) ok dL_paints_161 rfl (by rw [hN]; decide) ?_
              refine a_iload (pc := 163) ok dL_paints_163 rfl ?_
              refine a_if_eq (pc := 165) (tgt := 216) ok dL_paints_165 (by decide) (by first | exact rg_w _ | exact rg_tw (by unfold rg; omega) (by unfold rg; omega) | omega | (unfold rg; omega) | (simp only [rg] at *; omega) | exact bz_rg _ | grind [rg]) (fun c165 => ?_) (fun c165 => ?_)
              · exfalso; first | omega | grind
              · refine a_aload_n (pc := 168) ok dL_paints_168 rfl ?_
                refine a_bipush (pc := 169) ok dL_paints_169 (by decide) ?_
                refine a_iconst (pc := 171) ok dL_paints_171 ?_
                refine a_iconst (pc := 172) ok dL_paints_172 ?_
                refine a_iconst (pc := 173) ok dL_paints_173 ?_
                refine v_oo (pc := 174) ok ex gk.1 dL_paints_174 (ug2 16 (by decide +kernel) rfl) (ug2 17 (by decide +kernel) rfl) miL_call hWo (ctv_eq (show w32 (jC (jAct A (gP (jS A) (x % sC (jS A)) (x / 8 % sR (jS A)) (x / 64 % 100))) - 1) = (min (jC A + 1) 14 - 1) from w_id (by unfold rg; show -2147483648 ≤ (min (jC A + 1) 14 - 1) ∧ (min (jC A + 1) 14 - 1) < 2147483648; omega)) (ctv_ok (by unfold kUndo; rw [if_pos (by show min (jC A + 1) 14 ≠ 0; omega)]) (C_17 hl hA1 hWo (u1 := 0) (u2 := 0) (u3 := 0)))) ⟨by decide, by decide⟩ ⟨Nat.le_of_ble_eq_true rfl, Nat.le_of_ble_eq_true rfl⟩ rfl rfl (Nat.le_of_ble_eq_true rfl) ?_
                intro Mo hWo
                refine a_callSp (pc := 177) ok [] dL_paints_177 mvL_261 miL_thrown (c_lthrown (v := (min (jC A + 1) 14 - 1)) (by unfold rg; omega) (by omega)) ⟨by decide, by decide, rfl, rfl, Nat.le_of_ble_eq_true rfl, Nat.le_of_ble_eq_true rfl⟩ rfl rfl (Nat.le_of_ble_eq_true rfl) rfl (by decide) ?_
                refine a_if_ne (pc := 180) (tgt := 216) ok dL_paints_180 (by decide) (by first | exact rg_w _ | exact rg_tw (by unfold rg; omega) (by unfold rg; omega) | omega | (unfold rg; omega) | (simp only [rg] at *; omega) | exact bz_rg _ | grind [rg]) (fun c180 => ?_) (fun c180 => ?_)
                · exfalso; first | omega | grind
                · refine a_aload_n (pc := 183) ok dL_paints_183 rfl ?_
                  refine a_bipush (pc := 184) ok dL_paints_184 (by decide) ?_
                  refine a_iconst (pc := 186) ok dL_paints_186 ?_
                  refine a_iconst (pc := 187) ok dL_paints_187 ?_
                  refine a_iconst (pc := 188) ok dL_paints_188 ?_
                  refine v_qq (pc := 189) ok ex gk.1 dL_paints_189 (ug2 16 (by decide +kernel) rfl) (ug2 17 (by decide +kernel) rfl) miL_call hWo hWq (ctv_eq (show w32 (jC (jAct A (gP (jS A) (x % sC (jS A)) (x / 8 % sR (jS A)) (x / 64 % 100))) - 1) = (min (jC A + 1) 14 - 1) from w_id (by unfold rg; show -2147483648 ≤ (min (jC A + 1) 14 - 1) ∧ (min (jC A + 1) 14 - 1) < 2147483648; omega)) (ctv_ok (by unfold kUndo; rw [if_pos (by show min (jC A + 1) 14 ≠ 0; omega)]) (C_17 hl hA1 hWq (u1 := 0) (u2 := 0) (u3 := 0)))) ⟨by decide, by decide⟩ ⟨Nat.le_of_ble_eq_true rfl, Nat.le_of_ble_eq_true rfl⟩ rfl rfl (Nat.le_of_ble_eq_true rfl) ?_
                  intro Mq hWq
                  refine a_callSp (pc := 192) ok [] dL_paints_192 mvL_261 miL_thrown (c_lthrown (v := (min (jC A + 1) 14 - 1)) (by unfold rg; omega) (by omega)) ⟨by decide, by decide, rfl, rfl, Nat.le_of_ble_eq_true rfl, Nat.le_of_ble_eq_true rfl⟩ rfl rfl (Nat.le_of_ble_eq_true rfl) rfl (by decide) ?_
                  refine a_if_ne (pc := 195) (tgt := 216) ok dL_paints_195 (by decide) (by first | exact rg_w _ | exact rg_tw (by unfold rg; omega) (by unfold rg; omega) | omega | (unfold rg; omega) | (simp only [rg] at *; omega) | exact bz_rg _ | grind [rg]) (fun c195 => ?_) (fun c195 => ?_)
                  · exfalso; first | omega | grind
                  · refine a_aload_n (pc := 198) ok dL_paints_198 rfl ?_
                    refine a_iconst (pc := 199) ok dL_paints_199 ?_
                    refine a_iload_n (pc := 200) ok dL_paints_200 rfl ?_
                    refine a_iload (pc := 201) ok dL_paints_201 rfl ?_
                    refine a_iconst (pc := 203) ok dL_paints_203 ?_
                    refine v_oo (pc := 204) ok ex gk.1 dL_paints_204 (ug2 16 (by decide +kernel) rfl) (ug2 17 (by decide +kernel) rfl) miL_call hWo (ctv_eq ((congrArg w32 e2).trans (w_id r2)) (ctv_ok (by unfold kCell; (repeat' split) <;> omega) (C_3 hl hA2 hWo (x := (x % sC (jS A))) (y := (x / 8 % sR (jS A))) (w := 0) (by unfold rg; omega) (by unfold rg; omega) (by unfold rg; omega)))) ⟨by decide, by decide⟩ ⟨Nat.le_of_ble_eq_true rfl, Nat.le_of_ble_eq_true rfl⟩ rfl rfl (Nat.le_of_ble_eq_true rfl) ?_
                    intro Mo hWo
                    refine a_iload (pc := 207) ok dL_paints_207 rfl ?_
                    refine a_icmp_ne (pc := 209) (tgt := 216) ok dL_paints_209 (by decide) (by first | exact rg_w _ | exact rg_tw (by unfold rg; omega) (by unfold rg; omega) | omega | (unfold rg; omega) | (simp only [rg] at *; omega) | exact bz_rg _ | grind [rg]) (by first | exact rg_w _ | exact rg_tw (by unfold rg; omega) (by unfold rg; omega) | omega | (unfold rg; omega) | (simp only [rg] at *; omega) | exact bz_rg _ | grind [rg]) (fun c209 => ?_) (fun c209 => ?_)
                    · exact absurd rfl c209
                    · refine a_iconst (pc := 212) ok dL_paints_212 ?_
                      refine a_goto (pc := 213) (tgt := 217) ok dL_paints_213 (by decide) ?_
                      refine AW.widen (kc2 := rgL_paints.cells) (ks2 := rgL_paints.slots) (Nat.le_of_ble_eq_true rfl) (Nat.le_of_ble_eq_true rfl) ?_
                      exact a_zret (pc := 217) ok dL_paints_217 (by first | rfl | exact nb_bz _ | exact @nb_bz _ (Classical.propDecidable _) | decide | exact nb_01 (by assumption)) (⟨rfl, _, _, hWo, hWq, rfl⟩)
end TWO4
