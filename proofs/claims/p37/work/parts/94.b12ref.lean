/-! THE LAW: calls that are refused. Printed by wip/p37/gen/mkref.py. -/
section RF1
variable {l : Launch} {A : Ob} {M : List va_E}
theorem ref_e (hl : l.stackTraces = false) (hA : VA A) (hW : WO A M) {x : Int} (hx : 0 ≤ x ∧ x < 100000) (hp : x % 2 = 0) : CtV l yL_refuses cL_refuses 8 (some .boolean) rgL_refuses [.ref 0, iv x] M (po1 1 A) := by
  refine CtV.of hl miL_refuses (Nat.le_of_ble_eq_true rfl) (po1_cl hW) ?_
  intro X hXl hN gk ex
  subst hXl
  have ok := gk.ok
  refine AW.cast (L2 := [some (.ref 0), some (iv x), none, none, none, none, none, none]) ?_ rfl rfl rfl
  rw [WO_len hW] at gk
  obtain ⟨f1, f2, f3, f4, f5⟩ := VA_d hA
  have m1 : 0 ≤ x % sC (jS A) ∧ x % sC (jS A) < sC (jS A) := ⟨Int.emod_nonneg _ (by omega), Int.emod_lt_of_pos _ (by omega)⟩
  have m2 : 0 ≤ x % sR (jS A) ∧ x % sR (jS A) < sR (jS A) := ⟨Int.emod_nonneg _ (by omega), Int.emod_lt_of_pos _ (by omega)⟩
  refine a_aload_n (pc := 0) ok dL_refuses_0 rfl ?_
  refine a_iconst (pc := 1) ok dL_refuses_1 ?_
  refine a_iconst (pc := 2) ok dL_refuses_2 ?_
  refine a_iconst (pc := 3) ok dL_refuses_3 ?_
  refine a_iconst (pc := 4) ok dL_refuses_4 ?_
  refine v_o (pc := 5) ok ex gk.1 dL_refuses_5 (ug2 16 (by decide +kernel) rfl) (ug2 17 (by decide +kernel) rfl) miL_call hW (AB0 hl hA hW) ⟨by decide, by decide⟩ ⟨Nat.le_of_ble_eq_true rfl, Nat.le_of_ble_eq_true rfl⟩ rfl rfl (Nat.le_of_ble_eq_true rfl) ?_
  intro M hW
  refine a_istore_n (pc := 8) ok dL_refuses_8 rfl (by rw [hN]; decide) ?_
  refine a_aload_n (pc := 9) ok dL_refuses_9 rfl ?_
  refine a_iconst (pc := 10) ok dL_refuses_10 ?_
  refine a_iconst (pc := 11) ok dL_refuses_11 ?_
  refine a_iconst (pc := 12) ok dL_refuses_12 ?_
  refine a_iconst (pc := 13) ok dL_refuses_13 ?_
  refine v_o (pc := 14) ok ex gk.1 dL_refuses_14 (ug2 16 (by decide +kernel) rfl) (ug2 17 (by decide +kernel) rfl) miL_call hW (AB1 hl hA hW) ⟨by decide, by decide⟩ ⟨Nat.le_of_ble_eq_true rfl, Nat.le_of_ble_eq_true rfl⟩ rfl rfl (Nat.le_of_ble_eq_true rfl) ?_
  intro M hW
  refine a_istore_n (pc := 17) ok dL_refuses_17 rfl (by rw [hN]; decide) ?_
  refine a_iload_n (pc := 18) ok dL_refuses_18 rfl ?_
  refine a_iconst (pc := 19) ok dL_refuses_19 ?_
  refine a_irem (pc := 20) ok dL_refuses_20 (by first | exact rg_w _ | exact rg_tw (by unfold rg; omega) (by unfold rg; omega) | omega | (unfold rg; omega) | (simp only [rg] at *; omega) | exact bz_rg _ | grind [rg]) (by first | exact rg_w _ | exact rg_tw (by unfold rg; omega) (by unfold rg; omega) | omega | (unfold rg; omega) | (simp only [rg] at *; omega) | exact bz_rg _ | grind [rg]) ?_
  refine a_if_ne (pc := 21) (tgt := 33) ok dL_refuses_21 (by decide) (by first | exact rg_w _ | exact rg_tw (by unfold rg; omega) (by unfold rg; omega) | omega | (unfold rg; omega) | (simp only [rg] at *; omega) | exact bz_rg _ | grind [rg]) (fun c21 => ?_) (fun c21 => ?_)
  · exfalso; first | omega | grind
  · refine a_iconst (pc := 24) ok dL_refuses_24 ?_
    refine a_iload_n (pc := 25) ok dL_refuses_25 rfl ?_
    refine a_bipush (pc := 26) ok dL_refuses_26 (by decide) ?_
    refine a_irem (pc := 28) ok dL_refuses_28 (by first | exact rg_w _ | exact rg_tw (by unfold rg; omega) (by unfold rg; omega) | omega | (unfold rg; omega) | (simp only [rg] at *; omega) | exact bz_rg _ | grind [rg]) (by first | exact rg_w _ | exact rg_tw (by unfold rg; omega) (by unfold rg; omega) | omega | (unfold rg; omega) | (simp only [rg] at *; omega) | exact bz_rg _ | grind [rg]) ?_
    refine a_isub (pc := 29) ok dL_refuses_29 ?_
    refine a_goto (pc := 30) (tgt := 39) ok dL_refuses_30 (by decide) ?_
    refine a_istore (pc := 39) ok dL_refuses_39 rfl (by rw [hN]; decide) ?_
    refine a_iload_n (pc := 41) ok dL_refuses_41 rfl ?_
    refine a_iconst (pc := 42) ok dL_refuses_42 ?_
    refine a_irem (pc := 43) ok dL_refuses_43 (by first | exact rg_w _ | exact rg_tw (by unfold rg; omega) (by unfold rg; omega) | omega | (unfold rg; omega) | (simp only [rg] at *; omega) | exact bz_rg _ | grind [rg]) (by first | exact rg_w _ | exact rg_tw (by unfold rg; omega) (by unfold rg; omega) | omega | (unfold rg; omega) | (simp only [rg] at *; omega) | exact bz_rg _ | grind [rg]) ?_
    refine a_if_ne (pc := 44) (tgt := 56) ok dL_refuses_44 (by decide) (by first | exact rg_w _ | exact rg_tw (by unfold rg; omega) (by unfold rg; omega) | omega | (unfold rg; omega) | (simp only [rg] at *; omega) | exact bz_rg _ | grind [rg]) (fun c44 => ?_) (fun c44 => ?_)
    · exfalso; first | omega | grind
    · refine a_iconst (pc := 47) ok dL_refuses_47 ?_
      refine a_iload_n (pc := 48) ok dL_refuses_48 rfl ?_
      refine a_bipush (pc := 49) ok dL_refuses_49 (by decide) ?_
      refine a_irem (pc := 51) ok dL_refuses_51 (by first | exact rg_w _ | exact rg_tw (by unfold rg; omega) (by unfold rg; omega) | omega | (unfold rg; omega) | (simp only [rg] at *; omega) | exact bz_rg _ | grind [rg]) (by first | exact rg_w _ | exact rg_tw (by unfold rg; omega) (by unfold rg; omega) | omega | (unfold rg; omega) | (simp only [rg] at *; omega) | exact bz_rg _ | grind [rg]) ?_
      refine a_isub (pc := 52) ok dL_refuses_52 ?_
      refine a_goto (pc := 53) (tgt := 62) ok dL_refuses_53 (by decide) ?_
      refine a_istore (pc := 62) ok dL_refuses_62 rfl (by rw [hN]; decide) ?_
      refine a_iload_n (pc := 64) ok dL_refuses_64 rfl ?_
      refine a_iconst (pc := 65) ok dL_refuses_65 ?_
      refine a_irem (pc := 66) ok dL_refuses_66 (by first | exact rg_w _ | exact rg_tw (by unfold rg; omega) (by unfold rg; omega) | omega | (unfold rg; omega) | (simp only [rg] at *; omega) | exact bz_rg _ | grind [rg]) (by first | exact rg_w _ | exact rg_tw (by unfold rg; omega) (by unfold rg; omega) | omega | (unfold rg; omega) | (simp only [rg] at *; omega) | exact bz_rg _ | grind [rg]) ?_
      refine a_if_ne (pc := 67) (tgt := 79) ok dL_refuses_67 (by decide) (by first | exact rg_w _ | exact rg_tw (by unfold rg; omega) (by unfold rg; omega) | omega | (unfold rg; omega) | (simp only [rg] at *; omega) | exact bz_rg _ | grind [rg]) (fun c67 => ?_) (fun c67 => ?_)
      · exfalso; first | omega | grind
      · refine a_iconst (pc := 70) ok dL_refuses_70 ?_
        refine a_iload_n (pc := 71) ok dL_refuses_71 rfl ?_
        refine a_bipush (pc := 72) ok dL_refuses_72 (by decide) ?_
        refine a_irem (pc := 74) ok dL_refuses_74 (by first | exact rg_w _ | exact rg_tw (by unfold rg; omega) (by unfold rg; omega) | omega | (unfold rg; omega) | (simp only [rg] at *; omega) | exact bz_rg _ | grind [rg]) (by first | exact rg_w _ | exact rg_tw (by unfold rg; omega) (by unfold rg; omega) | omega | (unfold rg; omega) | (simp only [rg] at *; omega) | exact bz_rg _ | grind [rg]) ?_
        refine a_isub (pc := 75) ok dL_refuses_75 ?_
        refine a_goto (pc := 76) (tgt := 87) ok dL_refuses_76 (by decide) ?_
        refine a_istore (pc := 87) ok dL_refuses_87 rfl (by rw [hN]; decide) ?_
        refine a_iload_n (pc := 89) ok dL_refuses_89 rfl ?_
        refine a_iconst (pc := 90) ok dL_refuses_90 ?_
        refine a_irem (pc := 91) ok dL_refuses_91 (by first | exact rg_w _ | exact rg_tw (by unfold rg; omega) (by unfold rg; omega) | omega | (unfold rg; omega) | (simp only [rg] at *; omega) | exact bz_rg _ | grind [rg]) (by first | exact rg_w _ | exact rg_tw (by unfold rg; omega) (by unfold rg; omega) | omega | (unfold rg; omega) | (simp only [rg] at *; omega) | exact bz_rg _ | grind [rg]) ?_
        refine a_if_ne (pc := 92) (tgt := 104) ok dL_refuses_92 (by decide) (by first | exact rg_w _ | exact rg_tw (by unfold rg; omega) (by unfold rg; omega) | omega | (unfold rg; omega) | (simp only [rg] at *; omega) | exact bz_rg _ | grind [rg]) (fun c92 => ?_) (fun c92 => ?_)
        · exfalso; first | omega | grind
        · refine a_iconst (pc := 95) ok dL_refuses_95 ?_
          refine a_iload_n (pc := 96) ok dL_refuses_96 rfl ?_
          refine a_bipush (pc := 97) ok dL_refuses_97 (by decide) ?_
          refine a_irem (pc := 99) ok dL_refuses_99 (by first | exact rg_w _ | exact rg_tw (by unfold rg; omega) (by unfold rg; omega) | omega | (unfold rg; omega) | (simp only [rg] at *; omega) | exact bz_rg _ | grind [rg]) (by first | exact rg_w _ | exact rg_tw (by unfold rg; omega) (by unfold rg; omega) | omega | (unfold rg; omega) | (simp only [rg] at *; omega) | exact bz_rg _ | grind [rg]) ?_
          refine a_isub (pc := 100) ok dL_refuses_100 ?_
          refine a_goto (pc := 101) (tgt := 111) ok dL_refuses_101 (by decide) ?_
          refine a_istore (pc := 111) ok dL_refuses_111 rfl (by rw [hN]; decide) ?_
          refine a_aload_n (pc := 113) ok dL_refuses_113 rfl ?_
          refine a_iconst (pc := 114) ok dL_refuses_114 ?_
          refine a_iload_n (pc := 115) ok dL_refuses_115 rfl ?_
          refine a_iconst (pc := 116) ok dL_refuses_116 ?_
          refine a_irem (pc := 117) ok dL_refuses_117 (by first | exact rg_w _ | exact rg_tw (by unfold rg; omega) (by unfold rg; omega) | omega | (unfold rg; omega) | (simp only [rg] at *; omega) | exact bz_rg _ | grind [rg]) (by first | exact rg_w _ | exact rg_tw (by unfold rg; omega) (by unfold rg; omega) | omega | (unfold rg; omega) | (simp only [rg] at *; omega) | exact bz_rg _ | grind [rg]) ?_
          refine a_if_ne (pc := 118) (tgt := 130) ok dL_refuses_118 (by decide) (by first | exact rg_w _ | exact rg_tw (by unfold rg; omega) (by unfold rg; omega) | omega | (unfold rg; omega) | (simp only [rg] at *; omega) | exact bz_rg _ | grind [rg]) (fun c118 => ?_) (fun c118 => ?_)
          · exfalso; first | omega | grind
          · refine a_iconst (pc := 121) ok dL_refuses_121 ?_
            refine a_iload_n (pc := 122) ok dL_refuses_122 rfl ?_
            refine a_bipush (pc := 123) ok dL_refuses_123 (by decide) ?_
            refine a_irem (pc := 125) ok dL_refuses_125 (by first | exact rg_w _ | exact rg_tw (by unfold rg; omega) (by unfold rg; omega) | omega | (unfold rg; omega) | (simp only [rg] at *; omega) | exact bz_rg _ | grind [rg]) (by first | exact rg_w _ | exact rg_tw (by unfold rg; omega) (by unfold rg; omega) | omega | (unfold rg; omega) | (simp only [rg] at *; omega) | exact bz_rg _ | grind [rg]) ?_
            refine a_isub (pc := 126) ok dL_refuses_126 ?_
            refine a_goto (pc := 127) (tgt := 138) ok dL_refuses_127 (by decide) ?_
            refine a_iconst (pc := 138) ok dL_refuses_138 ?_
            refine a_iconst (pc := 139) ok dL_refuses_139 ?_
            refine v_o (pc := 140) ok ex gk.1 dL_refuses_140 (ug2 16 (by decide +kernel) rfl) (ug2 17 (by decide +kernel) rfl) miL_call hW (C_0 hl hA hW (x := -1 - x % 9) (u2 := 0) (u3 := 0) (by unfold rg; omega) (by omega)) ⟨by decide, by decide⟩ ⟨Nat.le_of_ble_eq_true rfl, Nat.le_of_ble_eq_true rfl⟩ rfl rfl (Nat.le_of_ble_eq_true rfl) ?_
            intro M hW
            refine a_ldc (pc := 143) (z := -9999002) (v := Int32.ofInt (-9999002)) ok dL_refuses_143 (ug2 127 (by decide +kernel) rfl) (by decide) ?_
            refine a_icmp_ne (pc := 145) (tgt := 988) ok dL_refuses_145 (by decide) (by first | exact rg_w _ | exact rg_tw (by unfold rg; omega) (by unfold rg; omega) | omega | (unfold rg; omega) | (simp only [rg] at *; omega) | exact bz_rg _ | grind [rg]) (by first | exact rg_w _ | exact rg_tw (by unfold rg; omega) (by unfold rg; omega) | omega | (unfold rg; omega) | (simp only [rg] at *; omega) | exact bz_rg _ | grind [rg]) (fun c145 => ?_) (fun c145 => ?_)
            · exfalso; first | omega | grind
            · refine a_aload_n (pc := 148) ok dL_refuses_148 rfl ?_
              refine a_iconst (pc := 149) ok dL_refuses_149 ?_
              refine a_bipush (pc := 150) ok dL_refuses_150 (by decide) ?_
              refine a_iload_n (pc := 152) ok dL_refuses_152 rfl ?_
              refine a_bipush (pc := 153) ok dL_refuses_153 (by decide) ?_
              refine a_irem (pc := 155) ok dL_refuses_155 (by first | exact rg_w _ | exact rg_tw (by unfold rg; omega) (by unfold rg; omega) | omega | (unfold rg; omega) | (simp only [rg] at *; omega) | exact bz_rg _ | grind [rg]) (by first | exact rg_w _ | exact rg_tw (by unfold rg; omega) (by unfold rg; omega) | omega | (unfold rg; omega) | (simp only [rg] at *; omega) | exact bz_rg _ | grind [rg]) ?_
              refine a_iadd (pc := 156) ok dL_refuses_156 ?_
              refine a_iconst (pc := 157) ok dL_refuses_157 ?_
              refine a_iconst (pc := 158) ok dL_refuses_158 ?_
              refine v_o (pc := 159) ok ex gk.1 dL_refuses_159 (ug2 16 (by decide +kernel) rfl) (ug2 17 (by decide +kernel) rfl) miL_call hW (ctv_x1 (by unfold kIn; (repeat' split) <;> omega) (C_2 hl hA hW (w := 11 + x % 50) (u2 := 0) (u3 := 0) (by unfold rg; omega))) ⟨by decide, by decide⟩ ⟨Nat.le_of_ble_eq_true rfl, Nat.le_of_ble_eq_true rfl⟩ rfl rfl (Nat.le_of_ble_eq_true rfl) ?_
              intro M hW
              refine a_ldc (pc := 162) (z := -9999002) (v := Int32.ofInt (-9999002)) ok dL_refuses_162 (ug2 127 (by decide +kernel) rfl) (by decide) ?_
              refine a_icmp_ne (pc := 164) (tgt := 988) ok dL_refuses_164 (by decide) (by first | exact rg_w _ | exact rg_tw (by unfold rg; omega) (by unfold rg; omega) | omega | (unfold rg; omega) | (simp only [rg] at *; omega) | exact bz_rg _ | grind [rg]) (by first | exact rg_w _ | exact rg_tw (by unfold rg; omega) (by unfold rg; omega) | omega | (unfold rg; omega) | (simp only [rg] at *; omega) | exact bz_rg _ | grind [rg]) (fun c164 => ?_) (fun c164 => ?_)
              · exfalso; first | omega | grind
              · refine a_aload_n (pc := 167) ok dL_refuses_167 rfl ?_
                refine a_iconst (pc := 168) ok dL_refuses_168 ?_
                refine a_iload (pc := 169) ok dL_refuses_169 rfl ?_
                refine a_iconst (pc := 171) ok dL_refuses_171 ?_
                refine a_bipush (pc := 172) ok dL_refuses_172 (by decide) ?_
                refine v_o (pc := 174) ok ex gk.1 dL_refuses_174 (ug2 16 (by decide +kernel) rfl) (ug2 17 (by decide +kernel) rfl) miL_call hW (ctv_x1 (by unfold kCell; (repeat' split) <;> omega) (C_3 hl hA hW (x := -1 - x % 99) (y := 0) (w := 9) (by unfold rg; omega) (by unfold rg; omega) (by unfold rg; omega))) ⟨by decide, by decide⟩ ⟨Nat.le_of_ble_eq_true rfl, Nat.le_of_ble_eq_true rfl⟩ rfl rfl (Nat.le_of_ble_eq_true rfl) ?_
                intro M hW
                refine a_ldc (pc := 177) (z := -9999001) (v := Int32.ofInt (-9999001)) ok dL_refuses_177 (ug3 205 (by decide +kernel) rfl) (by decide) ?_
                refine a_icmp_ne (pc := 179) (tgt := 988) ok dL_refuses_179 (by decide) (by first | exact rg_w _ | exact rg_tw (by unfold rg; omega) (by unfold rg; omega) | omega | (unfold rg; omega) | (simp only [rg] at *; omega) | exact bz_rg _ | grind [rg]) (by first | exact rg_w _ | exact rg_tw (by unfold rg; omega) (by unfold rg; omega) | omega | (unfold rg; omega) | (simp only [rg] at *; omega) | exact bz_rg _ | grind [rg]) (fun c179 => ?_) (fun c179 => ?_)
                · exfalso; first | omega | grind
                · refine a_aload_n (pc := 182) ok dL_refuses_182 rfl ?_
                  refine a_iconst (pc := 183) ok dL_refuses_183 ?_
                  refine a_iconst (pc := 184) ok dL_refuses_184 ?_
                  refine a_iload (pc := 185) ok dL_refuses_185 rfl ?_
                  refine a_bipush (pc := 187) ok dL_refuses_187 (by decide) ?_
                  refine v_o (pc := 189) ok ex gk.1 dL_refuses_189 (ug2 16 (by decide +kernel) rfl) (ug2 17 (by decide +kernel) rfl) miL_call hW (ctv_x1 (by unfold kCell; (repeat' split) <;> omega) (C_3 hl hA hW (x := 0) (y := -1 - x % 99) (w := 9) (by unfold rg; omega) (by unfold rg; omega) (by unfold rg; omega))) ⟨by decide, by decide⟩ ⟨Nat.le_of_ble_eq_true rfl, Nat.le_of_ble_eq_true rfl⟩ rfl rfl (Nat.le_of_ble_eq_true rfl) ?_
                  intro M hW
                  refine a_ldc (pc := 192) (z := -9999001) (v := Int32.ofInt (-9999001)) ok dL_refuses_192 (ug3 205 (by decide +kernel) rfl) (by decide) ?_
                  refine a_icmp_ne (pc := 194) (tgt := 988) ok dL_refuses_194 (by decide) (by first | exact rg_w _ | exact rg_tw (by unfold rg; omega) (by unfold rg; omega) | omega | (unfold rg; omega) | (simp only [rg] at *; omega) | exact bz_rg _ | grind [rg]) (by first | exact rg_w _ | exact rg_tw (by unfold rg; omega) (by unfold rg; omega) | omega | (unfold rg; omega) | (simp only [rg] at *; omega) | exact bz_rg _ | grind [rg]) (fun c194 => ?_) (fun c194 => ?_)
                  · exfalso; first | omega | grind
                  · refine a_aload_n (pc := 197) ok dL_refuses_197 rfl ?_
                    refine a_iconst (pc := 198) ok dL_refuses_198 ?_
                    refine a_iload_n (pc := 199) ok dL_refuses_199 rfl ?_
                    refine a_iload_n (pc := 200) ok dL_refuses_200 rfl ?_
                    refine a_irem (pc := 201) ok dL_refuses_201 (by first | exact rg_w _ | exact rg_tw (by unfold rg; omega) (by unfold rg; omega) | omega | (unfold rg; omega) | (simp only [rg] at *; omega) | exact bz_rg _ | grind [rg]) (by first | exact rg_w _ | exact rg_tw (by unfold rg; omega) (by unfold rg; omega) | omega | (unfold rg; omega) | (simp only [rg] at *; omega) | exact bz_rg _ | grind [rg]) ?_
                    refine a_iload_n (pc := 202) ok dL_refuses_202 rfl ?_
                    refine a_iload_n (pc := 203) ok dL_refuses_203 rfl ?_
                    refine a_irem (pc := 204) ok dL_refuses_204 (by first | exact rg_w _ | exact rg_tw (by unfold rg; omega) (by unfold rg; omega) | omega | (unfold rg; omega) | (simp only [rg] at *; omega) | exact bz_rg _ | grind [rg]) (by first | exact rg_w _ | exact rg_tw (by unfold rg; omega) (by unfold rg; omega) | omega | (unfold rg; omega) | (simp only [rg] at *; omega) | exact bz_rg _ | grind [rg]) ?_
                    refine a_bipush (pc := 205) ok dL_refuses_205 (by decide) ?_
                    refine a_iload_n (pc := 207) ok dL_refuses_207 rfl ?_
                    refine a_bipush (pc := 208) ok dL_refuses_208 (by decide) ?_
                    refine a_irem (pc := 210) ok dL_refuses_210 (by first | exact rg_w _ | exact rg_tw (by unfold rg; omega) (by unfold rg; omega) | omega | (unfold rg; omega) | (simp only [rg] at *; omega) | exact bz_rg _ | grind [rg]) (by first | exact rg_w _ | exact rg_tw (by unfold rg; omega) (by unfold rg; omega) | omega | (unfold rg; omega) | (simp only [rg] at *; omega) | exact bz_rg _ | grind [rg]) ?_
                    refine a_iadd (pc := 211) ok dL_refuses_211 ?_
                    refine v_o (pc := 212) ok ex gk.1 dL_refuses_212 (ug2 16 (by decide +kernel) rfl) (ug2 17 (by decide +kernel) rfl) miL_call hW (ctv_x2 (by unfold kCell; (repeat' split) <;> omega) (C_3 hl hA hW (x := x % sC (jS A)) (y := x % sR (jS A)) (w := 6 + x % 9) (by unfold rg; omega) (by unfold rg; omega) (by unfold rg; omega))) ⟨by decide, by decide⟩ ⟨Nat.le_of_ble_eq_true rfl, Nat.le_of_ble_eq_true rfl⟩ rfl rfl (Nat.le_of_ble_eq_true rfl) ?_
                    intro M hW
                    refine a_ldc (pc := 215) (z := -9999002) (v := Int32.ofInt (-9999002)) ok dL_refuses_215 (ug2 127 (by decide +kernel) rfl) (by decide) ?_
                    refine a_icmp_ne (pc := 217) (tgt := 988) ok dL_refuses_217 (by decide) (by first | exact rg_w _ | exact rg_tw (by unfold rg; omega) (by unfold rg; omega) | omega | (unfold rg; omega) | (simp only [rg] at *; omega) | exact bz_rg _ | grind [rg]) (by first | exact rg_w _ | exact rg_tw (by unfold rg; omega) (by unfold rg; omega) | omega | (unfold rg; omega) | (simp only [rg] at *; omega) | exact bz_rg _ | grind [rg]) (fun c217 => ?_) (fun c217 => ?_)
                    · exfalso; first | omega | grind
                    · refine a_aload_n (pc := 220) ok dL_refuses_220 rfl ?_
                      refine a_iconst (pc := 221) ok dL_refuses_221 ?_
                      refine a_iload_n (pc := 222) ok dL_refuses_222 rfl ?_
                      refine a_iconst (pc := 223) ok dL_refuses_223 ?_
                      refine a_irem (pc := 224) ok dL_refuses_224 (by first | exact rg_w _ | exact rg_tw (by unfold rg; omega) (by unfold rg; omega) | omega | (unfold rg; omega) | (simp only [rg] at *; omega) | exact bz_rg _ | grind [rg]) (by first | exact rg_w _ | exact rg_tw (by unfold rg; omega) (by unfold rg; omega) | omega | (unfold rg; omega) | (simp only [rg] at *; omega) | exact bz_rg _ | grind [rg]) ?_
                      refine a_if_ne (pc := 225) (tgt := 232) ok dL_refuses_225 (by decide) (by first | exact rg_w _ | exact rg_tw (by unfold rg; omega) (by unfold rg; omega) | omega | (unfold rg; omega) | (simp only [rg] at *; omega) | exact bz_rg _ | grind [rg]) (fun c225 => ?_) (fun c225 => ?_)
                      · exfalso; first | omega | grind
                      · refine a_iconst (pc := 228) ok dL_refuses_228 ?_
                        refine a_goto (pc := 229) (tgt := 238) ok dL_refuses_229 (by decide) ?_
                        refine a_iconst (pc := 238) ok dL_refuses_238 ?_
                        refine a_iconst (pc := 239) ok dL_refuses_239 ?_
                        refine v_o (pc := 240) ok ex gk.1 dL_refuses_240 (ug2 16 (by decide +kernel) rfl) (ug2 17 (by decide +kernel) rfl) miL_call hW (ctv_x1 (by unfold kIn; (repeat' split) <;> omega) (C_4 hl hA hW (k := -1) (u2 := 0) (u3 := 0) (by unfold rg; omega))) ⟨by decide, by decide⟩ ⟨Nat.le_of_ble_eq_true rfl, Nat.le_of_ble_eq_true rfl⟩ rfl rfl (Nat.le_of_ble_eq_true rfl) ?_
                        intro M hW
                        refine a_ldc (pc := 243) (z := -9999001) (v := Int32.ofInt (-9999001)) ok dL_refuses_243 (ug3 205 (by decide +kernel) rfl) (by decide) ?_
                        refine a_icmp_ne (pc := 245) (tgt := 988) ok dL_refuses_245 (by decide) (by first | exact rg_w _ | exact rg_tw (by unfold rg; omega) (by unfold rg; omega) | omega | (unfold rg; omega) | (simp only [rg] at *; omega) | exact bz_rg _ | grind [rg]) (by first | exact rg_w _ | exact rg_tw (by unfold rg; omega) (by unfold rg; omega) | omega | (unfold rg; omega) | (simp only [rg] at *; omega) | exact bz_rg _ | grind [rg]) (fun c245 => ?_) (fun c245 => ?_)
                        · exfalso; first | omega | grind
                        · refine a_aload_n (pc := 248) ok dL_refuses_248 rfl ?_
                          refine a_iconst (pc := 249) ok dL_refuses_249 ?_
                          refine a_iload (pc := 250) ok dL_refuses_250 rfl ?_
                          refine a_bipush (pc := 252) ok dL_refuses_252 (by decide) ?_
                          refine a_iconst (pc := 254) ok dL_refuses_254 ?_
                          refine v_o (pc := 255) ok ex gk.1 dL_refuses_255 (ug2 16 (by decide +kernel) rfl) (ug2 17 (by decide +kernel) rfl) miL_call hW (ctv_x1 (by unfold kIsle; (repeat' split) <;> omega) (C_5 hl hA hW (i := -1 - x % 9) (w := 9) (u3 := 0) (by unfold rg; omega) (by unfold rg; omega))) ⟨by decide, by decide⟩ ⟨Nat.le_of_ble_eq_true rfl, Nat.le_of_ble_eq_true rfl⟩ rfl rfl (Nat.le_of_ble_eq_true rfl) ?_
                          intro M hW
                          refine a_ldc (pc := 258) (z := -9999001) (v := Int32.ofInt (-9999001)) ok dL_refuses_258 (ug3 205 (by decide +kernel) rfl) (by decide) ?_
                          refine a_icmp_ne (pc := 260) (tgt := 988) ok dL_refuses_260 (by decide) (by first | exact rg_w _ | exact rg_tw (by unfold rg; omega) (by unfold rg; omega) | omega | (unfold rg; omega) | (simp only [rg] at *; omega) | exact bz_rg _ | grind [rg]) (by first | exact rg_w _ | exact rg_tw (by unfold rg; omega) (by unfold rg; omega) | omega | (unfold rg; omega) | (simp only [rg] at *; omega) | exact bz_rg _ | grind [rg]) (fun c260 => ?_) (fun c260 => ?_)
                          · exfalso; first | omega | grind
                          · refine a_aload_n (pc := 263) ok dL_refuses_263 rfl ?_
                            refine a_bipush (pc := 264) ok dL_refuses_264 (by decide) ?_
                            refine a_iload (pc := 266) ok dL_refuses_266 rfl ?_
                            refine a_iconst (pc := 268) ok dL_refuses_268 ?_
                            refine a_iconst (pc := 269) ok dL_refuses_269 ?_
                            refine v_o (pc := 270) ok ex gk.1 dL_refuses_270 (ug2 16 (by decide +kernel) rfl) (ug2 17 (by decide +kernel) rfl) miL_call hW (ctv_x1 (by unfold kBor; (repeat' split) <;> omega) (C_6 hl hA hW (i := -1 - x % 9) (j := 0) (u3 := 0) (by unfold rg; omega) (by unfold rg; omega))) ⟨by decide, by decide⟩ ⟨Nat.le_of_ble_eq_true rfl, Nat.le_of_ble_eq_true rfl⟩ rfl rfl (Nat.le_of_ble_eq_true rfl) ?_
                            intro M hW
                            refine a_ldc (pc := 273) (z := -9999001) (v := Int32.ofInt (-9999001)) ok dL_refuses_273 (ug3 205 (by decide +kernel) rfl) (by decide) ?_
                            refine a_icmp_ne (pc := 275) (tgt := 988) ok dL_refuses_275 (by decide) (by first | exact rg_w _ | exact rg_tw (by unfold rg; omega) (by unfold rg; omega) | omega | (unfold rg; omega) | (simp only [rg] at *; omega) | exact bz_rg _ | grind [rg]) (by first | exact rg_w _ | exact rg_tw (by unfold rg; omega) (by unfold rg; omega) | omega | (unfold rg; omega) | (simp only [rg] at *; omega) | exact bz_rg _ | grind [rg]) (fun c275 => ?_) (fun c275 => ?_)
                            · exfalso; first | omega | grind
                            · refine a_aload_n (pc := 278) ok dL_refuses_278 rfl ?_
                              refine a_bipush (pc := 279) ok dL_refuses_279 (by decide) ?_
                              refine a_iconst (pc := 281) ok dL_refuses_281 ?_
                              refine a_iconst (pc := 282) ok dL_refuses_282 ?_
                              refine a_iload_n (pc := 283) ok dL_refuses_283 rfl ?_
                              refine a_bipush (pc := 284) ok dL_refuses_284 (by decide) ?_
                              refine a_irem (pc := 286) ok dL_refuses_286 (by first | exact rg_w _ | exact rg_tw (by unfold rg; omega) (by unfold rg; omega) | omega | (unfold rg; omega) | (simp only [rg] at *; omega) | exact bz_rg _ | grind [rg]) (by first | exact rg_w _ | exact rg_tw (by unfold rg; omega) (by unfold rg; omega) | omega | (unfold rg; omega) | (simp only [rg] at *; omega) | exact bz_rg _ | grind [rg]) ?_
                              refine a_iadd (pc := 287) ok dL_refuses_287 ?_
                              refine a_iconst (pc := 288) ok dL_refuses_288 ?_
                              refine v_o (pc := 289) ok ex gk.1 dL_refuses_289 (ug2 16 (by decide +kernel) rfl) (ug2 17 (by decide +kernel) rfl) miL_call hW (ctv_x2 (by unfold kIsle; (repeat' split) <;> omega) (C_7 hl hA hW (i := 0) (w := 3 + x % 9) (u3 := 0) (by unfold rg; omega) (by unfold rg; omega))) ⟨by decide, by decide⟩ ⟨Nat.le_of_ble_eq_true rfl, Nat.le_of_ble_eq_true rfl⟩ rfl rfl (Nat.le_of_ble_eq_true rfl) ?_
                              intro M hW
                              refine a_ldc (pc := 292) (z := -9999002) (v := Int32.ofInt (-9999002)) ok dL_refuses_292 (ug2 127 (by decide +kernel) rfl) (by decide) ?_
                              refine a_icmp_ne (pc := 294) (tgt := 988) ok dL_refuses_294 (by decide) (by first | exact rg_w _ | exact rg_tw (by unfold rg; omega) (by unfold rg; omega) | omega | (unfold rg; omega) | (simp only [rg] at *; omega) | exact bz_rg _ | grind [rg]) (by first | exact rg_w _ | exact rg_tw (by unfold rg; omega) (by unfold rg; omega) | omega | (unfold rg; omega) | (simp only [rg] at *; omega) | exact bz_rg _ | grind [rg]) (fun c294 => ?_) (fun c294 => ?_)
                              · exfalso; first | omega | grind
                              · refine a_aload_n (pc := 297) ok dL_refuses_297 rfl ?_
                                refine a_bipush (pc := 298) ok dL_refuses_298 (by decide) ?_
                                refine a_iconst (pc := 300) ok dL_refuses_300 ?_
                                refine a_iconst (pc := 301) ok dL_refuses_301 ?_
                                refine a_iload_n (pc := 302) ok dL_refuses_302 rfl ?_
                                refine a_bipush (pc := 303) ok dL_refuses_303 (by decide) ?_
                                refine a_irem (pc := 305) ok dL_refuses_305 (by first | exact rg_w _ | exact rg_tw (by unfold rg; omega) (by unfold rg; omega) | omega | (unfold rg; omega) | (simp only [rg] at *; omega) | exact bz_rg _ | grind [rg]) (by first | exact rg_w _ | exact rg_tw (by unfold rg; omega) (by unfold rg; omega) | omega | (unfold rg; omega) | (simp only [rg] at *; omega) | exact bz_rg _ | grind [rg]) ?_
                                refine a_isub (pc := 306) ok dL_refuses_306 ?_
                                refine a_iconst (pc := 307) ok dL_refuses_307 ?_
                                refine v_o (pc := 308) ok ex gk.1 dL_refuses_308 (ug2 16 (by decide +kernel) rfl) (ug2 17 (by decide +kernel) rfl) miL_call hW (ctv_x1 (by unfold kWay; (repeat' split) <;> omega) (C_8 hl hA hW (i := 0) (k := -1 - x % 9) (u3 := 0) (by unfold rg; omega) (by unfold rg; omega))) ⟨by decide, by decide⟩ ⟨Nat.le_of_ble_eq_true rfl, Nat.le_of_ble_eq_true rfl⟩ rfl rfl (Nat.le_of_ble_eq_true rfl) ?_
                                intro M hW
                                refine a_ldc (pc := 311) (z := -9999001) (v := Int32.ofInt (-9999001)) ok dL_refuses_311 (ug3 205 (by decide +kernel) rfl) (by decide) ?_
                                refine a_icmp_ne (pc := 313) (tgt := 988) ok dL_refuses_313 (by decide) (by first | exact rg_w _ | exact rg_tw (by unfold rg; omega) (by unfold rg; omega) | omega | (unfold rg; omega) | (simp only [rg] at *; omega) | exact bz_rg _ | grind [rg]) (by first | exact rg_w _ | exact rg_tw (by unfold rg; omega) (by unfold rg; omega) | omega | (unfold rg; omega) | (simp only [rg] at *; omega) | exact bz_rg _ | grind [rg]) (fun c313 => ?_) (fun c313 => ?_)
                                · exfalso; first | omega | grind
                                · refine a_aload_n (pc := 316) ok dL_refuses_316 rfl ?_
                                  refine a_bipush (pc := 317) ok dL_refuses_317 (by decide) ?_
                                  refine a_bipush (pc := 319) ok dL_refuses_319 (by decide) ?_
                                  refine a_iload_n (pc := 321) ok dL_refuses_321 rfl ?_
                                  refine a_bipush (pc := 322) ok dL_refuses_322 (by decide) ?_
                                  refine a_irem (pc := 324) ok dL_refuses_324 (by first | exact rg_w _ | exact rg_tw (by unfold rg; omega) (by unfold rg; omega) | omega | (unfold rg; omega) | (simp only [rg] at *; omega) | exact bz_rg _ | grind [rg]) (by first | exact rg_w _ | exact rg_tw (by unfold rg; omega) (by unfold rg; omega) | omega | (unfold rg; omega) | (simp only [rg] at *; omega) | exact bz_rg _ | grind [rg]) ?_
                                  refine a_iadd (pc := 325) ok dL_refuses_325 ?_
                                  refine a_bipush (pc := 326) ok dL_refuses_326 (by decide) ?_
                                  refine a_iconst (pc := 328) ok dL_refuses_328 ?_
                                  refine v_o (pc := 329) ok ex gk.1 dL_refuses_329 (ug2 16 (by decide +kernel) rfl) (ug2 17 (by decide +kernel) rfl) miL_call hW (ctv_x1 (by unfold kBand; (repeat' split) <;> omega) (C_9 hl hA hW (x := 6 + x % 9) (w := 9) (u3 := 0) (by unfold rg; omega) (by unfold rg; omega))) ⟨by decide, by decide⟩ ⟨Nat.le_of_ble_eq_true rfl, Nat.le_of_ble_eq_true rfl⟩ rfl rfl (Nat.le_of_ble_eq_true rfl) ?_
                                  intro M hW
                                  refine a_ldc (pc := 332) (z := -9999001) (v := Int32.ofInt (-9999001)) ok dL_refuses_332 (ug3 205 (by decide +kernel) rfl) (by decide) ?_
                                  refine a_icmp_ne (pc := 334) (tgt := 988) ok dL_refuses_334 (by decide) (by first | exact rg_w _ | exact rg_tw (by unfold rg; omega) (by unfold rg; omega) | omega | (unfold rg; omega) | (simp only [rg] at *; omega) | exact bz_rg _ | grind [rg]) (by first | exact rg_w _ | exact rg_tw (by unfold rg; omega) (by unfold rg; omega) | omega | (unfold rg; omega) | (simp only [rg] at *; omega) | exact bz_rg _ | grind [rg]) (fun c334 => ?_) (fun c334 => ?_)
                                  · exfalso; first | omega | grind
                                  · refine a_aload_n (pc := 337) ok dL_refuses_337 rfl ?_
                                    refine a_bipush (pc := 338) ok dL_refuses_338 (by decide) ?_
                                    refine a_iconst (pc := 340) ok dL_refuses_340 ?_
                                    refine a_iconst (pc := 341) ok dL_refuses_341 ?_
                                    refine a_iload_n (pc := 342) ok dL_refuses_342 rfl ?_
                                    refine a_bipush (pc := 343) ok dL_refuses_343 (by decide) ?_
                                    refine a_irem (pc := 345) ok dL_refuses_345 (by first | exact rg_w _ | exact rg_tw (by unfold rg; omega) (by unfold rg; omega) | omega | (unfold rg; omega) | (simp only [rg] at *; omega) | exact bz_rg _ | grind [rg]) (by first | exact rg_w _ | exact rg_tw (by unfold rg; omega) (by unfold rg; omega) | omega | (unfold rg; omega) | (simp only [rg] at *; omega) | exact bz_rg _ | grind [rg]) ?_
                                    refine a_iadd (pc := 346) ok dL_refuses_346 ?_
                                    refine a_iconst (pc := 347) ok dL_refuses_347 ?_
                                    refine v_o (pc := 348) ok ex gk.1 dL_refuses_348 (ug2 16 (by decide +kernel) rfl) (ug2 17 (by decide +kernel) rfl) miL_call hW (ctv_x2 (by unfold kBand; (repeat' split) <;> omega) (C_9 hl hA hW (x := 0) (w := 4 + x % 9) (u3 := 0) (by unfold rg; omega) (by unfold rg; omega))) ⟨by decide, by decide⟩ ⟨Nat.le_of_ble_eq_true rfl, Nat.le_of_ble_eq_true rfl⟩ rfl rfl (Nat.le_of_ble_eq_true rfl) ?_
                                    intro M hW
                                    refine a_ldc (pc := 351) (z := -9999002) (v := Int32.ofInt (-9999002)) ok dL_refuses_351 (ug2 127 (by decide +kernel) rfl) (by decide) ?_
                                    refine a_icmp_ne (pc := 353) (tgt := 988) ok dL_refuses_353 (by decide) (by first | exact rg_w _ | exact rg_tw (by unfold rg; omega) (by unfold rg; omega) | omega | (unfold rg; omega) | (simp only [rg] at *; omega) | exact bz_rg _ | grind [rg]) (by first | exact rg_w _ | exact rg_tw (by unfold rg; omega) (by unfold rg; omega) | omega | (unfold rg; omega) | (simp only [rg] at *; omega) | exact bz_rg _ | grind [rg]) (fun c353 => ?_) (fun c353 => ?_)
                                    · exfalso; first | omega | grind
                                    · refine a_aload_n (pc := 356) ok dL_refuses_356 rfl ?_
                                      refine a_bipush (pc := 357) ok dL_refuses_357 (by decide) ?_
                                      refine a_iload_n (pc := 359) ok dL_refuses_359 rfl ?_
                                      refine a_iconst (pc := 360) ok dL_refuses_360 ?_
                                      refine a_irem (pc := 361) ok dL_refuses_361 (by first | exact rg_w _ | exact rg_tw (by unfold rg; omega) (by unfold rg; omega) | omega | (unfold rg; omega) | (simp only [rg] at *; omega) | exact bz_rg _ | grind [rg]) (by first | exact rg_w _ | exact rg_tw (by unfold rg; omega) (by unfold rg; omega) | omega | (unfold rg; omega) | (simp only [rg] at *; omega) | exact bz_rg _ | grind [rg]) ?_
                                      refine a_if_ne (pc := 362) (tgt := 369) ok dL_refuses_362 (by decide) (by first | exact rg_w _ | exact rg_tw (by unfold rg; omega) (by unfold rg; omega) | omega | (unfold rg; omega) | (simp only [rg] at *; omega) | exact bz_rg _ | grind [rg]) (fun c362 => ?_) (fun c362 => ?_)
                                      · exfalso; first | omega | grind
                                      · refine a_iconst (pc := 365) ok dL_refuses_365 ?_
                                        refine a_goto (pc := 366) (tgt := 376) ok dL_refuses_366 (by decide) ?_
                                        refine a_iconst (pc := 376) ok dL_refuses_376 ?_
                                        refine a_iconst (pc := 377) ok dL_refuses_377 ?_
                                        refine v_o (pc := 378) ok ex gk.1 dL_refuses_378 (ug2 16 (by decide +kernel) rfl) (ug2 17 (by decide +kernel) rfl) miL_call hW (ctv_x1 (by unfold kPlate; (repeat' split) <;> omega) (C_10 hl hA hW (c := 0) (r := 1) (u3 := 0) (by unfold rg; omega) (by unfold rg; omega))) ⟨by decide, by decide⟩ ⟨Nat.le_of_ble_eq_true rfl, Nat.le_of_ble_eq_true rfl⟩ rfl rfl (Nat.le_of_ble_eq_true rfl) ?_
                                        intro M hW
                                        refine a_ldc (pc := 381) (z := -9999002) (v := Int32.ofInt (-9999002)) ok dL_refuses_381 (ug2 127 (by decide +kernel) rfl) (by decide) ?_
                                        refine a_icmp_ne (pc := 383) (tgt := 988) ok dL_refuses_383 (by decide) (by first | exact rg_w _ | exact rg_tw (by unfold rg; omega) (by unfold rg; omega) | omega | (unfold rg; omega) | (simp only [rg] at *; omega) | exact bz_rg _ | grind [rg]) (by first | exact rg_w _ | exact rg_tw (by unfold rg; omega) (by unfold rg; omega) | omega | (unfold rg; omega) | (simp only [rg] at *; omega) | exact bz_rg _ | grind [rg]) (fun c383 => ?_) (fun c383 => ?_)
                                        · exfalso; first | omega | grind
                                        · refine a_aload_n (pc := 386) ok dL_refuses_386 rfl ?_
                                          refine a_bipush (pc := 387) ok dL_refuses_387 (by decide) ?_
                                          refine a_iconst (pc := 389) ok dL_refuses_389 ?_
                                          refine a_iload_n (pc := 390) ok dL_refuses_390 rfl ?_
                                          refine a_iconst (pc := 391) ok dL_refuses_391 ?_
                                          refine a_irem (pc := 392) ok dL_refuses_392 (by first | exact rg_w _ | exact rg_tw (by unfold rg; omega) (by unfold rg; omega) | omega | (unfold rg; omega) | (simp only [rg] at *; omega) | exact bz_rg _ | grind [rg]) (by first | exact rg_w _ | exact rg_tw (by unfold rg; omega) (by unfold rg; omega) | omega | (unfold rg; omega) | (simp only [rg] at *; omega) | exact bz_rg _ | grind [rg]) ?_
                                          refine a_if_ne (pc := 393) (tgt := 400) ok dL_refuses_393 (by decide) (by first | exact rg_w _ | exact rg_tw (by unfold rg; omega) (by unfold rg; omega) | omega | (unfold rg; omega) | (simp only [rg] at *; omega) | exact bz_rg _ | grind [rg]) (fun c393 => ?_) (fun c393 => ?_)
                                          · exfalso; first | omega | grind
                                          · refine a_iconst (pc := 396) ok dL_refuses_396 ?_
                                            refine a_goto (pc := 397) (tgt := 407) ok dL_refuses_397 (by decide) ?_
                                            refine a_iconst (pc := 407) ok dL_refuses_407 ?_
                                            refine v_o (pc := 408) ok ex gk.1 dL_refuses_408 (ug2 16 (by decide +kernel) rfl) (ug2 17 (by decide +kernel) rfl) miL_call hW (ctv_x1 (by unfold kPlate; (repeat' split) <;> omega) (C_10 hl hA hW (c := 1) (r := 0) (u3 := 0) (by unfold rg; omega) (by unfold rg; omega))) ⟨by decide, by decide⟩ ⟨Nat.le_of_ble_eq_true rfl, Nat.le_of_ble_eq_true rfl⟩ rfl rfl (Nat.le_of_ble_eq_true rfl) ?_
                                            intro M hW
                                            refine a_ldc (pc := 411) (z := -9999002) (v := Int32.ofInt (-9999002)) ok dL_refuses_411 (ug2 127 (by decide +kernel) rfl) (by decide) ?_
                                            refine a_icmp_ne (pc := 413) (tgt := 988) ok dL_refuses_413 (by decide) (by first | exact rg_w _ | exact rg_tw (by unfold rg; omega) (by unfold rg; omega) | omega | (unfold rg; omega) | (simp only [rg] at *; omega) | exact bz_rg _ | grind [rg]) (by first | exact rg_w _ | exact rg_tw (by unfold rg; omega) (by unfold rg; omega) | omega | (unfold rg; omega) | (simp only [rg] at *; omega) | exact bz_rg _ | grind [rg]) (fun c413 => ?_) (fun c413 => ?_)
                                            · exfalso; first | omega | grind
                                            · refine a_aload_n (pc := 416) ok dL_refuses_416 rfl ?_
                                              refine a_bipush (pc := 417) ok dL_refuses_417 (by decide) ?_
                                              refine a_iload (pc := 419) ok dL_refuses_419 rfl ?_
                                              refine a_iconst (pc := 421) ok dL_refuses_421 ?_
                                              refine a_sipush (pc := 422) ok dL_refuses_422 (by decide) ?_
                                              refine v_o (pc := 425) ok ex gk.1 dL_refuses_425 (ug2 16 (by decide +kernel) rfl) (ug2 17 (by decide +kernel) rfl) miL_call hW (ctv_x1 (by unfold kPut; (repeat' split) <;> omega) (C_11 hl hA hW (x := -1 - x % 99) (y := 0) (g := 200) (by unfold rg; omega) (by unfold rg; omega) (by unfold rg; omega))) ⟨by decide, by decide⟩ ⟨Nat.le_of_ble_eq_true rfl, Nat.le_of_ble_eq_true rfl⟩ rfl rfl (Nat.le_of_ble_eq_true rfl) ?_
                                              intro M hW
                                              refine a_ldc (pc := 428) (z := -9999001) (v := Int32.ofInt (-9999001)) ok dL_refuses_428 (ug3 205 (by decide +kernel) rfl) (by decide) ?_
                                              refine a_icmp_ne (pc := 430) (tgt := 988) ok dL_refuses_430 (by decide) (by first | exact rg_w _ | exact rg_tw (by unfold rg; omega) (by unfold rg; omega) | omega | (unfold rg; omega) | (simp only [rg] at *; omega) | exact bz_rg _ | grind [rg]) (by first | exact rg_w _ | exact rg_tw (by unfold rg; omega) (by unfold rg; omega) | omega | (unfold rg; omega) | (simp only [rg] at *; omega) | exact bz_rg _ | grind [rg]) (fun c430 => ?_) (fun c430 => ?_)
                                              · exfalso; first | omega | grind
                                              · refine a_aload_n (pc := 433) ok dL_refuses_433 rfl ?_
                                                refine a_bipush (pc := 434) ok dL_refuses_434 (by decide) ?_
                                                refine a_iconst (pc := 436) ok dL_refuses_436 ?_
                                                refine a_iload (pc := 437) ok dL_refuses_437 rfl ?_
                                                refine a_sipush (pc := 439) ok dL_refuses_439 (by decide) ?_
                                                refine v_o (pc := 442) ok ex gk.1 dL_refuses_442 (ug2 16 (by decide +kernel) rfl) (ug2 17 (by decide +kernel) rfl) miL_call hW (ctv_x1 (by unfold kPut; (repeat' split) <;> omega) (C_11 hl hA hW (x := 0) (y := -1 - x % 99) (g := 200) (by unfold rg; omega) (by unfold rg; omega) (by unfold rg; omega))) ⟨by decide, by decide⟩ ⟨Nat.le_of_ble_eq_true rfl, Nat.le_of_ble_eq_true rfl⟩ rfl rfl (Nat.le_of_ble_eq_true rfl) ?_
                                                intro M hW
                                                refine a_ldc (pc := 445) (z := -9999001) (v := Int32.ofInt (-9999001)) ok dL_refuses_445 (ug3 205 (by decide +kernel) rfl) (by decide) ?_
                                                refine a_icmp_ne (pc := 447) (tgt := 988) ok dL_refuses_447 (by decide) (by first | exact rg_w _ | exact rg_tw (by unfold rg; omega) (by unfold rg; omega) | omega | (unfold rg; omega) | (simp only [rg] at *; omega) | exact bz_rg _ | grind [rg]) (by first | exact rg_w _ | exact rg_tw (by unfold rg; omega) (by unfold rg; omega) | omega | (unfold rg; omega) | (simp only [rg] at *; omega) | exact bz_rg _ | grind [rg]) (fun c447 => ?_) (fun c447 => ?_)
                                                · exfalso; first | omega | grind
                                                · refine a_aload_n (pc := 450) ok dL_refuses_450 rfl ?_
                                                  refine a_bipush (pc := 451) ok dL_refuses_451 (by decide) ?_
                                                  refine a_iload_n (pc := 453) ok dL_refuses_453 rfl ?_
                                                  refine a_iload_n (pc := 454) ok dL_refuses_454 rfl ?_
                                                  refine a_irem (pc := 455) ok dL_refuses_455 (by first | exact rg_w _ | exact rg_tw (by unfold rg; omega) (by unfold rg; omega) | omega | (unfold rg; omega) | (simp only [rg] at *; omega) | exact bz_rg _ | grind [rg]) (by first | exact rg_w _ | exact rg_tw (by unfold rg; omega) (by unfold rg; omega) | omega | (unfold rg; omega) | (simp only [rg] at *; omega) | exact bz_rg _ | grind [rg]) ?_
                                                  refine a_iload_n (pc := 456) ok dL_refuses_456 rfl ?_
                                                  refine a_iload_n (pc := 457) ok dL_refuses_457 rfl ?_
                                                  refine a_irem (pc := 458) ok dL_refuses_458 (by first | exact rg_w _ | exact rg_tw (by unfold rg; omega) (by unfold rg; omega) | omega | (unfold rg; omega) | (simp only [rg] at *; omega) | exact bz_rg _ | grind [rg]) (by first | exact rg_w _ | exact rg_tw (by unfold rg; omega) (by unfold rg; omega) | omega | (unfold rg; omega) | (simp only [rg] at *; omega) | exact bz_rg _ | grind [rg]) ?_
                                                  refine a_iload (pc := 459) ok dL_refuses_459 rfl ?_
                                                  refine v_o (pc := 461) ok ex gk.1 dL_refuses_461 (ug2 16 (by decide +kernel) rfl) (ug2 17 (by decide +kernel) rfl) miL_call hW (ctv_x2 (by unfold kPut; (repeat' split) <;> omega) (C_11 hl hA hW (x := x % sC (jS A)) (y := x % sR (jS A)) (g := -1 - x % 99) (by unfold rg; omega) (by unfold rg; omega) (by unfold rg; omega))) ⟨by decide, by decide⟩ ⟨Nat.le_of_ble_eq_true rfl, Nat.le_of_ble_eq_true rfl⟩ rfl rfl (Nat.le_of_ble_eq_true rfl) ?_
                                                  intro M hW
                                                  refine a_ldc (pc := 464) (z := -9999002) (v := Int32.ofInt (-9999002)) ok dL_refuses_464 (ug2 127 (by decide +kernel) rfl) (by decide) ?_
                                                  refine a_icmp_ne (pc := 466) (tgt := 988) ok dL_refuses_466 (by decide) (by first | exact rg_w _ | exact rg_tw (by unfold rg; omega) (by unfold rg; omega) | omega | (unfold rg; omega) | (simp only [rg] at *; omega) | exact bz_rg _ | grind [rg]) (by first | exact rg_w _ | exact rg_tw (by unfold rg; omega) (by unfold rg; omega) | omega | (unfold rg; omega) | (simp only [rg] at *; omega) | exact bz_rg _ | grind [rg]) (fun c466 => ?_) (fun c466 => ?_)
                                                  · exfalso; first | omega | grind
                                                  · refine a_aload_n (pc := 469) ok dL_refuses_469 rfl ?_
                                                    refine a_iload (pc := 470) ok dL_refuses_470 rfl ?_
                                                    refine a_iconst (pc := 472) ok dL_refuses_472 ?_
                                                    refine a_iconst (pc := 473) ok dL_refuses_473 ?_
                                                    refine a_iconst (pc := 474) ok dL_refuses_474 ?_
                                                    refine a_sipush (pc := 475) ok dL_refuses_475 (by decide) ?_
                                                    refine w_o (pc := 478) ok ex dL_refuses_478 (ug4 209 (by decide +kernel) rfl) (ug4 210 (by decide +kernel) rfl) miL_boxes hW (ctw_x1 (by unfold kBox inP; (repeat' split) <;> omega) (T_boxes hl hA hW (x0 := -1 - x % 99) (x1 := 0) (y0 := 0) (y1 := 0) (g := 200) (by unfold rg; omega) (by unfold rg; omega) (by unfold rg; omega) (by unfold rg; omega) (by unfold rg; omega))) ⟨by decide, by decide, rfl, rfl⟩ ⟨Nat.le_of_ble_eq_true rfl, Nat.le_of_ble_eq_true rfl⟩ rfl rfl (Nat.le_of_ble_eq_true rfl) ?_
                                                    intro M hW
                                                    refine a_ldc (pc := 481) (z := -9999001) (v := Int32.ofInt (-9999001)) ok dL_refuses_481 (ug3 205 (by decide +kernel) rfl) (by decide) ?_
                                                    refine a_icmp_ne (pc := 483) (tgt := 988) ok dL_refuses_483 (by decide) (by first | exact rg_w _ | exact rg_tw (by unfold rg; omega) (by unfold rg; omega) | omega | (unfold rg; omega) | (simp only [rg] at *; omega) | exact bz_rg _ | grind [rg]) (by first | exact rg_w _ | exact rg_tw (by unfold rg; omega) (by unfold rg; omega) | omega | (unfold rg; omega) | (simp only [rg] at *; omega) | exact bz_rg _ | grind [rg]) (fun c483 => ?_) (fun c483 => ?_)
                                                    · exfalso; first | omega | grind
                                                    · refine a_aload_n (pc := 486) ok dL_refuses_486 rfl ?_
                                                      refine a_iconst (pc := 487) ok dL_refuses_487 ?_
                                                      refine a_iload_n (pc := 488) ok dL_refuses_488 rfl ?_
                                                      refine a_iconst (pc := 489) ok dL_refuses_489 ?_
                                                      refine a_isub (pc := 490) ok dL_refuses_490 ?_
                                                      refine a_iconst (pc := 491) ok dL_refuses_491 ?_
                                                      refine a_iload_n (pc := 492) ok dL_refuses_492 rfl ?_
                                                      refine a_iconst (pc := 493) ok dL_refuses_493 ?_
                                                      refine a_isub (pc := 494) ok dL_refuses_494 ?_
                                                      refine a_iload (pc := 495) ok dL_refuses_495 rfl ?_
                                                      refine w_o (pc := 497) ok ex dL_refuses_497 (ug4 209 (by decide +kernel) rfl) (ug4 210 (by decide +kernel) rfl) miL_boxes hW (ctw_x2 (by unfold kBox inP; (repeat' split) <;> omega) (T_boxes hl hA hW (x0 := 0) (x1 := sC (jS A) - 1) (y0 := 0) (y1 := sR (jS A) - 1) (g := -1 - x % 99) (by unfold rg; omega) (by unfold rg; omega) (by unfold rg; omega) (by unfold rg; omega) (by unfold rg; omega))) ⟨by decide, by decide, rfl, rfl⟩ ⟨Nat.le_of_ble_eq_true rfl, Nat.le_of_ble_eq_true rfl⟩ rfl rfl (Nat.le_of_ble_eq_true rfl) ?_
                                                      intro M hW
                                                      refine a_ldc (pc := 500) (z := -9999002) (v := Int32.ofInt (-9999002)) ok dL_refuses_500 (ug2 127 (by decide +kernel) rfl) (by decide) ?_
                                                      refine a_icmp_ne (pc := 502) (tgt := 988) ok dL_refuses_502 (by decide) (by first | exact rg_w _ | exact rg_tw (by unfold rg; omega) (by unfold rg; omega) | omega | (unfold rg; omega) | (simp only [rg] at *; omega) | exact bz_rg _ | grind [rg]) (by first | exact rg_w _ | exact rg_tw (by unfold rg; omega) (by unfold rg; omega) | omega | (unfold rg; omega) | (simp only [rg] at *; omega) | exact bz_rg _ | grind [rg]) (fun c502 => ?_) (fun c502 => ?_)
                                                      · exfalso; first | omega | grind
                                                      · refine a_iload_n (pc := 505) ok dL_refuses_505 rfl ?_
                                                        refine a_iconst (pc := 506) ok dL_refuses_506 ?_
                                                        refine a_icmp_eq (pc := 507) (tgt := 524) ok dL_refuses_507 (by decide) (by first | exact rg_w _ | exact rg_tw (by unfold rg; omega) (by unfold rg; omega) | omega | (unfold rg; omega) | (simp only [rg] at *; omega) | exact bz_rg _ | grind [rg]) (by first | exact rg_w _ | exact rg_tw (by unfold rg; omega) (by unfold rg; omega) | omega | (unfold rg; omega) | (simp only [rg] at *; omega) | exact bz_rg _ | grind [rg]) (fun c507 => ?_) (fun c507 => ?_)
                                                        · refine AW.widen (kc2 := 30) (ks2 := 180) (Nat.le_of_ble_eq_true rfl) (Nat.le_of_ble_eq_true rfl) ?_
                                                          exact ref_te hl hN gk ex hA hW hx hp
                                                        · refine a_aload_n (pc := 510) ok dL_refuses_510 rfl ?_
                                                          refine a_iconst (pc := 511) ok dL_refuses_511 ?_
                                                          refine a_iconst (pc := 512) ok dL_refuses_512 ?_
                                                          refine a_iconst (pc := 513) ok dL_refuses_513 ?_
                                                          refine a_iconst (pc := 514) ok dL_refuses_514 ?_
                                                          refine a_iconst (pc := 515) ok dL_refuses_515 ?_
                                                          refine w_o (pc := 516) ok ex dL_refuses_516 (ug4 209 (by decide +kernel) rfl) (ug4 210 (by decide +kernel) rfl) miL_boxes hW (ctw_x2 (by unfold kBox inP; (repeat' split) <;> omega) (T_boxes hl hA hW (x0 := 1) (x1 := 0) (y0 := 0) (y1 := 0) (g := 5) (by unfold rg; omega) (by unfold rg; omega) (by unfold rg; omega) (by unfold rg; omega) (by unfold rg; omega))) ⟨by decide, by decide, rfl, rfl⟩ ⟨Nat.le_of_ble_eq_true rfl, Nat.le_of_ble_eq_true rfl⟩ rfl rfl (Nat.le_of_ble_eq_true rfl) ?_
                                                          intro M hW
                                                          refine a_ldc (pc := 519) (z := -9999002) (v := Int32.ofInt (-9999002)) ok dL_refuses_519 (ug2 127 (by decide +kernel) rfl) (by decide) ?_
                                                          refine a_icmp_ne (pc := 521) (tgt := 988) ok dL_refuses_521 (by decide) (by first | exact rg_w _ | exact rg_tw (by unfold rg; omega) (by unfold rg; omega) | omega | (unfold rg; omega) | (simp only [rg] at *; omega) | exact bz_rg _ | grind [rg]) (by first | exact rg_w _ | exact rg_tw (by unfold rg; omega) (by unfold rg; omega) | omega | (unfold rg; omega) | (simp only [rg] at *; omega) | exact bz_rg _ | grind [rg]) (fun c521 => ?_) (fun c521 => ?_)
                                                          · exfalso; first | omega | grind
                                                          · refine AW.widen (kc2 := 30) (ks2 := 180) (Nat.le_of_ble_eq_true rfl) (Nat.le_of_ble_eq_true rfl) ?_
                                                            exact ref_te hl hN gk ex hA hW hx hp
end RF1
