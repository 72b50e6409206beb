/-! MODEL's face: runScript. -/
section MQ6
variable {l : Launch} {rf sz : Int} {S : St} {ac : Int} {B I : Int → Int} {m : Int} {Fi Co Br Wt mk gy : Int → Int} {S2 : St} {tx di ke ik ea : Int → Int} {sd rt lf wy sp ou : Int}
def kRun (n x : Int) : Int := if (1 ≤ n ∧ n ≤ 2) ∧ 0 ≤ x ∧ x ≤ (if n ≤ 0 then 1 else if n = 1 then 100000000 else 10000000000000000) - 1 then 0 else 1
theorem if01 {p : Prop} [Decidable p] : (if p then (0 : Int) else 1) = 0 ∨ (if p then (0 : Int) else 1) = 1 := by split <;> simp
theorem kRun_01 {n x : Int} : kRun n x = 0 ∨ kRun n x = 1 := if01
/-- the group of the command k -/
def grp (n x : Int) (k : Nat) : Int := if n = 1 then x else if k = 0 then x / 100000000 else x % 100000000
noncomputable def aRun (S : St) (n x : Int) : Int :=
  if cmZ S (grp n x 0 / 10000000) (grp n x 0 % 10000000) = 0 then 0 else if n = 1 then -1 else if cmZ (cmS S (grp n x 0 / 10000000) (grp n x 0 % 10000000)) (grp n x 1 / 10000000) (grp n x 1 % 10000000) = 0 then 1 else -1
theorem cmZ_01 {k a : Int} : cmZ S k a = 0 ∨ cmZ S k a = 1 := by
  unfold cmZ
  repeat' split
  all_goals first | exact bz_01 _ | exact Or.inl rfl
theorem CM_len {M : List va_E} (h : CM rf sz S ac S2 tx di ke ik ea M) : M.length = 16 := by obtain ⟨B, I, m, Fi, Co, Br, Wt, mk, gy, sd, rt, lf, wy, sp, ou, rfl, -, -⟩ := h; rfl
theorem dX7_runScript_0 : decode cX7_runScript 0 = .ok (.lconst 1, 1) := by decide +kernel
theorem dX7_runScript_1 : decode cX7_runScript 1 = .ok (.lstore 4, 2) := by decide +kernel
theorem dX7_runScript_3 : decode cX7_runScript 3 = .ok (.iconst 0, 1) := by decide +kernel
theorem dX7_runScript_4 : decode cX7_runScript 4 = .ok (.istore 6, 2) := by decide +kernel
theorem dX7_runScript_6 : decode cX7_runScript 6 = .ok (.iload 6, 2) := by decide +kernel
theorem dX7_runScript_8 : decode cX7_runScript 8 = .ok (.iload_n 1, 1) := by decide +kernel
theorem dX7_runScript_9 : decode cX7_runScript 9 = .ok (.if_icmp .ge 23, 3) := by decide +kernel
theorem dX7_runScript_12 : decode cX7_runScript 12 = .ok (.iload 6, 2) := by decide +kernel
theorem dX7_runScript_14 : decode cX7_runScript 14 = .ok (.iconst 2, 1) := by decide +kernel
theorem dX7_runScript_15 : decode cX7_runScript 15 = .ok (.if_icmp .ge 17, 3) := by decide +kernel
theorem dX7_runScript_18 : decode cX7_runScript 18 = .ok (.lload 4, 2) := by decide +kernel
theorem dX7_runScript_20 : decode cX7_runScript 20 = .ok (.ldc2_w 342, 3) := by decide +kernel
theorem dX7_runScript_23 : decode cX7_runScript 23 = .ok (.lmul, 1) := by decide +kernel
theorem dX7_runScript_24 : decode cX7_runScript 24 = .ok (.lstore 4, 2) := by decide +kernel
theorem dX7_runScript_26 : decode cX7_runScript 26 = .ok (.iinc 6 1, 3) := by decide +kernel
theorem dX7_runScript_29 : decode cX7_runScript 29 = .ok (.goto (-23), 3) := by decide +kernel
theorem dX7_runScript_32 : decode cX7_runScript 32 = .ok (.aload_n 0, 1) := by decide +kernel
theorem dX7_runScript_33 : decode cX7_runScript 33 = .ok (.iload_n 1, 1) := by decide +kernel
theorem dX7_runScript_34 : decode cX7_runScript 34 = .ok (.i2l, 1) := by decide +kernel
theorem dX7_runScript_35 : decode cX7_runScript 35 = .ok (.lconst 1, 1) := by decide +kernel
theorem dX7_runScript_36 : decode cX7_runScript 36 = .ok (.ldc2_w 287, 3) := by decide +kernel
theorem dX7_runScript_39 : decode cX7_runScript 39 = .ok (.invokestatic 68, 3) := by decide +kernel
theorem dX7_runScript_42 : decode cX7_runScript 42 = .ok (.ifCond .eq 19, 3) := by decide +kernel
theorem dX7_runScript_45 : decode cX7_runScript 45 = .ok (.lload_n 2, 1) := by decide +kernel
theorem dX7_runScript_46 : decode cX7_runScript 46 = .ok (.lconst 0, 1) := by decide +kernel
theorem dX7_runScript_47 : decode cX7_runScript 47 = .ok (.lload 4, 2) := by decide +kernel
theorem dX7_runScript_49 : decode cX7_runScript 49 = .ok (.lconst 1, 1) := by decide +kernel
theorem dX7_runScript_50 : decode cX7_runScript 50 = .ok (.lsub, 1) := by decide +kernel
theorem dX7_runScript_51 : decode cX7_runScript 51 = .ok (.invokestatic 68, 3) := by decide +kernel
theorem dX7_runScript_54 : decode cX7_runScript 54 = .ok (.ifCond .eq 7, 3) := by decide +kernel
theorem dX7_runScript_57 : decode cX7_runScript 57 = .ok (.iconst 0, 1) := by decide +kernel
theorem dX7_runScript_58 : decode cX7_runScript 58 = .ok (.goto 4, 3) := by decide +kernel
theorem dX7_runScript_61 : decode cX7_runScript 61 = .ok (.iconst 1, 1) := by decide +kernel
theorem dX7_runScript_62 : decode cX7_runScript 62 = .ok (.invokevirtual 192, 3) := by decide +kernel
theorem dX7_runScript_65 : decode cX7_runScript 65 = .ok (.ifCond .eq 5, 3) := by decide +kernel
theorem dX7_runScript_68 : decode cX7_runScript 68 = .ok (.iconst 0, 1) := by decide +kernel
theorem dX7_runScript_69 : decode cX7_runScript 69 = .ok (.ireturn, 1) := by decide +kernel
theorem dX7_runScript_70 : decode cX7_runScript 70 = .ok (.aload_n 0, 1) := by decide +kernel
theorem dX7_runScript_71 : decode cX7_runScript 71 = .ok (.getfield 13, 3) := by decide +kernel
theorem dX7_runScript_74 : decode cX7_runScript 74 = .ok (.iconst 0, 1) := by decide +kernel
theorem dX7_runScript_75 : decode cX7_runScript 75 = .ok (.aload_n 0, 1) := by decide +kernel
theorem dX7_runScript_76 : decode cX7_runScript 76 = .ok (.getfield 16, 3) := by decide +kernel
theorem dX7_runScript_79 : decode cX7_runScript 79 = .ok (.iconst 0, 1) := by decide +kernel
theorem dX7_runScript_80 : decode cX7_runScript 80 = .ok (.invokestatic 246, 3) := by decide +kernel
theorem dX7_runScript_83 : decode cX7_runScript 83 = .ok (.iconst 0, 1) := by decide +kernel
theorem dX7_runScript_84 : decode cX7_runScript 84 = .ok (.istore 6, 2) := by decide +kernel
theorem dX7_runScript_86 : decode cX7_runScript 86 = .ok (.iload 6, 2) := by decide +kernel
theorem dX7_runScript_88 : decode cX7_runScript 88 = .ok (.iload_n 1, 1) := by decide +kernel
theorem dX7_runScript_89 : decode cX7_runScript 89 = .ok (.if_icmp .ge 50, 3) := by decide +kernel
theorem dX7_runScript_92 : decode cX7_runScript 92 = .ok (.lload 4, 2) := by decide +kernel
theorem dX7_runScript_94 : decode cX7_runScript 94 = .ok (.ldc2_w 342, 3) := by decide +kernel
theorem dX7_runScript_97 : decode cX7_runScript 97 = .ok (.ldiv, 1) := by decide +kernel
theorem dX7_runScript_98 : decode cX7_runScript 98 = .ok (.lstore 4, 2) := by decide +kernel
theorem dX7_runScript_100 : decode cX7_runScript 100 = .ok (.lload_n 2, 1) := by decide +kernel
theorem dX7_runScript_101 : decode cX7_runScript 101 = .ok (.lload 4, 2) := by decide +kernel
theorem dX7_runScript_103 : decode cX7_runScript 103 = .ok (.ldiv, 1) := by decide +kernel
theorem dX7_runScript_104 : decode cX7_runScript 104 = .ok (.ldc2_w 342, 3) := by decide +kernel
theorem dX7_runScript_107 : decode cX7_runScript 107 = .ok (.lrem, 1) := by decide +kernel
theorem dX7_runScript_108 : decode cX7_runScript 108 = .ok (.l2i, 1) := by decide +kernel
theorem dX7_runScript_109 : decode cX7_runScript 109 = .ok (.istore 7, 2) := by decide +kernel
theorem dX7_runScript_111 : decode cX7_runScript 111 = .ok (.aload_n 0, 1) := by decide +kernel
theorem dX7_runScript_112 : decode cX7_runScript 112 = .ok (.iload 7, 2) := by decide +kernel
theorem dX7_runScript_114 : decode cX7_runScript 114 = .ok (.ldc_w 344, 3) := by decide +kernel
theorem dX7_runScript_117 : decode cX7_runScript 117 = .ok (.idiv, 1) := by decide +kernel
theorem dX7_runScript_118 : decode cX7_runScript 118 = .ok (.iload 7, 2) := by decide +kernel
theorem dX7_runScript_120 : decode cX7_runScript 120 = .ok (.ldc_w 344, 3) := by decide +kernel
theorem dX7_runScript_123 : decode cX7_runScript 123 = .ok (.irem, 1) := by decide +kernel
theorem dX7_runScript_124 : decode cX7_runScript 124 = .ok (.invokevirtual 345, 3) := by decide +kernel
theorem dX7_runScript_127 : decode cX7_runScript 127 = .ok (.ifCond .ne 6, 3) := by decide +kernel
theorem dX7_runScript_130 : decode cX7_runScript 130 = .ok (.iload 6, 2) := by decide +kernel
theorem dX7_runScript_132 : decode cX7_runScript 132 = .ok (.ireturn, 1) := by decide +kernel
theorem dX7_runScript_133 : decode cX7_runScript 133 = .ok (.iinc 6 1, 3) := by decide +kernel
theorem dX7_runScript_136 : decode cX7_runScript 136 = .ok (.goto (-50), 3) := by decide +kernel
theorem dX7_runScript_139 : decode cX7_runScript 139 = .ok (.iconst (-1), 1) := by decide +kernel
theorem dX7_runScript_140 : decode cX7_runScript 140 = .ok (.ireturn, 1) := by decide +kernel
set_option maxRecDepth 100000 in
theorem c_mrunScript {n x : Int} (hS : SV S) (hB : ∀ i, 0 ≤ B i ∧ B i ≤ 5) (hI : ∀ i, rg (I i)) (hn : rg n) (hx : rgL x) : Ct l yX7_runScript cX7_runScript 8 (some .int) rmX7_runScript [.ref 0, iv n, jv x] (mdW rf sz S ac B I m Fi Co Br Wt mk gy S2 tx di ke ik ea sd rt lf wy sp ou)
    (fun z M => z = some (iv (if kRun n x = 0 then aRun S n x else 0)) ∧ WM (kRun n x) sz S ac tx di ke ik M) := by
  refine Ct.of miX7_runScript (Nat.le_of_ble_eq_true rfl) ?_
  intro X hXl hN ok
  refine AW.cast (L2 := [some (.ref 0), some (iv n), some (jv x), none, none, none, none, none]) ?_ rfl rfl rfl
  have s62 : ∀ A z : Int, A = (if n ≤ 0 then 1 else if n = 1 then 100000000 else 10000000000000000) → z = kRun n x → AW X 0 0 62 [some (.ref 0), some (iv n), some (jv x), none, some (jv A), none, none, none] [iv z, .ref 0] (mdW rf sz S ac B I m Fi Co Br Wt mk gy S2 tx di ke ik ea sd rt lf wy sp ou) := by
    intro A z hA hz
    by_cases k0 : kRun n x = 0
    · rw [if_pos k0] at ok
      rw [k0] at ok hz
      subst hz
      have hw : (1 ≤ n ∧ n ≤ 2) ∧ 0 ≤ x ∧ x ≤ A - 1 := by
        unfold kRun at k0
        rw [← hA] at k0
        split at k0
        · assumption
        · omega
      have s139 : ∀ (S2 : St) (B I : Int → Int) (m : Int) (Fi Co Br Wt mk gy : Int → Int) (sd rt lf wy sp ou : Int) (A k : Int) (v7 : Option Value), n ≤ k → k ≤ 2 → aRun S n x = -1 → (∀ i, 0 ≤ B i ∧ B i ≤ 5) → (∀ i, rg (I i)) → AW X 0 0 86 [some (.ref 0), some (iv n), some (jv x), none, some (jv A), none, some (iv k), v7] [] (mdW (0) sz S ac B I m Fi Co Br Wt mk gy S2 tx di ke ik ea sd rt lf wy sp ou) := by
        intro S2 B I m Fi Co Br Wt mk gy sd rt lf wy sp ou A k v7 hk hk2 ha hB hI
        refine a_iload (pc := 86) ok dX7_runScript_86 rfl ?_
        refine a_iload_n (pc := 88) ok dX7_runScript_88 rfl ?_
        refine a_icmp_ge (pc := 89) (tgt := 139) ok dX7_runScript_89 (by decide) (by first | omega | (unfold rg; omega) | (simp only [rg] at *; omega) | exact bz_rg _ | grind [rg]) (by first | omega | (unfold rg; omega) | (simp only [rg] at *; omega) | exact bz_rg _ | grind [rg]) (fun c89 => ?_) (fun c89 => ?_)
        · refine a_iconst (pc := 139) ok dX7_runScript_139 ?_
          exact a_iret (pc := 140) ok dX7_runScript_140 (⟨by rw [ha], WM_mk hB hI⟩)
        · omega
      have s86 : ∀ (P : St) (B I : Int → Int) (m : Int) (Fi Co Br Wt mk gy : Int → Int) (sd rt lf wy sp ou : Int) (A A2 g k : Int) (v7 : Option Value), 0 ≤ k ∧ k < n → (0 ≤ A ∧ A ≤ 10000000000000000) → A2 = A / 100000000 → (1 ≤ A2 ∧ A2 ≤ 100000000) → g = x / A2 % 100000000 → SV P → (∀ i, 0 ≤ B i ∧ B i ≤ 5) → (∀ i, rg (I i)) →
          (cmZ P (g / 10000000) (g % 10000000) = 0 → aRun S n x = k) →
          (cmZ P (g / 10000000) (g % 10000000) ≠ 0 → ∀ (v7 : Option Value) (M' : List va_E), CM 0 sz S ac (cmS P (g / 10000000) (g % 10000000)) tx di ke ik ea M' → AW X 0 0 86 [some (.ref 0), some (iv n), some (jv x), none, some (jv A2), none, some (iv (k + 1)), v7] [] M') →
          AW X 0 0 86 [some (.ref 0), some (iv n), some (jv x), none, some (jv A), none, some (iv k), v7] [] (mdW (0) sz S ac B I m Fi Co Br Wt mk gy (P) tx di ke ik ea sd rt lf wy sp ou) := by
        intro P B I m Fi Co Br Wt mk gy sd rt lf wy sp ou A A2 g k v7 hk hA hA2 hA3 hg hP hB hI hz hnz
        have h01 := cmZ_01 (S := P) (k := g / 10000000) (a := g % 10000000)
        have hq : 0 ≤ x / A2 := Int.ediv_nonneg hw.2.1 (by omega)
        have hg2 : 0 ≤ g ∧ g < 100000000 := by omega
        have hxu : x < 9223372036854775808 := hx.2
        have hq2 : x / A2 ≤ x := Int.ediv_le_self _ hw.2.1
        refine a_iload (pc := 86) ok dX7_runScript_86 rfl ?_
        refine a_iload_n (pc := 88) ok dX7_runScript_88 rfl ?_
        refine a_icmp_ge (pc := 89) (tgt := 139) ok dX7_runScript_89 (by decide) (by first | omega | (unfold rg; omega) | (simp only [rg] at *; omega) | exact bz_rg _ | grind [rg]) (by first | omega | (unfold rg; omega) | (simp only [rg] at *; omega) | exact bz_rg _ | grind [rg]) (fun c89 => ?_) (fun c89 => ?_)
        · omega
        · refine a_lload (pc := 92) ok dX7_runScript_92 rfl ?_
          refine a_ldc2 (pc := 94) (z := 100000000) (v := Int64.ofInt 100000000) ok dX7_runScript_94 (ug7 26 (by decide +kernel) rfl) rfl ?_
          refine a_ldiv (pc := 97) ok dX7_runScript_97 (by first | omega | (unfold rg; omega) | (simp only [rg] at *; omega) | exact bz_rg _ | grind [rg]) (by first | omega | (unfold rg; omega) | (simp only [rg] at *; omega) | exact bz_rg _ | grind [rg]) ?_
          rw [← hA2]
          refine a_lstore (pc := 98) ok dX7_runScript_98 rfl (by rw [hN]; decide) ?_
          refine a_lload_n (pc := 100) ok dX7_runScript_100 rfl ?_
          refine a_lload (pc := 101) ok dX7_runScript_101 rfl ?_
          refine a_ldiv (pc := 103) ok dX7_runScript_103 (by first | omega | (unfold rg; omega) | (simp only [rg] at *; omega) | exact bz_rg _ | grind [rg]) (by first | omega | (unfold rg; omega) | (simp only [rg] at *; omega) | exact bz_rg _ | grind [rg]) ?_
          refine a_ldc2 (pc := 104) (z := 100000000) (v := Int64.ofInt 100000000) ok dX7_runScript_104 (ug7 26 (by decide +kernel) rfl) rfl ?_
          refine a_lrem (pc := 107) ok dX7_runScript_107 (by first | omega | (unfold rg; omega) | (simp only [rg] at *; omega) | exact bz_rg _ | grind [rg]) (by first | omega | (unfold rg; omega) | (simp only [rg] at *; omega) | exact bz_rg _ | grind [rg]) ?_
          refine a_l2i (pc := 108) ok dX7_runScript_108 ?_
          rw [← hg]
          refine a_istore (pc := 109) ok dX7_runScript_109 rfl (by rw [hN]; decide) ?_
          refine a_aload_n (pc := 111) ok dX7_runScript_111 rfl ?_
          refine a_iload (pc := 112) ok dX7_runScript_112 rfl ?_
          refine a_ldcw (pc := 114) (z := 10000000) (v := Int32.ofInt 10000000) ok dX7_runScript_114 (ug7 27 (by decide +kernel) rfl) (by decide) ?_
          refine a_idiv (pc := 117) ok dX7_runScript_117 (by first | omega | (unfold rg; omega) | (simp only [rg] at *; omega) | exact bz_rg _ | grind [rg]) (by first | omega | (unfold rg; omega) | (simp only [rg] at *; omega) | exact bz_rg _ | grind [rg]) ?_
          refine a_iload (pc := 118) ok dX7_runScript_118 rfl ?_
          refine a_ldcw (pc := 120) (z := 10000000) (v := Int32.ofInt 10000000) ok dX7_runScript_120 (ug7 27 (by decide +kernel) rfl) (by decide) ?_
          refine a_irem (pc := 123) ok dX7_runScript_123 (by first | omega | (unfold rg; omega) | (simp only [rg] at *; omega) | exact bz_rg _ | grind [rg]) (by first | omega | (unfold rg; omega) | (simp only [rg] at *; omega) | exact bz_rg _ | grind [rg]) ?_
          refine a_callV (pc := 124) ok [0, 1, 2, 3, 4, 5, 6, 7, 8, 9, 10, 11, 12, 13, 14, 15] dX7_runScript_124 mv7_345 miX7_command (c_mcommand (k := g / 10000000) (a := g % 10000000) hP hB hI (by omega) (by omega)) ⟨by decide, by decide, rfl, rfl, Nat.zero_le _, Nat.zero_le _⟩ rfl rfl (Nat.le_of_ble_eq_true rfl) rfl (by decide) rfl rfl (fun v M' h => CM_len h.2) ?_
          rintro _ M' ⟨rfl, hM⟩
          refine AW.cast (st2 := [iv (cmZ P (g / 10000000) (g % 10000000))]) (M2 := M') ?_ rfl rfl (by obtain ⟨B, I, m, Fi, Co, Br, Wt, mk, gy, sd, rt, lf, wy, sp, ou, rfl, -, -⟩ := hM; rfl)
          refine a_if_ne (pc := 127) (tgt := 133) ok dX7_runScript_127 (by decide) (by first | omega | (unfold rg; omega) | (simp only [rg] at *; omega) | exact bz_rg _ | grind [rg]) (fun c127 => ?_) (fun c127 => ?_)
          · refine a_iinc (pc := 133) ok dX7_runScript_133 rfl rfl (by rw [hN]; decide) ?_
            refine a_goto (pc := 136) (tgt := 86) ok dX7_runScript_136 (by decide) ?_
            exact hnz (by omega) _ M' hM
          · refine a_iload (pc := 130) ok dX7_runScript_130 rfl ?_
            exact a_iret (pc := 132) ok dX7_runScript_132 (⟨by rw [hz (by omega)], by obtain ⟨B, I, m, Fi, Co, Br, Wt, mk, gy, sd, rt, lf, wy, sp, ou, rfl, hB2, hI2⟩ := hM; exact WM_mk hB2 hI2⟩)
      have fin : ∀ (S2 : St) (A k : Int) (v7 : Option Value) (M' : List va_E), n ≤ k → k ≤ 2 → aRun S n x = -1 → CM 0 sz S ac S2 tx di ke ik ea M' → AW X 0 0 86 [some (.ref 0), some (iv n), some (jv x), none, some (jv A), none, some (iv k), v7] [] M' := by
        intro S2 A k v7 M' hk hk2 ha hM
        obtain ⟨B, I, m, Fi, Co, Br, Wt, mk, gy, sd, rt, lf, wy, sp, ou, rfl, hB2, hI2⟩ := hM
        exact s139 S2 B I m Fi Co Br Wt mk gy sd rt lf wy sp ou A k v7 hk hk2 ha hB2 hI2
      have start : ∀ gy : Int → Int, AW X 0 0 86 [some (.ref 0), some (iv n), some (jv x), none, some (jv A), none, some (iv 0), none] [] (mdW (0) sz S ac B I m Fi Co Br Wt mk gy (S) tx di ke ik ea sd rt lf wy sp ou) := by
        intro gy
        rcases (show n = 1 ∨ n = 2 by omega) with e | e
        · subst e
          rw [if_neg (by omega), if_pos rfl] at hA
          have e0 : grp 1 x 0 = x := if_pos rfl
          refine s86 S B I m Fi Co Br Wt mk gy sd rt lf wy sp ou A 1 x 0 none (by omega) (by omega) (by rw [hA]; rfl) (by omega) (by rw [Int.ediv_one]; omega) hS hB hI ?_ ?_
          · intro h
            unfold aRun
            rw [e0, if_pos h]
          · intro h v7 M' hM
            refine fin _ 1 (0 + 1) v7 M' (by omega) (by omega) ?_ hM
            unfold aRun
            rw [e0, if_neg h, if_pos rfl]
        · subst e
          rw [if_neg (by omega), if_neg (by omega)] at hA
          have e0 : grp 2 x 0 = x / 100000000 := by unfold grp; rw [if_neg (by omega), if_pos rfl]
          have e1 : grp 2 x 1 = x % 100000000 := by unfold grp; rw [if_neg (by omega), if_neg (by omega)]
          refine s86 S B I m Fi Co Br Wt mk gy sd rt lf wy sp ou A 100000000 (x / 100000000) 0 none (by omega) (by omega) (by rw [hA]; rfl) (by omega) (by omega) hS hB hI ?_ ?_
          · intro h
            unfold aRun
            rw [e0, if_pos h]
          · intro h v7 M' hM
            have hP1 : SV (cmS S (x / 100000000 / 10000000) (x / 100000000 % 10000000)) := SV_cmS hS
            obtain ⟨B, I, m, Fi, Co, Br, Wt, mk, gy, sd, rt, lf, wy, sp, ou, rfl, hB2, hI2⟩ := hM
            refine s86 _ B I m Fi Co Br Wt mk gy sd rt lf wy sp ou 100000000 1 (x % 100000000) (0 + 1) v7 (by omega) (by omega) rfl (by omega) (by rw [Int.ediv_one]) hP1 hB2 hI2 ?_ ?_
            · intro h2
              unfold aRun
              rw [e0, e1, if_neg h, if_neg (by omega), if_pos h2]; rfl
            · intro h2 v7 M' hM
              refine fin _ 1 (0 + 1 + 1) v7 M' (by omega) (by omega) ?_ hM
              unfold aRun
              rw [e0, e1, if_neg h, if_neg (by omega), if_neg h2]
      refine x_callVi (pc := 62) ok [0, 11, 1, 10, 12, 13, 14, 2, 3, 4, 5, 6, 7, 8, 9, 15] 1 dX7_runScript_62 mv7_192 miX7_refused (c_refused (by unfold rg; omega)) ⟨by decide, by decide, rfl, rfl, Nat.zero_le _, Nat.zero_le _⟩ rfl rfl (Nat.le_of_ble_eq_true rfl) rfl rfl (by decide) rfl rfl rfl ?_
      refine a_if_eq (pc := 65) (tgt := 70) ok dX7_runScript_65 (by decide) (by first | omega | (unfold rg; omega) | (simp only [rg] at *; omega) | exact bz_rg _ | grind [rg]) (fun c65 => ?_) (fun c65 => ?_)
      · refine AW.cast (M2 := (mdW (0) sz S ac B I m Fi Co Br Wt mk gy S2 tx di ke ik ea sd rt lf wy sp ou)) ?_ rfl rfl rfl
        refine a_aload_n (pc := 70) ok dX7_runScript_70 rfl ?_
        refine a_getf (pc := 71) ok dX7_runScript_71 fl7_13 rfl rfl ?_
        refine a_iconst (pc := 74) ok dX7_runScript_74 ?_
        refine a_aload_n (pc := 75) ok dX7_runScript_75 rfl ?_
        refine a_getf (pc := 76) ok dX7_runScript_76 fl7_16 rfl rfl ?_
        refine a_iconst (pc := 79) ok dX7_runScript_79 ?_
        refine a_callSv (pc := 80) ok [1, 10] dX7_runScript_80 mv7_246 miX7_copyState (c_copyRow) ⟨by decide, by decide, rfl, rfl, Nat.zero_le _, Nat.zero_le _⟩ rfl rfl (Nat.le_of_ble_eq_true rfl) rfl (by decide) rfl ?_
        refine AW.cast (M2 := (mdW (0) sz S ac B I m Fi Co Br Wt mk gy (S) tx di ke ik ea sd rt lf wy sp ou)) ?_ rfl rfl rfl
        refine a_iconst (pc := 83) ok dX7_runScript_83 ?_
        refine a_istore (pc := 84) ok dX7_runScript_84 rfl (by rw [hN]; decide) ?_
        exact start gy
      · exact absurd rfl c65
    · have hz1 : z = 1 := by rw [hz]; exact kRun_01.resolve_left k0
      rw [if_neg k0, ← hz, hz1] at ok
      rw [hz1]
      refine x_callVi (pc := 62) ok [0, 11, 1, 10, 12, 13, 14, 2, 3, 4, 5, 6, 7, 8, 9, 15] 1 dX7_runScript_62 mv7_192 miX7_refused (c_refused (by unfold rg; omega)) ⟨by decide, by decide, rfl, rfl, Nat.zero_le _, Nat.zero_le _⟩ rfl rfl (Nat.le_of_ble_eq_true rfl) rfl rfl (by decide) rfl rfl rfl ?_
      refine a_if_eq (pc := 65) (tgt := 70) ok dX7_runScript_65 (by decide) (by first | omega | (unfold rg; omega) | (simp only [rg] at *; omega) | exact bz_rg _ | grind [rg]) (fun c65 => ?_) (fun c65 => ?_)
      · exact absurd c65 (by decide)
      · refine a_iconst (pc := 68) ok dX7_runScript_68 ?_
        exact a_iret (pc := 69) ok dX7_runScript_69 (⟨rfl, WM_mk hB hI⟩)
  have s32 : ∀ (A : Int) (v6 : Option Value), A = (if n ≤ 0 then 1 else if n = 1 then 100000000 else 10000000000000000) → AW X 0 0 32 [some (.ref 0), some (iv n), some (jv x), none, some (jv A), none, v6, none] [] (mdW rf sz S ac B I m Fi Co Br Wt mk gy S2 tx di ke ik ea sd rt lf wy sp ou) := by
    intro A v6 hA
    have hA2 : 1 ≤ A ∧ A ≤ 10000000000000000 := by
      rw [hA]
      repeat' split
      all_goals omega
    have k1 : bz (1 ≤ n ∧ n ≤ 2) = 0 → 1 = kRun n x := fun h => by unfold kRun; rw [if_neg (fun z => bz_0.mp h z.1)]
    have k2 : bz (0 ≤ x ∧ x ≤ A - 1) = 0 → 1 = kRun n x := fun h => by unfold kRun; rw [← hA, if_neg (fun z => bz_0.mp h z.2)]
    refine a_aload_n (pc := 32) ok dX7_runScript_32 rfl ?_
    refine a_iload_n (pc := 33) ok dX7_runScript_33 rfl ?_
    refine a_i2l (pc := 34) ok dX7_runScript_34 (by first | omega | (unfold rg; omega) | (simp only [rg] at *; omega) | exact bz_rg _ | grind [rg]) ?_
    refine a_lconst (pc := 35) (z := 1) ok dX7_runScript_35 rfl ?_
    refine a_ldc2 (pc := 36) (z := 2) (v := Int64.ofInt 2) ok dX7_runScript_36 (ug6 133 (by decide +kernel) rfl) rfl ?_
    refine a_callSp (pc := 39) ok [] dX7_runScript_39 mv7_68 miX7_in (c_in (by unfold rgL; unfold rg at hn; omega) (by unfold rgL; omega) (by unfold rgL; omega)) ⟨by decide, by decide, rfl, rfl, Nat.zero_le _, Nat.zero_le _⟩ rfl rfl (Nat.le_of_ble_eq_true rfl) rfl (by decide) ?_
    refine a_if_eq (pc := 42) (tgt := 61) ok dX7_runScript_42 (by decide) (by exact bz_rg _) (fun c42 => ?_) (fun c42 => ?_)
    · refine a_iconst (pc := 61) ok dX7_runScript_61 ?_
      exact AW.forget (s62 A 1 hA (k1 c42)) (by repeat' (first | exact trivial | refine ⟨rfl, ?_⟩))
    · refine a_lload_n (pc := 45) ok dX7_runScript_45 rfl ?_
      refine a_lconst (pc := 46) (z := 0) ok dX7_runScript_46 rfl ?_
      refine a_lload (pc := 47) ok dX7_runScript_47 rfl ?_
      refine a_lconst (pc := 49) (z := 1) ok dX7_runScript_49 rfl ?_
      refine a_lsub (pc := 50) ok dX7_runScript_50 ?_
      refine a_callSp (pc := 51) ok [] dX7_runScript_51 mv7_68 miX7_in (c_in hx (by unfold rgL; omega) (by unfold rgL; omega)) ⟨by decide, by decide, rfl, rfl, Nat.zero_le _, Nat.zero_le _⟩ rfl rfl (Nat.le_of_ble_eq_true rfl) rfl (by decide) ?_
      refine a_if_eq (pc := 54) (tgt := 61) ok dX7_runScript_54 (by decide) (by exact bz_rg _) (fun c54 => ?_) (fun c54 => ?_)
      · refine a_iconst (pc := 61) ok dX7_runScript_61 ?_
        exact AW.forget (s62 A 1 hA (k2 c54)) (by repeat' (first | exact trivial | refine ⟨rfl, ?_⟩))
      · refine a_iconst (pc := 57) ok dX7_runScript_57 ?_
        refine a_goto (pc := 58) (tgt := 62) ok dX7_runScript_58 (by decide) ?_
        exact AW.forget (s62 A 0 hA (by unfold kRun; rw [← hA, if_pos ⟨bz_y c42, bz_y c54⟩])) (by repeat' (first | exact trivial | refine ⟨rfl, ?_⟩))
  have t2 : 2 ≤ n → AW X 0 0 6 [some (.ref 0), some (iv n), some (jv x), none, some (jv 10000000000000000), none, some (iv 2), none] [] (mdW rf sz S ac B I m Fi Co Br Wt mk gy S2 tx di ke ik ea sd rt lf wy sp ou) := by
    intro h
    refine a_iload (pc := 6) ok dX7_runScript_6 rfl ?_
    refine a_iload_n (pc := 8) ok dX7_runScript_8 rfl ?_
    refine a_icmp_ge (pc := 9) (tgt := 32) ok dX7_runScript_9 (by decide) (by first | omega | (unfold rg; omega) | (simp only [rg] at *; omega) | exact bz_rg _ | grind [rg]) (by first | omega | (unfold rg; omega) | (simp only [rg] at *; omega) | exact bz_rg _ | grind [rg]) (fun c9 => ?_) (fun c9 => ?_)
    · exact s32 _ _ (by rw [if_neg (by omega), if_neg (by omega)])
    · refine a_iload (pc := 12) ok dX7_runScript_12 rfl ?_
      refine a_iconst (pc := 14) ok dX7_runScript_14 ?_
      refine a_icmp_ge (pc := 15) (tgt := 32) ok dX7_runScript_15 (by decide) (by first | omega | (unfold rg; omega) | (simp only [rg] at *; omega) | exact bz_rg _ | grind [rg]) (by first | omega | (unfold rg; omega) | (simp only [rg] at *; omega) | exact bz_rg _ | grind [rg]) (fun c15 => ?_) (fun c15 => ?_)
      · exact s32 _ _ (by rw [if_neg (by omega), if_neg (by omega)])
      · omega
  have t1 : 1 ≤ n → AW X 0 0 6 [some (.ref 0), some (iv n), some (jv x), none, some (jv 100000000), none, some (iv 1), none] [] (mdW rf sz S ac B I m Fi Co Br Wt mk gy S2 tx di ke ik ea sd rt lf wy sp ou) := by
    intro h
    refine a_iload (pc := 6) ok dX7_runScript_6 rfl ?_
    refine a_iload_n (pc := 8) ok dX7_runScript_8 rfl ?_
    refine a_icmp_ge (pc := 9) (tgt := 32) ok dX7_runScript_9 (by decide) (by first | omega | (unfold rg; omega) | (simp only [rg] at *; omega) | exact bz_rg _ | grind [rg]) (by first | omega | (unfold rg; omega) | (simp only [rg] at *; omega) | exact bz_rg _ | grind [rg]) (fun c9 => ?_) (fun c9 => ?_)
    · exact s32 _ _ (by rw [if_neg (by omega), if_pos (by omega)])
    · refine a_iload (pc := 12) ok dX7_runScript_12 rfl ?_
      refine a_iconst (pc := 14) ok dX7_runScript_14 ?_
      refine a_icmp_ge (pc := 15) (tgt := 32) ok dX7_runScript_15 (by decide) (by first | omega | (unfold rg; omega) | (simp only [rg] at *; omega) | exact bz_rg _ | grind [rg]) (by first | omega | (unfold rg; omega) | (simp only [rg] at *; omega) | exact bz_rg _ | grind [rg]) (fun c15 => ?_) (fun c15 => ?_)
      · omega
      · refine a_lload (pc := 18) ok dX7_runScript_18 rfl ?_
        refine a_ldc2 (pc := 20) (z := 100000000) (v := Int64.ofInt 100000000) ok dX7_runScript_20 (ug7 26 (by decide +kernel) rfl) rfl ?_
        refine a_lmul (pc := 23) ok dX7_runScript_23 ?_
        refine a_lstore (pc := 24) ok dX7_runScript_24 rfl (by rw [hN]; decide) ?_
        refine a_iinc (pc := 26) ok dX7_runScript_26 rfl rfl (by rw [hN]; decide) ?_
        refine a_goto (pc := 29) (tgt := 6) ok dX7_runScript_29 (by decide) ?_
        exact AW.cast (t2 (by omega)) rfl rfl rfl
  have t0 : AW X 0 0 6 [some (.ref 0), some (iv n), some (jv x), none, some (jv 1), none, some (iv 0), none] [] (mdW rf sz S ac B I m Fi Co Br Wt mk gy S2 tx di ke ik ea sd rt lf wy sp ou) := by
    refine a_iload (pc := 6) ok dX7_runScript_6 rfl ?_
    refine a_iload_n (pc := 8) ok dX7_runScript_8 rfl ?_
    refine a_icmp_ge (pc := 9) (tgt := 32) ok dX7_runScript_9 (by decide) (by first | omega | (unfold rg; omega) | (simp only [rg] at *; omega) | exact bz_rg _ | grind [rg]) (by first | omega | (unfold rg; omega) | (simp only [rg] at *; omega) | exact bz_rg _ | grind [rg]) (fun c9 => ?_) (fun c9 => ?_)
    · exact s32 _ _ (by rw [if_pos (by omega)])
    · refine a_iload (pc := 12) ok dX7_runScript_12 rfl ?_
      refine a_iconst (pc := 14) ok dX7_runScript_14 ?_
      refine a_icmp_ge (pc := 15) (tgt := 32) ok dX7_runScript_15 (by decide) (by first | omega | (unfold rg; omega) | (simp only [rg] at *; omega) | exact bz_rg _ | grind [rg]) (by first | omega | (unfold rg; omega) | (simp only [rg] at *; omega) | exact bz_rg _ | grind [rg]) (fun c15 => ?_) (fun c15 => ?_)
      · omega
      · refine a_lload (pc := 18) ok dX7_runScript_18 rfl ?_
        refine a_ldc2 (pc := 20) (z := 100000000) (v := Int64.ofInt 100000000) ok dX7_runScript_20 (ug7 26 (by decide +kernel) rfl) rfl ?_
        refine a_lmul (pc := 23) ok dX7_runScript_23 ?_
        refine a_lstore (pc := 24) ok dX7_runScript_24 rfl (by rw [hN]; decide) ?_
        refine a_iinc (pc := 26) ok dX7_runScript_26 rfl rfl (by rw [hN]; decide) ?_
        refine a_goto (pc := 29) (tgt := 6) ok dX7_runScript_29 (by decide) ?_
        exact AW.cast (t1 (by omega)) rfl rfl rfl
  refine a_lconst (pc := 0) (z := 1) ok dX7_runScript_0 rfl ?_
  refine a_lstore (pc := 1) ok dX7_runScript_1 rfl (by rw [hN]; decide) ?_
  refine a_iconst (pc := 3) ok dX7_runScript_3 ?_
  refine a_istore (pc := 4) ok dX7_runScript_4 rfl (by rw [hN]; decide) ?_
  exact t0
end MQ6
