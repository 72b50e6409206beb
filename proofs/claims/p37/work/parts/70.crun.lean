/-! THE CLASS: runScript, simulate, ifCell. -/
section CW7
variable {l : Launch} {S : St} {kn nk c0 r0 m0 ct : Int} {B F Z Br Q Fo No Ho Mo In Sn Qn : Int → Int} {sd rt lf wy : Int} {S2 : St} {c1 r1 m1 ct1 : Int} {B1 F1 Z1 Br1 Q1 Fo1 No1 gb : Int → Int}
theorem dX6_runScript_0 : decode cX6_runScript 0 = .ok (.iload_n 1, 1) := by decide +kernel
theorem dX6_runScript_1 : decode cX6_runScript 1 = .ok (.iconst 1, 1) := by decide +kernel
theorem dX6_runScript_2 : decode cX6_runScript 2 = .ok (.iconst 2, 1) := by decide +kernel
theorem dX6_runScript_3 : decode cX6_runScript 3 = .ok (.invokestatic 76, 3) := by decide +kernel
theorem dX6_runScript_6 : decode cX6_runScript 6 = .ok (.iload_n 1, 1) := by decide +kernel
theorem dX6_runScript_7 : decode cX6_runScript 7 = .ok (.iconst 1, 1) := by decide +kernel
theorem dX6_runScript_8 : decode cX6_runScript 8 = .ok (.if_icmp .ne 9, 3) := by decide +kernel
theorem dX6_runScript_11 : decode cX6_runScript 11 = .ok (.ldc2_w 372, 3) := by decide +kernel
theorem dX6_runScript_14 : decode cX6_runScript 14 = .ok (.goto 6, 3) := by decide +kernel
theorem dX6_runScript_17 : decode cX6_runScript 17 = .ok (.ldc2_w 374, 3) := by decide +kernel
theorem dX6_runScript_20 : decode cX6_runScript 20 = .ok (.lstore 4, 2) := by decide +kernel
theorem dX6_runScript_22 : decode cX6_runScript 22 = .ok (.lload_n 2, 1) := by decide +kernel
theorem dX6_runScript_23 : decode cX6_runScript 23 = .ok (.lconst 0, 1) := by decide +kernel
theorem dX6_runScript_24 : decode cX6_runScript 24 = .ok (.lcmp, 1) := by decide +kernel
theorem dX6_runScript_25 : decode cX6_runScript 25 = .ok (.ifCond .lt 10, 3) := by decide +kernel
theorem dX6_runScript_28 : decode cX6_runScript 28 = .ok (.lload_n 2, 1) := by decide +kernel
theorem dX6_runScript_29 : decode cX6_runScript 29 = .ok (.lload 4, 2) := by decide +kernel
theorem dX6_runScript_31 : decode cX6_runScript 31 = .ok (.lcmp, 1) := by decide +kernel
theorem dX6_runScript_32 : decode cX6_runScript 32 = .ok (.ifCond .lt 14, 3) := by decide +kernel
theorem dX6_runScript_35 : decode cX6_runScript 35 = .ok (.new 309, 3) := by decide +kernel
theorem dX6_runScript_38 : decode cX6_runScript 38 = .ok (.dup, 1) := by decide +kernel
theorem dX6_runScript_39 : decode cX6_runScript 39 = .ok (.ldc_w 376, 3) := by decide +kernel
theorem dX6_runScript_42 : decode cX6_runScript 42 = .ok (.invokespecial 313, 3) := by decide +kernel
theorem dX6_runScript_45 : decode cX6_runScript 45 = .ok (.athrow, 1) := by decide +kernel
theorem dX6_runScript_46 : decode cX6_runScript 46 = .ok (.aload_n 0, 1) := by decide +kernel
theorem dX6_runScript_47 : decode cX6_runScript 47 = .ok (.getfield 59, 3) := by decide +kernel
theorem dX6_runScript_50 : decode cX6_runScript 50 = .ok (.aload_n 0, 1) := by decide +kernel
theorem dX6_runScript_51 : decode cX6_runScript 51 = .ok (.getfield 19, 3) := by decide +kernel
theorem dX6_runScript_54 : decode cX6_runScript 54 = .ok (.invokevirtual 354, 3) := by decide +kernel
theorem dX6_runScript_57 : decode cX6_runScript 57 = .ok (.iconst 0, 1) := by decide +kernel
theorem dX6_runScript_58 : decode cX6_runScript 58 = .ok (.istore 6, 2) := by decide +kernel
theorem dX6_runScript_60 : decode cX6_runScript 60 = .ok (.iload 6, 2) := by decide +kernel
theorem dX6_runScript_62 : decode cX6_runScript 62 = .ok (.iload_n 1, 1) := by decide +kernel
theorem dX6_runScript_63 : decode cX6_runScript 63 = .ok (.if_icmp .ge 57, 3) := by decide +kernel
theorem dX6_runScript_66 : decode cX6_runScript 66 = .ok (.iload 6, 2) := by decide +kernel
theorem dX6_runScript_68 : decode cX6_runScript 68 = .ok (.iload_n 1, 1) := by decide +kernel
theorem dX6_runScript_69 : decode cX6_runScript 69 = .ok (.iconst 1, 1) := by decide +kernel
theorem dX6_runScript_70 : decode cX6_runScript 70 = .ok (.isub, 1) := by decide +kernel
theorem dX6_runScript_71 : decode cX6_runScript 71 = .ok (.if_icmp .ne 7, 3) := by decide +kernel
theorem dX6_runScript_74 : decode cX6_runScript 74 = .ok (.iconst 1, 1) := by decide +kernel
theorem dX6_runScript_75 : decode cX6_runScript 75 = .ok (.goto 4, 3) := by decide +kernel
theorem dX6_runScript_78 : decode cX6_runScript 78 = .ok (.iconst 0, 1) := by decide +kernel
theorem dX6_runScript_79 : decode cX6_runScript 79 = .ok (.istore 7, 2) := by decide +kernel
theorem dX6_runScript_81 : decode cX6_runScript 81 = .ok (.iload 7, 2) := by decide +kernel
theorem dX6_runScript_83 : decode cX6_runScript 83 = .ok (.ifCond .eq 11, 3) := by decide +kernel
theorem dX6_runScript_86 : decode cX6_runScript 86 = .ok (.lload_n 2, 1) := by decide +kernel
theorem dX6_runScript_87 : decode cX6_runScript 87 = .ok (.ldc2_w 372, 3) := by decide +kernel
theorem dX6_runScript_90 : decode cX6_runScript 90 = .ok (.lrem, 1) := by decide +kernel
theorem dX6_runScript_91 : decode cX6_runScript 91 = .ok (.goto 8, 3) := by decide +kernel
theorem dX6_runScript_94 : decode cX6_runScript 94 = .ok (.lload_n 2, 1) := by decide +kernel
theorem dX6_runScript_95 : decode cX6_runScript 95 = .ok (.ldc2_w 372, 3) := by decide +kernel
theorem dX6_runScript_98 : decode cX6_runScript 98 = .ok (.ldiv, 1) := by decide +kernel
theorem dX6_runScript_99 : decode cX6_runScript 99 = .ok (.l2i, 1) := by decide +kernel
theorem dX6_runScript_100 : decode cX6_runScript 100 = .ok (.istore 8, 2) := by decide +kernel
theorem dX6_runScript_102 : decode cX6_runScript 102 = .ok (.aload_n 0, 1) := by decide +kernel
theorem dX6_runScript_103 : decode cX6_runScript 103 = .ok (.iload 8, 2) := by decide +kernel
theorem dX6_runScript_105 : decode cX6_runScript 105 = .ok (.invokevirtual 378, 3) := by decide +kernel
theorem dX6_runScript_108 : decode cX6_runScript 108 = .ok (.ifCond .ne 6, 3) := by decide +kernel
theorem dX6_runScript_111 : decode cX6_runScript 111 = .ok (.iload 6, 2) := by decide +kernel
theorem dX6_runScript_113 : decode cX6_runScript 113 = .ok (.ireturn, 1) := by decide +kernel
theorem dX6_runScript_114 : decode cX6_runScript 114 = .ok (.iinc 6 1, 3) := by decide +kernel
theorem dX6_runScript_117 : decode cX6_runScript 117 = .ok (.goto (-57), 3) := by decide +kernel
theorem dX6_runScript_120 : decode cX6_runScript 120 = .ok (.iconst (-1), 1) := by decide +kernel
theorem dX6_runScript_121 : decode cX6_runScript 121 = .ok (.ireturn, 1) := by decide +kernel
set_option maxRecDepth 100000 in
theorem c_runScript {n x : Int} (hS : SV S) (hr : rwI B1 F1 Z1) (h0 : kRun n x = 0) (hn : rg n) (hx : rgL x) : Ct l yX6_runScript cX6_runScript 9 (some .int) rmX6_runScript [.ref 0, iv n, jv x] (clU kn nk S2 c1 r1 m1 ct1 B1 F1 Z1 Br1 Q1 Fo1 No1 gb S)
    (fun z M => z = some (iv (aRun S n x)) ∧ RU kn nk S M) := by
  refine Ct.of miX6_runScript (Nat.le_of_ble_eq_true rfl) ?_
  intro X hXl hN ok
  refine AW.cast (L2 := [some (.ref 0), some (iv n), some (jv x), none, none, none, none, none, none]) ?_ rfl rfl rfl
  have hw : (1 ≤ n ∧ n ≤ 2) ∧ 0 ≤ x ∧ x ≤ (if n ≤ 0 then 1 else if n = 1 then 100000000 else 10000000000000000) - 1 := Classical.byContradiction fun z => by unfold kRun at h0; rw [if_neg z] at h0; omega
  have hx1 : n = 1 → x < 100000000 := fun e => by have := hw.2.2; rw [if_neg (by omega), if_pos e] at this; omega
  have hx2 : x < 10000000000000000 := by
    have := hw.2.2
    rcases (show n = 1 ∨ n = 2 by omega) with e | e
    · have := hx1 e; omega
    · rw [if_neg (by omega), if_neg (by omega)] at this; omega
  have s120 : ∀ (S2 : St) (c1 r1 m1 ct1 : Int) (B1 F1 Z1 Br1 Q1 Fo1 No1 gb : Int → Int) (k : Int) (v4 v7 v8 : Option Value), n ≤ k → k ≤ 2 → aRun S n x = -1 → rwI B1 F1 Z1 → AW X 0 0 60 [some (.ref 0), some (iv n), some (jv x), none, v4, none, some (iv k), v7, v8] [] (clU kn nk S2 c1 r1 m1 ct1 B1 F1 Z1 Br1 Q1 Fo1 No1 gb S) := by
    intro S2 c1 r1 m1 ct1 B1 F1 Z1 Br1 Q1 Fo1 No1 gb k v4 v7 v8 hk hk2 ha hr
    refine a_iload (pc := 60) ok dX6_runScript_60 rfl ?_
    refine a_iload_n (pc := 62) ok dX6_runScript_62 rfl ?_
    refine a_icmp_ge (pc := 63) (tgt := 120) ok dX6_runScript_63 (by decide) (by first | omega | (unfold rg; omega) | (simp only [rg] at *; omega) | exact bz_rg _ | grind [rg]) (by first | omega | (unfold rg; omega) | (simp only [rg] at *; omega) | exact bz_rg _ | grind [rg]) (fun c63 => ?_) (fun c63 => ?_)
    · refine a_iconst (pc := 120) ok dX6_runScript_120 ?_
      exact a_iret (pc := 121) ok dX6_runScript_121 (⟨by rw [ha], RU_mk hr⟩)
    · omega
  have s60 : ∀ (P : St) (c1 r1 m1 ct1 : Int) (B1 F1 Z1 Br1 Q1 Fo1 No1 gb : Int → Int) (g k : Int) (v4 v7 v8 : Option Value), 0 ≤ k ∧ k < n → (k = n - 1 → g = x % 100000000) → (k ≠ n - 1 → g = x / 100000000) → 0 ≤ g ∧ g < 100000000 → SV P → rwI B1 F1 Z1 →
      (cmZ P (g / 10000000) (g % 10000000) = 0 → aRun S n x = k) →
      (cmZ P (g / 10000000) (g % 10000000) ≠ 0 → ∀ (v7 v8 : Option Value) (c1 r1 m1 ct1 : Int) (B1 F1 Z1 Br1 Q1 Fo1 No1 gb : Int → Int), rwI B1 F1 Z1 → AW X 0 0 60 [some (.ref 0), some (iv n), some (jv x), none, v4, none, some (iv (k + 1)), v7, v8] [] (clU kn nk (cmS P (g / 10000000) (g % 10000000)) c1 r1 m1 ct1 B1 F1 Z1 Br1 Q1 Fo1 No1 gb S)) →
      AW X 0 0 60 [some (.ref 0), some (iv n), some (jv x), none, v4, none, some (iv k), v7, v8] [] (clU kn nk (P) c1 r1 m1 ct1 B1 F1 Z1 Br1 Q1 Fo1 No1 gb S) := by
    intro P c1 r1 m1 ct1 B1 F1 Z1 Br1 Q1 Fo1 No1 gb g k v4 v7 v8 hk hg1 hg2 hg hP hr hz hnz
    have h01 := cmZ_01 (S := P) (k := g / 10000000) (a := g % 10000000)
    have s99 : ∀ z7 : Int, AW X 0 0 99 [some (.ref 0), some (iv n), some (jv x), none, v4, none, some (iv k), some (iv z7), v8] [jv g] (clU kn nk (P) c1 r1 m1 ct1 B1 F1 Z1 Br1 Q1 Fo1 No1 gb S) := by
      intro z7
      refine a_l2i (pc := 99) ok dX6_runScript_99 ?_
      refine a_istore (pc := 100) ok dX6_runScript_100 rfl (by rw [hN]; decide) ?_
      refine a_aload_n (pc := 102) ok dX6_runScript_102 rfl ?_
      refine a_iload (pc := 103) ok dX6_runScript_103 rfl ?_
      refine x_callV (pc := 105) ok [0, 1, 2, 3, 4, 5, 6, 7, 8, 9, 10, 11, 12, 13, 14, 15, 16, 17, 18, 19, 20, 21, 22, 23, 24] 14 dX6_runScript_105 mv6_378 miX6_obeysGroup (c_obeysGroup (g := g) (a := g % 10000000) (k := g / 10000000) hP hr hg rfl rfl) ⟨by decide, by decide, rfl, rfl, Nat.zero_le _, Nat.zero_le _⟩ rfl rfl (Nat.le_of_ble_eq_true rfl) rfl rfl (by decide) rfl rfl (fun v M' h => RT_len h.2) ?_
      rintro _ M' ⟨rfl, c1, r1, m1, ct1, B1, F1, Z1, Br1, Q1, Fo1, No1, gb, rfl, hr2⟩
      refine AW.cast (st2 := [iv (cmZ P (g / 10000000) (g % 10000000))]) (M2 := (clU kn nk (cmS P (g / 10000000) (g % 10000000)) c1 r1 m1 ct1 B1 F1 Z1 Br1 Q1 Fo1 No1 gb S)) ?_ rfl rfl rfl
      refine a_if_ne (pc := 108) (tgt := 114) ok dX6_runScript_108 (by decide) (by unfold rg; omega) (fun c108 => ?_) (fun c108 => ?_)
      · refine a_iinc (pc := 114) ok dX6_runScript_114 rfl rfl (by rw [hN]; decide) ?_
        refine a_goto (pc := 117) (tgt := 60) ok dX6_runScript_117 (by decide) ?_
        exact hnz (by omega) _ _ c1 r1 m1 ct1 B1 F1 Z1 Br1 Q1 Fo1 No1 gb hr2
      · refine a_iload (pc := 111) ok dX6_runScript_111 rfl ?_
        exact a_iret (pc := 113) ok dX6_runScript_113 (⟨by rw [hz (by omega)], RU_mk hr2⟩)
    refine a_iload (pc := 60) ok dX6_runScript_60 rfl ?_
    refine a_iload_n (pc := 62) ok dX6_runScript_62 rfl ?_
    refine a_icmp_ge (pc := 63) (tgt := 120) ok dX6_runScript_63 (by decide) (by first | omega | (unfold rg; omega) | (simp only [rg] at *; omega) | exact bz_rg _ | grind [rg]) (by first | omega | (unfold rg; omega) | (simp only [rg] at *; omega) | exact bz_rg _ | grind [rg]) (fun c63 => ?_) (fun c63 => ?_)
    · omega
    · refine a_iload (pc := 66) ok dX6_runScript_66 rfl ?_
      refine a_iload_n (pc := 68) ok dX6_runScript_68 rfl ?_
      refine a_iconst (pc := 69) ok dX6_runScript_69 ?_
      refine a_isub (pc := 70) ok dX6_runScript_70 ?_
      refine a_icmp_ne (pc := 71) (tgt := 78) ok dX6_runScript_71 (by decide) (by first | omega | (unfold rg; omega) | (simp only [rg] at *; omega) | exact bz_rg _ | grind [rg]) (by first | omega | (unfold rg; omega) | (simp only [rg] at *; omega) | exact bz_rg _ | grind [rg]) (fun c71 => ?_) (fun c71 => ?_)
      · refine a_iconst (pc := 78) ok dX6_runScript_78 ?_
        refine a_istore (pc := 79) ok dX6_runScript_79 rfl (by rw [hN]; decide) ?_
        refine a_iload (pc := 81) ok dX6_runScript_81 rfl ?_
        refine a_if_eq (pc := 83) (tgt := 94) ok dX6_runScript_83 (by decide) (by first | omega | (unfold rg; omega) | (simp only [rg] at *; omega) | exact bz_rg _ | grind [rg]) (fun c83 => ?_) (fun c83 => ?_)
        · refine a_lload_n (pc := 94) ok dX6_runScript_94 rfl ?_
          refine a_ldc2 (pc := 95) (z := 100000000) (v := Int64.ofInt 100000000) ok dX6_runScript_95 (ug5 21 (by decide +kernel) rfl) rfl ?_
          refine a_ldiv (pc := 98) ok dX6_runScript_98 (by first | omega | (unfold rg; omega) | (simp only [rg] at *; omega) | exact bz_rg _ | grind [rg]) (by first | omega | (unfold rg; omega) | (simp only [rg] at *; omega) | exact bz_rg _ | grind [rg]) ?_
          exact AW.cast (s99 0) rfl (by rw [hg2 (by omega)]) rfl
        · omega
      · refine a_iconst (pc := 74) ok dX6_runScript_74 ?_
        refine a_goto (pc := 75) (tgt := 79) ok dX6_runScript_75 (by decide) ?_
        refine a_istore (pc := 79) ok dX6_runScript_79 rfl (by rw [hN]; decide) ?_
        refine a_iload (pc := 81) ok dX6_runScript_81 rfl ?_
        refine a_if_eq (pc := 83) (tgt := 94) ok dX6_runScript_83 (by decide) (by first | omega | (unfold rg; omega) | (simp only [rg] at *; omega) | exact bz_rg _ | grind [rg]) (fun c83 => ?_) (fun c83 => ?_)
        · omega
        · refine a_lload_n (pc := 86) ok dX6_runScript_86 rfl ?_
          refine a_ldc2 (pc := 87) (z := 100000000) (v := Int64.ofInt 100000000) ok dX6_runScript_87 (ug5 21 (by decide +kernel) rfl) rfl ?_
          refine a_lrem (pc := 90) ok dX6_runScript_90 (by first | omega | (unfold rg; omega) | (simp only [rg] at *; omega) | exact bz_rg _ | grind [rg]) (by first | omega | (unfold rg; omega) | (simp only [rg] at *; omega) | exact bz_rg _ | grind [rg]) ?_
          refine a_goto (pc := 91) (tgt := 99) ok dX6_runScript_91 (by decide) ?_
          exact AW.cast (s99 1) rfl (by rw [hg1 (by omega)]) rfl
  have start : ∀ (v4 : Option Value), AW X 0 0 60 [some (.ref 0), some (iv n), some (jv x), none, v4, none, some (iv 0), none, none] [] (clU kn nk (S) c1 r1 m1 ct1 B1 F1 Z1 Br1 Q1 Fo1 No1 gb S) := by
    intro v4
    rcases (show n = 1 ∨ n = 2 by omega) with e | e
    · have hx1 := hx1 e
      subst e
      have e0 : grp 1 x 0 = x := if_pos rfl
      refine s60 S c1 r1 m1 ct1 B1 F1 Z1 Br1 Q1 Fo1 No1 gb x 0 v4 none none (by omega) (fun _ => by omega) (fun z => absurd rfl z) (by omega) hS hr ?_ ?_
      · intro h
        unfold aRun
        rw [e0, if_pos h]
      · intro h v7 v8 c1 r1 m1 ct1 B1 F1 Z1 Br1 Q1 Fo1 No1 gb hr
        refine s120 _ c1 r1 m1 ct1 B1 F1 Z1 Br1 Q1 Fo1 No1 gb (0 + 1) v4 v7 v8 (by omega) (by omega) ?_ hr
        unfold aRun
        rw [e0, if_neg h, if_pos rfl]
    · subst e
      have e0 : grp 2 x 0 = x / 100000000 := by unfold grp; rw [if_neg (by omega), if_pos rfl]
      have e1 : grp 2 x 1 = x % 100000000 := by unfold grp; rw [if_neg (by omega), if_neg (by omega)]
      refine s60 S c1 r1 m1 ct1 B1 F1 Z1 Br1 Q1 Fo1 No1 gb (x / 100000000) 0 v4 none none (by omega) (fun z => absurd z (by omega)) (fun _ => rfl) (by omega) hS hr ?_ ?_
      · intro h
        unfold aRun
        rw [e0, if_pos h]
      · intro h v7 v8 c1 r1 m1 ct1 B1 F1 Z1 Br1 Q1 Fo1 No1 gb hr
        have hP1 : SV (cmS S (x / 100000000 / 10000000) (x / 100000000 % 10000000)) := SV_cmS hS
        refine s60 _ c1 r1 m1 ct1 B1 F1 Z1 Br1 Q1 Fo1 No1 gb (x % 100000000) (0 + 1) v4 v7 v8 (by omega) (fun _ => rfl) (fun z => absurd rfl z) (by omega) hP1 hr ?_ ?_
        · intro h2
          unfold aRun
          rw [e0, e1, if_neg h, if_neg (by omega), if_pos h2]; rfl
        · intro h2 v7 v8 c1 r1 m1 ct1 B1 F1 Z1 Br1 Q1 Fo1 No1 gb hr
          refine s120 _ c1 r1 m1 ct1 B1 F1 Z1 Br1 Q1 Fo1 No1 gb (0 + 1 + 1) v4 v7 v8 (by omega) (by omega) ?_ hr
          unfold aRun
          rw [e0, e1, if_neg h, if_neg (by omega), if_neg h2]
  have s22 : ∀ e : Int, x < e → e ≤ 10000000000000000 → AW X 0 0 22 [some (.ref 0), some (iv n), some (jv x), none, some (jv e), none, none, none, none] [] (clU kn nk S2 c1 r1 m1 ct1 B1 F1 Z1 Br1 Q1 Fo1 No1 gb S) := by
    intro e he he2
    refine a_lload_n (pc := 22) ok dX6_runScript_22 rfl ?_
    refine a_lconst (pc := 23) (z := 0) ok dX6_runScript_23 rfl ?_
    refine a_lcmp (pc := 24) ok dX6_runScript_24 (by unfold rgL; omega) (by unfold rgL; omega) (fun c24 => ?_) (fun c24 => ?_) (fun c24 => ?_)
    · omega
    · refine a_if_lt (pc := 25) (tgt := 35) ok dX6_runScript_25 (by decide) (by first | omega | (unfold rg; omega) | (simp only [rg] at *; omega) | exact bz_rg _ | grind [rg]) (fun c25 => ?_) (fun c25 => ?_)
      · omega
      · refine a_lload_n (pc := 28) ok dX6_runScript_28 rfl ?_
        refine a_lload (pc := 29) ok dX6_runScript_29 rfl ?_
        refine a_lcmp (pc := 31) ok dX6_runScript_31 (by unfold rgL; omega) (by unfold rgL; omega) (fun c31 => ?_) (fun c31 => ?_) (fun c31 => ?_)
        · refine a_if_lt (pc := 32) (tgt := 46) ok dX6_runScript_32 (by decide) (by first | omega | (unfold rg; omega) | (simp only [rg] at *; omega) | exact bz_rg _ | grind [rg]) (fun c32 => ?_) (fun c32 => ?_)
          · refine a_aload_n (pc := 46) ok dX6_runScript_46 rfl ?_
            refine a_getf (pc := 47) ok dX6_runScript_47 fl6_59 rfl rfl ?_
            refine a_aload_n (pc := 50) ok dX6_runScript_50 rfl ?_
            refine a_getf (pc := 51) ok dX6_runScript_51 fl6_19 rfl rfl ?_
            refine a_callVv (pc := 54) ok [1, 2, 3, 4, 14, 15, 16, 17] dX6_runScript_54 mv6_354 miX4_copyFrom (c_copyFrom) ⟨by decide, by decide, rfl, rfl, Nat.zero_le _, Nat.zero_le _⟩ rfl rfl (Nat.le_of_ble_eq_true rfl) rfl (by decide) rfl rfl rfl ?_
            refine a_iconst (pc := 57) ok dX6_runScript_57 ?_
            refine a_istore (pc := 58) ok dX6_runScript_58 rfl (by rw [hN]; decide) ?_
            exact AW.cast (start _) rfl rfl rfl
          · omega
        · omega
        · omega
    · refine a_if_lt (pc := 25) (tgt := 35) ok dX6_runScript_25 (by decide) (by first | omega | (unfold rg; omega) | (simp only [rg] at *; omega) | exact bz_rg _ | grind [rg]) (fun c25 => ?_) (fun c25 => ?_)
      · omega
      · refine a_lload_n (pc := 28) ok dX6_runScript_28 rfl ?_
        refine a_lload (pc := 29) ok dX6_runScript_29 rfl ?_
        refine a_lcmp (pc := 31) ok dX6_runScript_31 (by unfold rgL; omega) (by unfold rgL; omega) (fun c31 => ?_) (fun c31 => ?_) (fun c31 => ?_)
        · refine a_if_lt (pc := 32) (tgt := 46) ok dX6_runScript_32 (by decide) (by first | omega | (unfold rg; omega) | (simp only [rg] at *; omega) | exact bz_rg _ | grind [rg]) (fun c32 => ?_) (fun c32 => ?_)
          · refine a_aload_n (pc := 46) ok dX6_runScript_46 rfl ?_
            refine a_getf (pc := 47) ok dX6_runScript_47 fl6_59 rfl rfl ?_
            refine a_aload_n (pc := 50) ok dX6_runScript_50 rfl ?_
            refine a_getf (pc := 51) ok dX6_runScript_51 fl6_19 rfl rfl ?_
            refine a_callVv (pc := 54) ok [1, 2, 3, 4, 14, 15, 16, 17] dX6_runScript_54 mv6_354 miX4_copyFrom (c_copyFrom) ⟨by decide, by decide, rfl, rfl, Nat.zero_le _, Nat.zero_le _⟩ rfl rfl (Nat.le_of_ble_eq_true rfl) rfl (by decide) rfl rfl rfl ?_
            refine a_iconst (pc := 57) ok dX6_runScript_57 ?_
            refine a_istore (pc := 58) ok dX6_runScript_58 rfl (by rw [hN]; decide) ?_
            exact AW.cast (start _) rfl rfl rfl
          · omega
        · omega
        · omega
  refine a_iload_n (pc := 0) ok dX6_runScript_0 rfl ?_
  refine a_iconst (pc := 1) ok dX6_runScript_1 ?_
  refine a_iconst (pc := 2) ok dX6_runScript_2 ?_
  refine a_callSv (pc := 3) ok [] dX6_runScript_3 mv6_76 miX6_mustBeWithin (c_mustBeWithin hw.1 hn (by unfold rg; omega) (by unfold rg; omega)) ⟨by decide, by decide, rfl, rfl, Nat.zero_le _, Nat.zero_le _⟩ rfl rfl (Nat.le_of_ble_eq_true rfl) rfl (by decide) rfl ?_
  refine a_iload_n (pc := 6) ok dX6_runScript_6 rfl ?_
  refine a_iconst (pc := 7) ok dX6_runScript_7 ?_
  refine a_icmp_ne (pc := 8) (tgt := 17) ok dX6_runScript_8 (by decide) (by first | omega | (unfold rg; omega) | (simp only [rg] at *; omega) | exact bz_rg _ | grind [rg]) (by first | omega | (unfold rg; omega) | (simp only [rg] at *; omega) | exact bz_rg _ | grind [rg]) (fun c8 => ?_) (fun c8 => ?_)
  · refine a_ldc2 (pc := 17) (z := 10000000000000000) (v := Int64.ofInt 10000000000000000) ok dX6_runScript_17 (ug5 22 (by decide +kernel) rfl) rfl ?_
    refine a_lstore (pc := 20) ok dX6_runScript_20 rfl (by rw [hN]; decide) ?_
    exact AW.cast (s22 10000000000000000 hx2 (by omega)) rfl rfl rfl
  · refine a_ldc2 (pc := 11) (z := 100000000) (v := Int64.ofInt 100000000) ok dX6_runScript_11 (ug5 21 (by decide +kernel) rfl) rfl ?_
    refine a_goto (pc := 14) (tgt := 20) ok dX6_runScript_14 (by decide) ?_
    refine a_lstore (pc := 20) ok dX6_runScript_20 rfl (by rw [hN]; decide) ?_
    exact AW.cast (s22 100000000 (hx1 (by omega)) (by omega)) rfl rfl rfl
theorem dX6_simulate_0 : decode cX6_simulate 0 = .ok (.iload_n 3, 1) := by decide +kernel
theorem dX6_simulate_1 : decode cX6_simulate 1 = .ok (.iconst 1, 1) := by decide +kernel
theorem dX6_simulate_2 : decode cX6_simulate 2 = .ok (.bipush 60, 2) := by decide +kernel
theorem dX6_simulate_4 : decode cX6_simulate 4 = .ok (.invokestatic 76, 3) := by decide +kernel
theorem dX6_simulate_7 : decode cX6_simulate 7 = .ok (.aload_n 0, 1) := by decide +kernel
theorem dX6_simulate_8 : decode cX6_simulate 8 = .ok (.getfield 59, 3) := by decide +kernel
theorem dX6_simulate_11 : decode cX6_simulate 11 = .ok (.aload_n 0, 1) := by decide +kernel
theorem dX6_simulate_12 : decode cX6_simulate 12 = .ok (.getfield 19, 3) := by decide +kernel
theorem dX6_simulate_15 : decode cX6_simulate 15 = .ok (.invokevirtual 354, 3) := by decide +kernel
theorem dX6_simulate_18 : decode cX6_simulate 18 = .ok (.lload_n 1, 1) := by decide +kernel
theorem dX6_simulate_19 : decode cX6_simulate 19 = .ok (.lstore 4, 2) := by decide +kernel
theorem dX6_simulate_21 : decode cX6_simulate 21 = .ok (.iconst 0, 1) := by decide +kernel
theorem dX6_simulate_22 : decode cX6_simulate 22 = .ok (.istore 6, 2) := by decide +kernel
theorem dX6_simulate_24 : decode cX6_simulate 24 = .ok (.iload 6, 2) := by decide +kernel
theorem dX6_simulate_26 : decode cX6_simulate 26 = .ok (.iload_n 3, 1) := by decide +kernel
theorem dX6_simulate_27 : decode cX6_simulate 27 = .ok (.if_icmp .ge 31, 3) := by decide +kernel
theorem dX6_simulate_30 : decode cX6_simulate 30 = .ok (.lload 4, 2) := by decide +kernel
theorem dX6_simulate_32 : decode cX6_simulate 32 = .ok (.ldc2_w 386, 3) := by decide +kernel
theorem dX6_simulate_35 : decode cX6_simulate 35 = .ok (.lmul, 1) := by decide +kernel
theorem dX6_simulate_36 : decode cX6_simulate 36 = .ok (.ldc2_w 388, 3) := by decide +kernel
theorem dX6_simulate_39 : decode cX6_simulate 39 = .ok (.ladd, 1) := by decide +kernel
theorem dX6_simulate_40 : decode cX6_simulate 40 = .ok (.lstore 4, 2) := by decide +kernel
theorem dX6_simulate_42 : decode cX6_simulate 42 = .ok (.aload_n 0, 1) := by decide +kernel
theorem dX6_simulate_43 : decode cX6_simulate 43 = .ok (.lload 4, 2) := by decide +kernel
theorem dX6_simulate_45 : decode cX6_simulate 45 = .ok (.bipush 33, 2) := by decide +kernel
theorem dX6_simulate_47 : decode cX6_simulate 47 = .ok (.lushr, 1) := by decide +kernel
theorem dX6_simulate_48 : decode cX6_simulate 48 = .ok (.l2i, 1) := by decide +kernel
theorem dX6_simulate_49 : decode cX6_simulate 49 = .ok (.invokevirtual 390, 3) := by decide +kernel
theorem dX6_simulate_52 : decode cX6_simulate 52 = .ok (.iinc 6 1, 3) := by decide +kernel
theorem dX6_simulate_55 : decode cX6_simulate 55 = .ok (.goto (-31), 3) := by decide +kernel
theorem dX6_simulate_58 : decode cX6_simulate 58 = .ok (.aload_n 0, 1) := by decide +kernel
theorem dX6_simulate_59 : decode cX6_simulate 59 = .ok (.getfield 62, 3) := by decide +kernel
theorem dX6_simulate_62 : decode cX6_simulate 62 = .ok (.aload_n 0, 1) := by decide +kernel
theorem dX6_simulate_63 : decode cX6_simulate 63 = .ok (.getfield 59, 3) := by decide +kernel
theorem dX6_simulate_66 : decode cX6_simulate 66 = .ok (.aload_n 0, 1) := by decide +kernel
theorem dX6_simulate_67 : decode cX6_simulate 67 = .ok (.getfield 59, 3) := by decide +kernel
theorem dX6_simulate_70 : decode cX6_simulate 70 = .ok (.getfield 165, 3) := by decide +kernel
theorem dX6_simulate_73 : decode cX6_simulate 73 = .ok (.invokevirtual 175, 3) := by decide +kernel
theorem dX6_simulate_76 : decode cX6_simulate 76 = .ok (.sipush 10000, 3) := by decide +kernel
theorem dX6_simulate_79 : decode cX6_simulate 79 = .ok (.aload_n 0, 1) := by decide +kernel
theorem dX6_simulate_80 : decode cX6_simulate 80 = .ok (.getfield 62, 3) := by decide +kernel
theorem dX6_simulate_83 : decode cX6_simulate 83 = .ok (.getfield 172, 3) := by decide +kernel
theorem dX6_simulate_86 : decode cX6_simulate 86 = .ok (.imul, 1) := by decide +kernel
theorem dX6_simulate_87 : decode cX6_simulate 87 = .ok (.aload_n 0, 1) := by decide +kernel
theorem dX6_simulate_88 : decode cX6_simulate 88 = .ok (.getfield 62, 3) := by decide +kernel
theorem dX6_simulate_91 : decode cX6_simulate 91 = .ok (.aload_n 0, 1) := by decide +kernel
theorem dX6_simulate_92 : decode cX6_simulate 92 = .ok (.getfield 59, 3) := by decide +kernel
theorem dX6_simulate_95 : decode cX6_simulate 95 = .ok (.invokevirtual 293, 3) := by decide +kernel
theorem dX6_simulate_98 : decode cX6_simulate 98 = .ok (.iadd, 1) := by decide +kernel
theorem dX6_simulate_99 : decode cX6_simulate 99 = .ok (.ireturn, 1) := by decide +kernel
set_option maxRecDepth 100000 in
theorem c_simulate {x n : Int} (hS : SV S) (hr : rwI B1 F1 Z1) (h0 : kIn n 1 60 = 0) (hn : rg n) : Ct l yX6_simulate cX6_simulate 7 (some .int) rmX6_simulate [.ref 0, jv x, iv n] (clU kn nk S2 c1 r1 m1 ct1 B1 F1 Z1 Br1 Q1 Fo1 No1 gb S)
    (fun z M => z = some (iv (aSim (siK S x n.toNat))) ∧ RU kn nk S M) := by
  refine Ct.of miX6_simulate (Nat.le_of_ble_eq_true rfl) ?_
  intro X hXl hN ok
  refine AW.cast (L2 := [some (.ref 0), some (jv x), none, some (iv n), none, none, none]) ?_ rfl rfl rfl
  have hw2 := kIn_0 h0
  have s58 : ∀ (P : St) (gb : Int → Int) (v4 v6 : Option Value), SV P → P = siK S x n.toNat → AW X 0 0 58 [some (.ref 0), some (jv x), none, some (iv n), v4, none, v6] [] (clU kn nk (P) c1 r1 m1 ct1 B1 F1 Z1 Br1 Q1 Fo1 No1 gb S) := by
    intro P gb v4 v6 hP hPe
    rw [← hPe] at ok
    have hd := hP.1
    refine a_aload_n (pc := 58) ok dX6_simulate_58 rfl ?_
    refine a_getf (pc := 59) ok dX6_simulate_59 fl6_62 rfl rfl ?_
    refine a_aload_n (pc := 62) ok dX6_simulate_62 rfl ?_
    refine a_getf (pc := 63) ok dX6_simulate_63 fl6_59 rfl rfl ?_
    refine a_aload_n (pc := 66) ok dX6_simulate_66 rfl ?_
    refine a_getf (pc := 67) ok dX6_simulate_67 fl6_59 rfl rfl ?_
    refine a_getf (pc := 70) ok dX6_simulate_70 fl6_165 rfl rfl ?_
    refine a_callV (pc := 73) ok [5, 6, 7, 8, 9, 10, 11, 12, 1, 2, 3, 4] dX6_simulate_73 mv6_175 miX0_survey (c_surv 0 hP hr) ⟨by decide, by decide, rfl, rfl, Nat.zero_le _, Nat.zero_le _⟩ rfl rfl (Nat.le_of_ble_eq_true rfl) rfl (by decide) rfl rfl (fun v M' h => by obtain ⟨_, _, _, _, _, _, _, _, _, h, _⟩ := h; rw [h]; rfl) ?_
    rintro _ M' ⟨rfl, ct', B', F', Z', Br', Q', Fo', No', rfl, hI⟩
    have hct := mS_IS hI
    subst hct
    refine AW.cast (st2 := []) (M2 := (clU kn nk (P) (sC P) (sR P) (sC P * sR P) (mS P) (B') (F') (Z') (Br') (Q') (Fo') (No') gb S)) ?_ rfl rfl rfl
    refine a_sipush (pc := 76) ok dX6_simulate_76 (by decide) ?_
    refine a_aload_n (pc := 79) ok dX6_simulate_79 rfl ?_
    refine a_getf (pc := 80) ok dX6_simulate_80 fl6_62 rfl rfl ?_
    refine a_getf (pc := 83) ok dX6_simulate_83 fl6_172 rfl rfl ?_
    refine a_imul (pc := 86) ok dX6_simulate_86 ?_
    refine a_aload_n (pc := 87) ok dX6_simulate_87 rfl ?_
    refine a_getf (pc := 88) ok dX6_simulate_88 fl6_62 rfl rfl ?_
    refine a_aload_n (pc := 91) ok dX6_simulate_91 rfl ?_
    refine a_getf (pc := 92) ok dX6_simulate_92 fl6_59 rfl rfl ?_
    refine a_callVp (pc := 95) ok [5, 6, 7, 8, 9, 10, 11, 12, 1, 2, 3, 4] dX6_simulate_95 mv6_293 miX0_inkNeeded (c_inkNeeded hd hI) ⟨by decide, by decide, rfl, rfl, Nat.zero_le _, Nat.zero_le _⟩ rfl rfl (Nat.le_of_ble_eq_true rfl) rfl (by decide) rfl rfl ?_
    refine a_iadd (pc := 98) ok dX6_simulate_98 ?_
    exact a_iret (pc := 99) ok dX6_simulate_99 (⟨rfl, RU_mk (IS_rw hI)⟩)
  have loop : ∀ q : Nat × (Int → Int), ((q.1 : Int) ≤ n) → AW X 0 0 24 [some (.ref 0), some (jv x), none, some (iv n), some (jv (lcgK x q.1)), none, some (iv q.1)] [] (clU kn nk (siK S x q.1) c1 r1 m1 ct1 B1 F1 Z1 Br1 Q1 Fo1 No1 (q.2) S) := by
    refine wfl (fun q : Nat × (Int → Int) => 61 - q.1) _ _ ?_
    rintro ⟨k, gb⟩ hk ih
    dsimp only at hk ih ⊢
    have hs := sh33_rg (lcgK x (k + 1))
    have s42 : ∀ P : St, SV P → P = siK S x k → (k : Int) < n → AW X 0 0 42 [some (.ref 0), some (jv x), none, some (iv n), some (jv (lcgK x (k + 1))), none, some (iv k)] [] (clU kn nk (P) c1 r1 m1 ct1 B1 F1 Z1 Br1 Q1 Fo1 No1 gb S) := by
      intro P hP hPe hkn
      refine a_aload_n (pc := 42) ok dX6_simulate_42 rfl ?_
      refine a_lload (pc := 43) ok dX6_simulate_43 rfl ?_
      refine a_bipush (pc := 45) ok dX6_simulate_45 (by decide) ?_
      refine a_lushr33 (pc := 47) ok dX6_simulate_47 ?_
      refine a_l2i (pc := 48) ok dX6_simulate_48 ?_
      refine x_callV (pc := 49) ok [0, 1, 2, 3, 4, 5, 6, 7, 8, 9, 10, 11, 12, 13, 14, 15, 16, 17, 18, 19, 20, 21, 22, 23, 24] 14 dX6_simulate_49 mv6_390 miX6_takeTurn (c_takeTurn hP (by omega)) ⟨by decide, by decide, rfl, rfl, Nat.zero_le _, Nat.zero_le _⟩ rfl rfl (Nat.le_of_ble_eq_true rfl) rfl rfl (by decide) rfl rfl (fun v M' h => by obtain ⟨_, _, h⟩ := h; rw [h]; rfl) ?_
      rintro _ M' ⟨rfl, gb', rfl⟩
      refine AW.cast (st2 := []) (M2 := (clU kn nk (tnF P (sh33 (lcgK x (k + 1)))) c1 r1 m1 ct1 B1 F1 Z1 Br1 Q1 Fo1 No1 (gb') S)) ?_ rfl rfl rfl
      refine a_iinc (pc := 52) ok dX6_simulate_52 rfl rfl (by rw [hN]; decide) ?_
      refine a_goto (pc := 55) (tgt := 24) ok dX6_simulate_55 (by decide) ?_
      exact AW.cast (ih (k + 1, gb') (by dsimp only; omega) (by dsimp only; omega)) rfl rfl (by rw [hPe]; rfl)
    refine a_iload (pc := 24) ok dX6_simulate_24 rfl ?_
    refine a_iload_n (pc := 26) ok dX6_simulate_26 rfl ?_
    refine a_icmp_ge (pc := 27) (tgt := 58) ok dX6_simulate_27 (by decide) (by first | omega | (unfold rg; omega) | (simp only [rg] at *; omega) | exact bz_rg _ | grind [rg]) (by first | omega | (unfold rg; omega) | (simp only [rg] at *; omega) | exact bz_rg _ | grind [rg]) (fun c27 => ?_) (fun c27 => ?_)
    · exact s58 (siK S x k) gb _ _ (SV_siK hS x k) (by rw [show k = n.toNat by omega])
    · refine a_lload (pc := 30) ok dX6_simulate_30 rfl ?_
      refine a_ldc2 (pc := 32) (z := 6364136223846793005) (v := Int64.ofInt 6364136223846793005) ok dX6_simulate_32 (ug5 42 (by decide +kernel) rfl) rfl ?_
      refine a_lmul (pc := 35) ok dX6_simulate_35 ?_
      refine a_ldc2 (pc := 36) (z := 1442695040888963407) (v := Int64.ofInt 1442695040888963407) ok dX6_simulate_36 (ug5 43 (by decide +kernel) rfl) rfl ?_
      refine a_ladd (pc := 39) ok dX6_simulate_39 ?_
      refine a_lstore (pc := 40) ok dX6_simulate_40 rfl (by rw [hN]; decide) ?_
      exact AW.cast (s42 (siK S x k) (SV_siK hS x k) rfl (by omega)) rfl rfl rfl
  refine a_iload_n (pc := 0) ok dX6_simulate_0 rfl ?_
  refine a_iconst (pc := 1) ok dX6_simulate_1 ?_
  refine a_bipush (pc := 2) ok dX6_simulate_2 (by decide) ?_
  refine a_callSv (pc := 4) ok [] dX6_simulate_4 mv6_76 miX6_mustBeWithin (c_mustBeWithin hw2 hn (by unfold rg; omega) (by unfold rg; omega)) ⟨by decide, by decide, rfl, rfl, Nat.zero_le _, Nat.zero_le _⟩ rfl rfl (Nat.le_of_ble_eq_true rfl) rfl (by decide) rfl ?_
  refine a_aload_n (pc := 7) ok dX6_simulate_7 rfl ?_
  refine a_getf (pc := 8) ok dX6_simulate_8 fl6_59 rfl rfl ?_
  refine a_aload_n (pc := 11) ok dX6_simulate_11 rfl ?_
  refine a_getf (pc := 12) ok dX6_simulate_12 fl6_19 rfl rfl ?_
  refine a_callVv (pc := 15) ok [1, 2, 3, 4, 14, 15, 16, 17] dX6_simulate_15 mv6_354 miX4_copyFrom (c_copyFrom) ⟨by decide, by decide, rfl, rfl, Nat.zero_le _, Nat.zero_le _⟩ rfl rfl (Nat.le_of_ble_eq_true rfl) rfl (by decide) rfl rfl rfl ?_
  refine a_lload_n (pc := 18) ok dX6_simulate_18 rfl ?_
  refine a_lstore (pc := 19) ok dX6_simulate_19 rfl (by rw [hN]; decide) ?_
  refine a_iconst (pc := 21) ok dX6_simulate_21 ?_
  refine a_istore (pc := 22) ok dX6_simulate_22 rfl (by rw [hN]; decide) ?_
  exact AW.cast (loop (0, gb) (by dsimp only; omega)) rfl rfl rfl
theorem dX6_ifCell_0 : decode cX6_ifCell 0 = .ok (.aload_n 0, 1) := by decide +kernel
theorem dX6_ifCell_1 : decode cX6_ifCell 1 = .ok (.getfield 19, 3) := by decide +kernel
theorem dX6_ifCell_4 : decode cX6_ifCell 4 = .ok (.iload_n 1, 1) := by decide +kernel
theorem dX6_ifCell_5 : decode cX6_ifCell 5 = .ok (.iload_n 2, 1) := by decide +kernel
theorem dX6_ifCell_6 : decode cX6_ifCell 6 = .ok (.invokevirtual 199, 3) := by decide +kernel
theorem dX6_ifCell_9 : decode cX6_ifCell 9 = .ok (.invokestatic 203, 3) := by decide +kernel
theorem dX6_ifCell_12 : decode cX6_ifCell 12 = .ok (.iload_n 3, 1) := by decide +kernel
theorem dX6_ifCell_13 : decode cX6_ifCell 13 = .ok (.iconst 0, 1) := by decide +kernel
theorem dX6_ifCell_14 : decode cX6_ifCell 14 = .ok (.bipush 99, 2) := by decide +kernel
theorem dX6_ifCell_16 : decode cX6_ifCell 16 = .ok (.invokestatic 76, 3) := by decide +kernel
theorem dX6_ifCell_19 : decode cX6_ifCell 19 = .ok (.iload 4, 2) := by decide +kernel
theorem dX6_ifCell_21 : decode cX6_ifCell 21 = .ok (.iconst 0, 1) := by decide +kernel
theorem dX6_ifCell_22 : decode cX6_ifCell 22 = .ok (.iconst 2, 1) := by decide +kernel
theorem dX6_ifCell_23 : decode cX6_ifCell 23 = .ok (.invokestatic 76, 3) := by decide +kernel
theorem dX6_ifCell_26 : decode cX6_ifCell 26 = .ok (.aload_n 0, 1) := by decide +kernel
theorem dX6_ifCell_27 : decode cX6_ifCell 27 = .ok (.getfield 59, 3) := by decide +kernel
theorem dX6_ifCell_30 : decode cX6_ifCell 30 = .ok (.aload_n 0, 1) := by decide +kernel
theorem dX6_ifCell_31 : decode cX6_ifCell 31 = .ok (.getfield 19, 3) := by decide +kernel
theorem dX6_ifCell_34 : decode cX6_ifCell 34 = .ok (.invokevirtual 354, 3) := by decide +kernel
theorem dX6_ifCell_37 : decode cX6_ifCell 37 = .ok (.aload_n 0, 1) := by decide +kernel
theorem dX6_ifCell_38 : decode cX6_ifCell 38 = .ok (.getfield 59, 3) := by decide +kernel
theorem dX6_ifCell_41 : decode cX6_ifCell 41 = .ok (.iload_n 1, 1) := by decide +kernel
theorem dX6_ifCell_42 : decode cX6_ifCell 42 = .ok (.iload_n 2, 1) := by decide +kernel
theorem dX6_ifCell_43 : decode cX6_ifCell 43 = .ok (.iload_n 3, 1) := by decide +kernel
theorem dX6_ifCell_44 : decode cX6_ifCell 44 = .ok (.invokevirtual 305, 3) := by decide +kernel
theorem dX6_ifCell_47 : decode cX6_ifCell 47 = .ok (.pop, 1) := by decide +kernel
theorem dX6_ifCell_48 : decode cX6_ifCell 48 = .ok (.aload_n 0, 1) := by decide +kernel
theorem dX6_ifCell_49 : decode cX6_ifCell 49 = .ok (.getfield 62, 3) := by decide +kernel
theorem dX6_ifCell_52 : decode cX6_ifCell 52 = .ok (.aload_n 0, 1) := by decide +kernel
theorem dX6_ifCell_53 : decode cX6_ifCell 53 = .ok (.getfield 59, 3) := by decide +kernel
theorem dX6_ifCell_56 : decode cX6_ifCell 56 = .ok (.aload_n 0, 1) := by decide +kernel
theorem dX6_ifCell_57 : decode cX6_ifCell 57 = .ok (.getfield 59, 3) := by decide +kernel
theorem dX6_ifCell_60 : decode cX6_ifCell 60 = .ok (.getfield 165, 3) := by decide +kernel
theorem dX6_ifCell_63 : decode cX6_ifCell 63 = .ok (.invokevirtual 175, 3) := by decide +kernel
theorem dX6_ifCell_66 : decode cX6_ifCell 66 = .ok (.iload 4, 2) := by decide +kernel
theorem dX6_ifCell_68 : decode cX6_ifCell 68 = .ok (.lookupswitch 60 #[(0, 28), (1, 52)], 28) := by decide +kernel
theorem dX6_ifCell_96 : decode cX6_ifCell 96 = .ok (.aload_n 0, 1) := by decide +kernel
theorem dX6_ifCell_97 : decode cX6_ifCell 97 = .ok (.getfield 62, 3) := by decide +kernel
theorem dX6_ifCell_100 : decode cX6_ifCell 100 = .ok (.aload_n 0, 1) := by decide +kernel
theorem dX6_ifCell_101 : decode cX6_ifCell 101 = .ok (.getfield 62, 3) := by decide +kernel
theorem dX6_ifCell_104 : decode cX6_ifCell 104 = .ok (.aload_n 0, 1) := by decide +kernel
theorem dX6_ifCell_105 : decode cX6_ifCell 105 = .ok (.getfield 19, 3) := by decide +kernel
theorem dX6_ifCell_108 : decode cX6_ifCell 108 = .ok (.iload_n 1, 1) := by decide +kernel
theorem dX6_ifCell_109 : decode cX6_ifCell 109 = .ok (.iload_n 2, 1) := by decide +kernel
theorem dX6_ifCell_110 : decode cX6_ifCell 110 = .ok (.invokevirtual 214, 3) := by decide +kernel
theorem dX6_ifCell_113 : decode cX6_ifCell 113 = .ok (.invokevirtual 220, 3) := by decide +kernel
theorem dX6_ifCell_116 : decode cX6_ifCell 116 = .ok (.invokevirtual 241, 3) := by decide +kernel
theorem dX6_ifCell_119 : decode cX6_ifCell 119 = .ok (.ireturn, 1) := by decide +kernel
theorem dX6_ifCell_120 : decode cX6_ifCell 120 = .ok (.aload_n 0, 1) := by decide +kernel
theorem dX6_ifCell_121 : decode cX6_ifCell 121 = .ok (.getfield 62, 3) := by decide +kernel
theorem dX6_ifCell_124 : decode cX6_ifCell 124 = .ok (.getfield 172, 3) := by decide +kernel
theorem dX6_ifCell_127 : decode cX6_ifCell 127 = .ok (.ireturn, 1) := by decide +kernel
theorem dX6_ifCell_128 : decode cX6_ifCell 128 = .ok (.aload_n 0, 1) := by decide +kernel
theorem dX6_ifCell_129 : decode cX6_ifCell 129 = .ok (.getfield 62, 3) := by decide +kernel
theorem dX6_ifCell_132 : decode cX6_ifCell 132 = .ok (.aload_n 0, 1) := by decide +kernel
theorem dX6_ifCell_133 : decode cX6_ifCell 133 = .ok (.invokevirtual 168, 3) := by decide +kernel
theorem dX6_ifCell_136 : decode cX6_ifCell 136 = .ok (.invokevirtual 368, 3) := by decide +kernel
theorem dX6_ifCell_139 : decode cX6_ifCell 139 = .ok (.ireturn, 1) := by decide +kernel
set_option maxRecDepth 100000 in
theorem c_ifCell {x y g w : Int} (hS : SV S) (h : CN S kn nk c0 r0 m0 ct B F Z Fo No Ho Mo In) (hr : rwI B1 F1 Z1) (h0 : kIfC S x y g w = 0) (hx : rg x) (hy : rg y) (hg : rg g) (hw : rg w) : Ct l yX6_ifCell cX6_ifCell 5 (some .int) rmX6_ifCell [.ref 0, iv x, iv y, iv g, iv w] (clD S kn nk c0 r0 m0 ct B F Z Br Q Fo No Ho Mo In Sn Qn sd rt lf wy S2 c1 r1 m1 ct1 B1 F1 Z1 Br1 Q1 Fo1 No1 gb)
    (fun z M => z = some (iv (aIfC S (gP S x y g) x y w)) ∧ RD S M) := by
  refine Ct.of miX6_ifCell (Nat.le_of_ble_eq_true rfl) ?_
  intro X hXl hN ok
  refine AW.cast (L2 := [some (.ref 0), some (iv x), some (iv y), some (iv g), some (iv w)]) ?_ rfl rfl rfl
  have hd := hS.1
  obtain ⟨k1, k2, k3, k4⟩ := kIfC_0 h0
  have hcel := xy_cel hd k1 k2
  have hc := dim_cells hd
  have hc1 := hcel.1
  have hc2 := hcel.2
  obtain ⟨P, hPe⟩ : ∃ P, P = gP S x y g := ⟨_, rfl⟩
  have hP : SV P := by rw [hPe]; exact SV_gP hS k3
  have hPc : sC P = sC S := by rw [hPe]
  have hPr : sR P = sR S := by rw [hPe]
  rw [← hPe] at ok
  have hlo := lw_ok (B := bS P) hd hcel
  have hll := lw_lw (B := bS P) hd hcel
  have e0 : w = 0 → aIfC S P x y w = siz (sC S) (sR S) (bS P) (lw (sC S) (sR S) (bS P) (y * sC S + x)) := fun e => by subst e; rfl
  have e1 : w = 1 → aIfC S P x y w = mS P := fun e => by subst e; rfl
  have e2 : w = 2 → aIfC S P x y w = dfK S P (sC S * sR S).toNat := fun e => by subst e; rfl
  refine a_aload_n (pc := 0) ok dX6_ifCell_0 rfl ?_
  refine a_getf (pc := 1) ok dX6_ifCell_1 fl6_19 rfl rfl ?_
  refine a_iload_n (pc := 4) ok dX6_ifCell_4 rfl ?_
  refine a_iload_n (pc := 5) ok dX6_ifCell_5 rfl ?_
  refine a_callVp (pc := 6) ok [1, 2, 3, 4] dX6_ifCell_6 mv6_199 miX4_hasCell (c_hasCell hd hx hy) ⟨by decide, by decide, rfl, rfl, Nat.zero_le _, Nat.zero_le _⟩ rfl rfl (Nat.le_of_ble_eq_true rfl) rfl (by decide) rfl rfl ?_
  refine a_callSv (pc := 9) ok [] dX6_ifCell_9 mv6_203 miX6_mustExist (c_mustExist (bz_pos ⟨k1.1, k1.2, k2.1, k2.2⟩)) ⟨by decide, by decide, rfl, rfl, Nat.zero_le _, Nat.zero_le _⟩ rfl rfl (Nat.le_of_ble_eq_true rfl) rfl (by decide) rfl ?_
  refine a_iload_n (pc := 12) ok dX6_ifCell_12 rfl ?_
  refine a_iconst (pc := 13) ok dX6_ifCell_13 ?_
  refine a_bipush (pc := 14) ok dX6_ifCell_14 (by decide) ?_
  refine a_callSv (pc := 16) ok [] dX6_ifCell_16 mv6_76 miX6_mustBeWithin (c_mustBeWithin k3 hg (by unfold rg; omega) (by unfold rg; omega)) ⟨by decide, by decide, rfl, rfl, Nat.zero_le _, Nat.zero_le _⟩ rfl rfl (Nat.le_of_ble_eq_true rfl) rfl (by decide) rfl ?_
  refine a_iload (pc := 19) ok dX6_ifCell_19 rfl ?_
  refine a_iconst (pc := 21) ok dX6_ifCell_21 ?_
  refine a_iconst (pc := 22) ok dX6_ifCell_22 ?_
  refine a_callSv (pc := 23) ok [] dX6_ifCell_23 mv6_76 miX6_mustBeWithin (c_mustBeWithin k4 hw (by unfold rg; omega) (by unfold rg; omega)) ⟨by decide, by decide, rfl, rfl, Nat.zero_le _, Nat.zero_le _⟩ rfl rfl (Nat.le_of_ble_eq_true rfl) rfl (by decide) rfl ?_
  refine a_aload_n (pc := 26) ok dX6_ifCell_26 rfl ?_
  refine a_getf (pc := 27) ok dX6_ifCell_27 fl6_59 rfl rfl ?_
  refine a_aload_n (pc := 30) ok dX6_ifCell_30 rfl ?_
  refine a_getf (pc := 31) ok dX6_ifCell_31 fl6_19 rfl rfl ?_
  refine a_callVv (pc := 34) ok [20, 21, 22, 23, 1, 2, 3, 4] dX6_ifCell_34 mv6_354 miX4_copyFrom (c_copyFrom) ⟨by decide, by decide, rfl, rfl, Nat.zero_le _, Nat.zero_le _⟩ rfl rfl (Nat.le_of_ble_eq_true rfl) rfl (by decide) rfl rfl rfl ?_
  refine a_aload_n (pc := 37) ok dX6_ifCell_37 rfl ?_
  refine a_getf (pc := 38) ok dX6_ifCell_38 fl6_59 rfl rfl ?_
  refine a_iload_n (pc := 41) ok dX6_ifCell_41 rfl ?_
  refine a_iload_n (pc := 42) ok dX6_ifCell_42 rfl ?_
  refine a_iload_n (pc := 43) ok dX6_ifCell_43 rfl ?_
  refine a_callVi (pc := 44) ok [20, 21, 22, 23] dX6_ifCell_44 mv6_305 miX4_setGrey (c_setGrey (c := sC S) (by omega)) ⟨by decide, by decide, rfl, rfl, Nat.zero_le _, Nat.zero_le _⟩ rfl rfl (Nat.le_of_ble_eq_true rfl) rfl (by decide) rfl rfl rfl ?_
  refine AW.cast (M2 := (clD S kn nk c0 r0 m0 ct B F Z Br Q Fo No Ho Mo In Sn Qn sd rt lf wy (P) c1 r1 m1 ct1 B1 F1 Z1 Br1 Q1 Fo1 No1 gb)) ?_ rfl rfl (by rw [hPe]; rfl)
  refine a_pop (pc := 47) ok dX6_ifCell_47 rfl ?_
  refine a_aload_n (pc := 48) ok dX6_ifCell_48 rfl ?_
  refine a_getf (pc := 49) ok dX6_ifCell_49 fl6_62 rfl rfl ?_
  refine a_aload_n (pc := 52) ok dX6_ifCell_52 rfl ?_
  refine a_getf (pc := 53) ok dX6_ifCell_53 fl6_59 rfl rfl ?_
  refine a_aload_n (pc := 56) ok dX6_ifCell_56 rfl ?_
  refine a_getf (pc := 57) ok dX6_ifCell_57 fl6_59 rfl rfl ?_
  refine a_getf (pc := 60) ok dX6_ifCell_60 fl6_165 rfl rfl ?_
  refine a_callV (pc := 63) ok [24, 25, 26, 27, 28, 29, 30, 31, 20, 21, 22, 23] dX6_ifCell_63 mv6_175 miX0_survey (c_surv 0 hP hr) ⟨by decide, by decide, rfl, rfl, Nat.zero_le _, Nat.zero_le _⟩ rfl rfl (Nat.le_of_ble_eq_true rfl) rfl (by decide) rfl rfl (fun v M' h => by obtain ⟨_, _, _, _, _, _, _, _, _, h, _⟩ := h; rw [h]; rfl) ?_
  rintro _ M' ⟨rfl, ct', B', F', Z', Br', Q', Fo', No', rfl, hI0⟩
  have hI : IW (sC S) (sR S) (bS P) ct' B' F' Z' Fo' No' := by have this : IW (sC P) (sR P) (bS P) ct' B' F' Z' Fo' No' := hI0; rw [hPc, hPr] at this; exact this
  have hct := mS_IS hI0
  have hr2 := IS_rw hI0
  refine AW.cast (st2 := []) (M2 := (clD S kn nk c0 r0 m0 ct B F Z Br Q Fo No Ho Mo In Sn Qn sd rt lf wy (P) (sC S) (sR S) (sC S * sR S) (ct') (B') (F') (Z') (Br') (Q') (Fo') (No') gb)) ?_ rfl rfl (by rw [← hPc, ← hPr]; rfl)
  refine a_iload (pc := 66) ok dX6_ifCell_66 rfl ?_
  refine a_look (pc := 68) (dt := 128) ok [96, 120] dX6_ifCell_68 (by decide) (by decide) (by decide) (by first | omega | (unfold rg; omega) | (simp only [rg] at *; omega) | exact bz_rg _ | grind [rg]) (fun j68 hj68 c68 => ?_) (fun c68 => ?_)
  · rcases (show j68 = 0 ∨ j68 = 1 by simp only [List.length_cons, List.length_nil] at hj68; omega) with rfl | rfl
    · have c68 : _ = (0 : Int) := c68
      refine a_aload_n (pc := 96) ok dX6_ifCell_96 rfl ?_
      refine a_getf (pc := 97) ok dX6_ifCell_97 fl6_62 rfl rfl ?_
      refine a_aload_n (pc := 100) ok dX6_ifCell_100 rfl ?_
      refine a_getf (pc := 101) ok dX6_ifCell_101 fl6_62 rfl rfl ?_
      refine a_aload_n (pc := 104) ok dX6_ifCell_104 rfl ?_
      refine a_getf (pc := 105) ok dX6_ifCell_105 fl6_19 rfl rfl ?_
      refine a_iload_n (pc := 108) ok dX6_ifCell_108 rfl ?_
      refine a_iload_n (pc := 109) ok dX6_ifCell_109 rfl ?_
      refine a_callVp (pc := 110) ok [1, 2, 3, 4] dX6_ifCell_110 mv6_214 miX4_cellNumber (c_cellNumber) ⟨by decide, by decide, rfl, rfl, Nat.zero_le _, Nat.zero_le _⟩ rfl rfl (Nat.le_of_ble_eq_true rfl) rfl (by decide) rfl rfl ?_
      refine a_callVp (pc := 113) ok [24, 25, 26, 27, 28, 29, 30, 31] dX6_ifCell_113 mv6_220 miX0_islandAt (c_islandAt hd hcel hI) ⟨by decide, by decide, rfl, rfl, Nat.zero_le _, Nat.zero_le _⟩ rfl rfl (Nat.le_of_ble_eq_true rfl) rfl (by decide) rfl rfl ?_
      refine a_callVp (pc := 116) ok [24, 25, 26, 27, 28, 29, 30, 31] dX6_ifCell_116 mv6_241 miX0_size (c_sizeI hd hlo.1 hll rfl hI) ⟨by decide, by decide, rfl, rfl, Nat.zero_le _, Nat.zero_le _⟩ rfl rfl (Nat.le_of_ble_eq_true rfl) rfl (by decide) rfl rfl ?_
      exact a_iret (pc := 119) ok dX6_ifCell_119 (⟨by rw [e0 (by omega)], RD_mk h hr2⟩)
    · have c68 : _ = (1 : Int) := c68
      refine a_aload_n (pc := 120) ok dX6_ifCell_120 rfl ?_
      refine a_getf (pc := 121) ok dX6_ifCell_121 fl6_62 rfl rfl ?_
      refine a_getf (pc := 124) ok dX6_ifCell_124 fl6_172 rfl rfl ?_
      exact a_iret (pc := 127) ok dX6_ifCell_127 (⟨by rw [e1 (by omega), ← hct], RD_mk h hr2⟩)
  · have c68_0 := c68 0 (by decide)
    have c68_1 := c68 1 (by decide)
    refine a_aload_n (pc := 128) ok dX6_ifCell_128 rfl ?_
    refine a_getf (pc := 129) ok dX6_ifCell_129 fl6_62 rfl rfl ?_
    refine a_aload_n (pc := 132) ok dX6_ifCell_132 rfl ?_
    refine x_callV (pc := 133) ok [0, 1, 2, 3, 4, 5, 6, 7, 8, 9, 10, 11, 12, 13, 14, 15, 16, 17, 18, 19, 20, 21, 22, 23, 24, 25, 26, 27, 28, 29, 30, 31, 32, 33, 34, 35, 36, 37, 38, 39, 40, 41, 42, 43, 44, 45] 13 dX6_ifCell_133 mv6_168 miX6_present (c_present hS h.1) ⟨by decide, by decide, rfl, rfl, Nat.zero_le _, Nat.zero_le _⟩ rfl rfl (Nat.le_of_ble_eq_true rfl) rfl rfl (by decide) rfl rfl (fun v M' h => by obtain ⟨_, _, _, _, _, _, _, _, _, h, _⟩ := h; rw [h]; rfl) ?_
    rintro _ M' ⟨rfl, ct2, B2, F2, Z2, Br2, Q2, Fo2, No2, rfl, hI2, -⟩
    refine AW.cast (st2 := [.ref 5, .ref 24]) (M2 := (clD S (1) nk (sC S) (sR S) (sC S * sR S) (ct2) (B2) (F2) (Z2) (Br2) (Q2) (Fo2) (No2) Ho Mo In Sn Qn sd rt lf wy (P) (sC S) (sR S) (sC S * sR S) (ct') (B') (F') (Z') (Br') (Q') (Fo') (No') gb)) ?_ rfl rfl rfl
    refine a_callVp (pc := 136) ok [24, 25, 26, 27, 28, 29, 30, 31, 5, 6, 7, 8, 9, 10, 11, 12] dX6_ifCell_136 mv6_368 miX0_cellsOtherThan (c_cellsOtherThan hd hI hI2) ⟨by decide, by decide, rfl, rfl, Nat.zero_le _, Nat.zero_le _⟩ rfl rfl (Nat.le_of_ble_eq_true rfl) rfl (by decide) rfl rfl ?_
    exact a_iret (pc := 139) ok dX6_ifCell_139 (⟨by rw [e2 (by omega)]; rfl, RD_mk (CN_p h hI2) hr2⟩)
end CW7
