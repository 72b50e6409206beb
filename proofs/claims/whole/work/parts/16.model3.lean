/-! MODEL's state: thresholds changed, shares, turned greys, copies. -/
section MD3
variable {l : Launch} {c r le li : Int} {G T Hh : Int → Int}
theorem dX7_partOn_0 : decode cX7_partOn 0 = .ok (.aload_n 0, 1) := by decide +kernel
theorem dX7_partOn_1 : decode cX7_partOn 1 = .ok (.iload_n 1, 1) := by decide +kernel
theorem dX7_partOn_2 : decode cX7_partOn 2 = .ok (.invokestatic 161, 3) := by decide +kernel
theorem dX7_partOn_5 : decode cX7_partOn 5 = .ok (.istore_n 3, 1) := by decide +kernel
theorem dX7_partOn_6 : decode cX7_partOn 6 = .ok (.iload_n 2, 1) := by decide +kernel
theorem dX7_partOn_7 : decode cX7_partOn 7 = .ok (.ifCond .eq 50, 3) := by decide +kernel
theorem dX7_partOn_10 : decode cX7_partOn 10 = .ok (.aload_n 0, 1) := by decide +kernel
theorem dX7_partOn_11 : decode cX7_partOn 11 = .ok (.iconst 2, 1) := by decide +kernel
theorem dX7_partOn_12 : decode cX7_partOn 12 = .ok (.iaload, 1) := by decide +kernel
theorem dX7_partOn_13 : decode cX7_partOn 13 = .ok (.istore 4, 2) := by decide +kernel
theorem dX7_partOn_15 : decode cX7_partOn 15 = .ok (.iload 4, 2) := by decide +kernel
theorem dX7_partOn_17 : decode cX7_partOn 17 = .ok (.iload_n 3, 1) := by decide +kernel
theorem dX7_partOn_18 : decode cX7_partOn 18 = .ok (.if_icmp .le 23, 3) := by decide +kernel
theorem dX7_partOn_21 : decode cX7_partOn 21 = .ok (.aload_n 0, 1) := by decide +kernel
theorem dX7_partOn_22 : decode cX7_partOn 22 = .ok (.iconst 3, 1) := by decide +kernel
theorem dX7_partOn_23 : decode cX7_partOn 23 = .ok (.iload 4, 2) := by decide +kernel
theorem dX7_partOn_25 : decode cX7_partOn 25 = .ok (.iadd, 1) := by decide +kernel
theorem dX7_partOn_26 : decode cX7_partOn 26 = .ok (.aload_n 0, 1) := by decide +kernel
theorem dX7_partOn_27 : decode cX7_partOn 27 = .ok (.iconst 3, 1) := by decide +kernel
theorem dX7_partOn_28 : decode cX7_partOn 28 = .ok (.iload 4, 2) := by decide +kernel
theorem dX7_partOn_30 : decode cX7_partOn 30 = .ok (.iadd, 1) := by decide +kernel
theorem dX7_partOn_31 : decode cX7_partOn 31 = .ok (.iconst 1, 1) := by decide +kernel
theorem dX7_partOn_32 : decode cX7_partOn 32 = .ok (.isub, 1) := by decide +kernel
theorem dX7_partOn_33 : decode cX7_partOn 33 = .ok (.iaload, 1) := by decide +kernel
theorem dX7_partOn_34 : decode cX7_partOn 34 = .ok (.iastore, 1) := by decide +kernel
theorem dX7_partOn_35 : decode cX7_partOn 35 = .ok (.iinc 4 (-1), 3) := by decide +kernel
theorem dX7_partOn_38 : decode cX7_partOn 38 = .ok (.goto (-23), 3) := by decide +kernel
theorem dX7_partOn_41 : decode cX7_partOn 41 = .ok (.aload_n 0, 1) := by decide +kernel
theorem dX7_partOn_42 : decode cX7_partOn 42 = .ok (.iconst 3, 1) := by decide +kernel
theorem dX7_partOn_43 : decode cX7_partOn 43 = .ok (.iload_n 3, 1) := by decide +kernel
theorem dX7_partOn_44 : decode cX7_partOn 44 = .ok (.iadd, 1) := by decide +kernel
theorem dX7_partOn_45 : decode cX7_partOn 45 = .ok (.iload_n 1, 1) := by decide +kernel
theorem dX7_partOn_46 : decode cX7_partOn 46 = .ok (.iastore, 1) := by decide +kernel
theorem dX7_partOn_47 : decode cX7_partOn 47 = .ok (.aload_n 0, 1) := by decide +kernel
theorem dX7_partOn_48 : decode cX7_partOn 48 = .ok (.iconst 2, 1) := by decide +kernel
theorem dX7_partOn_49 : decode cX7_partOn 49 = .ok (.dup2, 1) := by decide +kernel
theorem dX7_partOn_50 : decode cX7_partOn 50 = .ok (.iaload, 1) := by decide +kernel
theorem dX7_partOn_51 : decode cX7_partOn 51 = .ok (.iconst 1, 1) := by decide +kernel
theorem dX7_partOn_52 : decode cX7_partOn 52 = .ok (.iadd, 1) := by decide +kernel
theorem dX7_partOn_53 : decode cX7_partOn 53 = .ok (.iastore, 1) := by decide +kernel
theorem dX7_partOn_54 : decode cX7_partOn 54 = .ok (.goto 41, 3) := by decide +kernel
theorem dX7_partOn_57 : decode cX7_partOn 57 = .ok (.aload_n 0, 1) := by decide +kernel
theorem dX7_partOn_58 : decode cX7_partOn 58 = .ok (.iconst 2, 1) := by decide +kernel
theorem dX7_partOn_59 : decode cX7_partOn 59 = .ok (.dup2, 1) := by decide +kernel
theorem dX7_partOn_60 : decode cX7_partOn 60 = .ok (.iaload, 1) := by decide +kernel
theorem dX7_partOn_61 : decode cX7_partOn 61 = .ok (.iconst 1, 1) := by decide +kernel
theorem dX7_partOn_62 : decode cX7_partOn 62 = .ok (.isub, 1) := by decide +kernel
theorem dX7_partOn_63 : decode cX7_partOn 63 = .ok (.iastore, 1) := by decide +kernel
theorem dX7_partOn_64 : decode cX7_partOn 64 = .ok (.iload_n 3, 1) := by decide +kernel
theorem dX7_partOn_65 : decode cX7_partOn 65 = .ok (.istore 4, 2) := by decide +kernel
theorem dX7_partOn_67 : decode cX7_partOn 67 = .ok (.iload 4, 2) := by decide +kernel
theorem dX7_partOn_69 : decode cX7_partOn 69 = .ok (.aload_n 0, 1) := by decide +kernel
theorem dX7_partOn_70 : decode cX7_partOn 70 = .ok (.iconst 2, 1) := by decide +kernel
theorem dX7_partOn_71 : decode cX7_partOn 71 = .ok (.iaload, 1) := by decide +kernel
theorem dX7_partOn_72 : decode cX7_partOn 72 = .ok (.if_icmp .ge 23, 3) := by decide +kernel
theorem dX7_partOn_75 : decode cX7_partOn 75 = .ok (.aload_n 0, 1) := by decide +kernel
theorem dX7_partOn_76 : decode cX7_partOn 76 = .ok (.iconst 3, 1) := by decide +kernel
theorem dX7_partOn_77 : decode cX7_partOn 77 = .ok (.iload 4, 2) := by decide +kernel
theorem dX7_partOn_79 : decode cX7_partOn 79 = .ok (.iadd, 1) := by decide +kernel
theorem dX7_partOn_80 : decode cX7_partOn 80 = .ok (.aload_n 0, 1) := by decide +kernel
theorem dX7_partOn_81 : decode cX7_partOn 81 = .ok (.iconst 3, 1) := by decide +kernel
theorem dX7_partOn_82 : decode cX7_partOn 82 = .ok (.iload 4, 2) := by decide +kernel
theorem dX7_partOn_84 : decode cX7_partOn 84 = .ok (.iadd, 1) := by decide +kernel
theorem dX7_partOn_85 : decode cX7_partOn 85 = .ok (.iconst 1, 1) := by decide +kernel
theorem dX7_partOn_86 : decode cX7_partOn 86 = .ok (.iadd, 1) := by decide +kernel
theorem dX7_partOn_87 : decode cX7_partOn 87 = .ok (.iaload, 1) := by decide +kernel
theorem dX7_partOn_88 : decode cX7_partOn 88 = .ok (.iastore, 1) := by decide +kernel
theorem dX7_partOn_89 : decode cX7_partOn 89 = .ok (.iinc 4 1, 3) := by decide +kernel
theorem dX7_partOn_92 : decode cX7_partOn 92 = .ok (.goto (-25), 3) := by decide +kernel
theorem dX7_partOn_95 : decode cX7_partOn 95 = .ok (.aload_n 0, 1) := by decide +kernel
theorem dX7_partOn_96 : decode cX7_partOn 96 = .ok (.iconst 2, 1) := by decide +kernel
theorem dX7_partOn_97 : decode cX7_partOn 97 = .ok (.iaload, 1) := by decide +kernel
theorem dX7_partOn_98 : decode cX7_partOn 98 = .ok (.ireturn, 1) := by decide +kernel
theorem c_partOn {n : Nat} {v b : Int} (hn : n ≤ 5) (hT : ∀ i, 0 ≤ T i ∧ T i ≤ 99) (hs : srt T n) (hv : rg v) (hb : rg b) (hcan : canT T n v b = true) : Cd l yX7_partOn cX7_partOn 5 (some .int) rmX7_partOn [.ref 0, iv v, iv b] (rwM c r G T n le Hh li) (some (iv (chN n b))) (rwM c r G (chT T n v b) (chN n b) le Hh li) := by
  refine Ct.of miX7_partOn (Nat.le_of_ble_eq_true rfl) ?_
  intro X hXl hN ok
  refine AW.cast (L2 := [some (.ref 0), some (iv v), some (iv b), none, none]) ?_ rfl rfl rfl
  have hp := plK_spec (v := v) hs
  have hc0 : b = 0 → hasT T n v = true := fun h => by simpa [canT, h] using hcan
  have hc1 : ¬ b = 0 → hasT T n v = false ∧ n < 5 := fun h => by simp [canT, h] at hcan; exact hcan
  have hz0 : b = 0 → (chN n b : Int) = (n : Int) - 1 ∧ chT T n v b = remT T n (plK T n v) := fun h => ⟨by have := hasT_at (hc0 h); unfold chN; rw [if_pos h]; omega, by unfold chT; rw [if_pos h, plK_fst hs (hc0 h)]⟩
  have hz1 : ¬ b = 0 → (chN n b : Int) = (n : Int) + 1 ∧ chT T n v b = insT T n v := fun h => ⟨by unfold chN; rw [if_neg h]; omega, by unfold chT; rw [if_neg h]⟩
  have loopI : ∀ k : Int, (¬ b = 0 ∧ plK T n v ≤ k ∧ k ≤ n) → AW X 0 0 15 [some (.ref 0), some (iv v), some (iv b), some (iv (plK T n v)), some (iv k)] [] (rwM c r G (fun j => if k < j ∧ j ≤ n then T (j - 1) else T j) n le Hh li) := by
    refine wfl (fun k : Int => k.toNat) _ _ ?_
    rintro k ⟨hb0, hk0, hk1⟩ ih
    have h5 := (hc1 hb0).2
    have hat : (if k < k - 1 ∧ k - 1 ≤ n then T (k - 1 - 1) else T (k - 1)) = T (k - 1) := if_neg (by omega)
    refine a_iload (pc := 15) ok dX7_partOn_15 rfl ?_
    refine a_iload_n (pc := 17) ok dX7_partOn_17 rfl ?_
    refine a_icmp_le (pc := 18) (tgt := 41) ok dX7_partOn_18 (by decide) (by first | omega | (unfold rg; omega) | (simp only [rg] at *; omega) | exact bz_rg _ | grind [rg]) (by first | omega | (unfold rg; omega) | (simp only [rg] at *; omega) | exact bz_rg _ | grind [rg]) (fun c18 => ?_) (fun c18 => ?_)
    · refine a_aload_n (pc := 41) ok dX7_partOn_41 rfl ?_
      refine a_iconst (pc := 42) ok dX7_partOn_42 ?_
      refine a_iload_n (pc := 43) ok dX7_partOn_43 rfl ?_
      refine a_iadd (pc := 44) ok dX7_partOn_44 ?_
      refine a_iload_n (pc := 45) ok dX7_partOn_45 rfl ?_
      refine a_rstT (pc := 46) ok dX7_partOn_46 rfl rfl (by first | omega | (unfold rg; omega) | (simp only [rg] at *; omega) | exact bz_rg _ | grind [rg]) ?_
      refine a_aload_n (pc := 47) ok dX7_partOn_47 rfl ?_
      refine a_iconst (pc := 48) ok dX7_partOn_48 ?_
      refine a_dup2 (pc := 49) ok dX7_partOn_49 rfl rfl ?_
      refine a_rldN (pc := 50) ok dX7_partOn_50 rfl ?_
      refine a_iconst (pc := 51) ok dX7_partOn_51 ?_
      refine a_iadd (pc := 52) ok dX7_partOn_52 ?_
      refine a_rstN (pc := 53) ok dX7_partOn_53 rfl ?_
      refine a_goto (pc := 54) (tgt := 95) ok dX7_partOn_54 (by decide) ?_
      have e : up (fun j => if k < j ∧ j ≤ n then T (j - 1) else T j) (plK T n v) v = insT T n v := by
        have hek : k = plK T n v := by omega
        subst hek
        have hci := plK_ins hs (hc1 hb0).1
        funext j; simp only [up, insT, hci]
        by_cases h1 : j = plK T n v
        · rw [if_pos h1, if_neg (by omega), if_pos h1]
        · rw [if_neg h1]; by_cases h2 : j < plK T n v
          · rw [if_neg (by omega), if_pos h2]
          · rw [if_neg h2, if_neg h1]; by_cases h3 : j ≤ n
            · rw [if_pos (by omega), if_pos h3]
            · rw [if_neg (by omega), if_neg h3]
      have hz := hz1 hb0
      refine a_aload_n (pc := 95) ok dX7_partOn_95 rfl ?_
      refine a_iconst (pc := 96) ok dX7_partOn_96 ?_
      refine a_rldN (pc := 97) ok dX7_partOn_97 rfl ?_
      exact a_iret (pc := 98) ok dX7_partOn_98 (by rw [hz.1, hz.2, ← e]; exact ⟨rfl, rfl⟩)
    · refine a_aload_n (pc := 21) ok dX7_partOn_21 rfl ?_
      refine a_iconst (pc := 22) ok dX7_partOn_22 ?_
      refine a_iload (pc := 23) ok dX7_partOn_23 rfl ?_
      refine a_iadd (pc := 25) ok dX7_partOn_25 ?_
      refine a_aload_n (pc := 26) ok dX7_partOn_26 rfl ?_
      refine a_iconst (pc := 27) ok dX7_partOn_27 ?_
      refine a_iload (pc := 28) ok dX7_partOn_28 rfl ?_
      refine a_iadd (pc := 30) ok dX7_partOn_30 ?_
      refine a_iconst (pc := 31) ok dX7_partOn_31 ?_
      refine a_isub (pc := 32) ok dX7_partOn_32 ?_
      refine a_rldT (pc := 33) (b := k - 1) ok dX7_partOn_33 rfl (by omega) (by first | omega | (unfold rg; omega) | (simp only [rg] at *; omega) | exact bz_rg _ | grind [rg]) ?_
      refine AW.cast (st2 := [iv (T (k - 1)), iv (3 + k), .ref 0]) ?_ rfl (by rw [hat]) rfl
      refine a_rstT (pc := 34) ok dX7_partOn_34 rfl rfl (by first | omega | (unfold rg; omega) | (simp only [rg] at *; omega) | exact bz_rg _ | grind [rg]) ?_
      refine a_iinc (pc := 35) ok dX7_partOn_35 rfl rfl (by rw [hN]; decide) ?_
      refine a_goto (pc := 38) (tgt := 15) ok dX7_partOn_38 (by decide) ?_
      refine AW.cast (ih (k - 1) ⟨hb0, by omega, by omega⟩ (by omega)) rfl rfl ?_
      have e : up (fun j => if k < j ∧ j ≤ n then T (j - 1) else T j) k (T (k - 1)) = fun j => if k - 1 < j ∧ j ≤ n then T (j - 1) else T j := by
        funext j; simp only [up]
        by_cases h1 : j = k
        · rw [if_pos h1, if_pos (by omega), h1]
        · rw [if_neg h1]; by_cases h2 : k < j ∧ j ≤ n
          · rw [if_pos h2, if_pos (by omega)]
          · rw [if_neg h2, if_neg (by omega)]
      exact congrArg (fun f => rwM c r G f n le Hh li) e
  have loopO : ∀ k : Int, (b = 0 ∧ plK T n v ≤ k ∧ k ≤ (n : Int) - 1) → AW X 0 0 67 [some (.ref 0), some (iv v), some (iv b), some (iv (plK T n v)), some (iv k)] [] (rwM c r G (fun j => if plK T n v ≤ j ∧ j < k then T (j + 1) else T j) ((n : Int) - 1) le Hh li) := by
    refine wfl (fun k : Int => (n - k).toNat) _ _ ?_
    rintro k ⟨hb0, hk0, hk1⟩ ih
    have hat : (if plK T n v ≤ k + 1 ∧ k + 1 < k then T (k + 1 + 1) else T (k + 1)) = T (k + 1) := if_neg (by omega)
    have hz := hz0 hb0
    refine a_iload (pc := 67) ok dX7_partOn_67 rfl ?_
    refine a_aload_n (pc := 69) ok dX7_partOn_69 rfl ?_
    refine a_iconst (pc := 70) ok dX7_partOn_70 ?_
    refine a_rldN (pc := 71) ok dX7_partOn_71 rfl ?_
    refine a_icmp_ge (pc := 72) (tgt := 95) ok dX7_partOn_72 (by decide) (by first | omega | (unfold rg; omega) | (simp only [rg] at *; omega) | exact bz_rg _ | grind [rg]) (by first | omega | (unfold rg; omega) | (simp only [rg] at *; omega) | exact bz_rg _ | grind [rg]) (fun c72 => ?_) (fun c72 => ?_)
    · have e : k = (n : Int) - 1 := by omega
      subst e
      refine a_aload_n (pc := 95) ok dX7_partOn_95 rfl ?_
      refine a_iconst (pc := 96) ok dX7_partOn_96 ?_
      refine a_rldN (pc := 97) ok dX7_partOn_97 rfl ?_
      exact a_iret (pc := 98) ok dX7_partOn_98 (by rw [hz.1, hz.2]; exact ⟨rfl, rfl⟩)
    · refine a_aload_n (pc := 75) ok dX7_partOn_75 rfl ?_
      refine a_iconst (pc := 76) ok dX7_partOn_76 ?_
      refine a_iload (pc := 77) ok dX7_partOn_77 rfl ?_
      refine a_iadd (pc := 79) ok dX7_partOn_79 ?_
      refine a_aload_n (pc := 80) ok dX7_partOn_80 rfl ?_
      refine a_iconst (pc := 81) ok dX7_partOn_81 ?_
      refine a_iload (pc := 82) ok dX7_partOn_82 rfl ?_
      refine a_iadd (pc := 84) ok dX7_partOn_84 ?_
      refine a_iconst (pc := 85) ok dX7_partOn_85 ?_
      refine a_iadd (pc := 86) ok dX7_partOn_86 ?_
      refine a_rldT (pc := 87) (b := k + 1) ok dX7_partOn_87 rfl (by omega) (by first | omega | (unfold rg; omega) | (simp only [rg] at *; omega) | exact bz_rg _ | grind [rg]) ?_
      refine AW.cast (st2 := [iv (T (k + 1)), iv (3 + k), .ref 0]) ?_ rfl (by rw [hat]) rfl
      refine a_rstT (pc := 88) ok dX7_partOn_88 rfl rfl (by first | omega | (unfold rg; omega) | (simp only [rg] at *; omega) | exact bz_rg _ | grind [rg]) ?_
      refine a_iinc (pc := 89) ok dX7_partOn_89 rfl rfl (by rw [hN]; decide) ?_
      refine a_goto (pc := 92) (tgt := 67) ok dX7_partOn_92 (by decide) ?_
      refine AW.cast (ih (k + 1) ⟨hb0, by omega, by omega⟩ (by omega)) rfl rfl ?_
      have e : up (fun j => if plK T n v ≤ j ∧ j < k then T (j + 1) else T j) k (T (k + 1)) = fun j => if plK T n v ≤ j ∧ j < k + 1 then T (j + 1) else T j := by
        funext j; simp only [up]
        by_cases h1 : j = k
        · rw [if_pos h1, if_pos (by omega), h1]
        · rw [if_neg h1]; by_cases h2 : plK T n v ≤ j ∧ j < k
          · rw [if_pos h2, if_pos (by omega)]
          · rw [if_neg h2, if_neg (by omega)]
      exact congrArg (fun f => rwM c r G f ((n : Int) - 1) le Hh li) e
  refine a_aload_n (pc := 0) ok dX7_partOn_0 rfl ?_
  refine a_iload_n (pc := 1) ok dX7_partOn_1 rfl ?_
  refine a_callSp (pc := 2) ok [0] dX7_partOn_2 mv7_161 miX7_placeOf (c_placeOf hn hT hs hv) ⟨by decide, by decide, rfl, rfl, Nat.zero_le _, Nat.zero_le _⟩ rfl rfl (Nat.le_of_ble_eq_true rfl) rfl (by decide) ?_
  refine a_istore_n (pc := 5) ok dX7_partOn_5 rfl (by rw [hN]; decide) ?_
  refine a_iload_n (pc := 6) ok dX7_partOn_6 rfl ?_
  refine a_if_eq (pc := 7) (tgt := 57) ok dX7_partOn_7 (by decide) (by first | omega | (unfold rg; omega) | (simp only [rg] at *; omega) | exact bz_rg _ | grind [rg]) (fun c7 => ?_) (fun c7 => ?_)
  · refine a_aload_n (pc := 57) ok dX7_partOn_57 rfl ?_
    refine a_iconst (pc := 58) ok dX7_partOn_58 ?_
    refine a_dup2 (pc := 59) ok dX7_partOn_59 rfl rfl ?_
    refine a_rldN (pc := 60) ok dX7_partOn_60 rfl ?_
    refine a_iconst (pc := 61) ok dX7_partOn_61 ?_
    refine a_isub (pc := 62) ok dX7_partOn_62 ?_
    refine a_rstN (pc := 63) ok dX7_partOn_63 rfl ?_
    refine a_iload_n (pc := 64) ok dX7_partOn_64 rfl ?_
    refine a_istore (pc := 65) ok dX7_partOn_65 rfl (by rw [hN]; decide) ?_
    have hw := (plK_there hs).mp (hc0 (by omega))
    refine AW.cast (loopO (plK T n v) ⟨by omega, by omega, by omega⟩) rfl rfl ?_
    have e : T = fun j => if plK T n v ≤ j ∧ j < plK T n v then T (j + 1) else T j := by funext j; rw [if_neg (by omega)]
    exact congrArg (fun f => rwM c r G f ((n : Int) - 1) le Hh li) e
  · refine a_aload_n (pc := 10) ok dX7_partOn_10 rfl ?_
    refine a_iconst (pc := 11) ok dX7_partOn_11 ?_
    refine a_rldN (pc := 12) ok dX7_partOn_12 rfl ?_
    refine a_istore (pc := 13) ok dX7_partOn_13 rfl (by rw [hN]; decide) ?_
    refine AW.cast (loopI n ⟨by omega, hp.2.1, by omega⟩) rfl rfl ?_
    have e : T = fun j => if (n : Int) < j ∧ j ≤ n then T (j - 1) else T j := by funext j; rw [if_neg (by omega)]
    exact congrArg (fun f => rwM c r G f n le Hh li) e
theorem dX7_below_0 : decode cX7_below 0 = .ok (.iconst 0, 1) := by decide +kernel
theorem dX7_below_1 : decode cX7_below 1 = .ok (.istore_n 2, 1) := by decide +kernel
theorem dX7_below_2 : decode cX7_below 2 = .ok (.iconst 0, 1) := by decide +kernel
theorem dX7_below_3 : decode cX7_below 3 = .ok (.istore_n 3, 1) := by decide +kernel
theorem dX7_below_4 : decode cX7_below 4 = .ok (.iload_n 3, 1) := by decide +kernel
theorem dX7_below_5 : decode cX7_below 5 = .ok (.aload_n 0, 1) := by decide +kernel
theorem dX7_below_6 : decode cX7_below 6 = .ok (.invokestatic 74, 3) := by decide +kernel
theorem dX7_below_9 : decode cX7_below 9 = .ok (.if_icmp .ge 27, 3) := by decide +kernel
theorem dX7_below_12 : decode cX7_below 12 = .ok (.iload_n 2, 1) := by decide +kernel
theorem dX7_below_13 : decode cX7_below 13 = .ok (.aload_n 0, 1) := by decide +kernel
theorem dX7_below_14 : decode cX7_below 14 = .ok (.bipush 16, 2) := by decide +kernel
theorem dX7_below_16 : decode cX7_below 16 = .ok (.iload_n 3, 1) := by decide +kernel
theorem dX7_below_17 : decode cX7_below 17 = .ok (.iadd, 1) := by decide +kernel
theorem dX7_below_18 : decode cX7_below 18 = .ok (.iaload, 1) := by decide +kernel
theorem dX7_below_19 : decode cX7_below 19 = .ok (.iload_n 1, 1) := by decide +kernel
theorem dX7_below_20 : decode cX7_below 20 = .ok (.if_icmp .ge 7, 3) := by decide +kernel
theorem dX7_below_23 : decode cX7_below 23 = .ok (.iconst 1, 1) := by decide +kernel
theorem dX7_below_24 : decode cX7_below 24 = .ok (.goto 4, 3) := by decide +kernel
theorem dX7_below_27 : decode cX7_below 27 = .ok (.iconst 0, 1) := by decide +kernel
theorem dX7_below_28 : decode cX7_below 28 = .ok (.iadd, 1) := by decide +kernel
theorem dX7_below_29 : decode cX7_below 29 = .ok (.istore_n 2, 1) := by decide +kernel
theorem dX7_below_30 : decode cX7_below 30 = .ok (.iinc 3 1, 3) := by decide +kernel
theorem dX7_below_33 : decode cX7_below 33 = .ok (.goto (-29), 3) := by decide +kernel
theorem dX7_below_36 : decode cX7_below 36 = .ok (.iload_n 2, 1) := by decide +kernel
theorem dX7_below_37 : decode cX7_below 37 = .ok (.ireturn, 1) := by decide +kernel
theorem c_below {n v : Int} (hd : dim c r) (hG : ∀ i, 0 ≤ G i ∧ G i ≤ 99) (hv : rg v) : Cd l yX7_below cX7_below 4 (some .int) rmX7_below [.ref 0, iv v] (rwM c r G T n le Hh li) (some (iv (belowK G (c * r).toNat v))) (rwM c r G T n le Hh li) := by
  refine Ct.of miX7_below (Nat.le_of_ble_eq_true rfl) ?_
  intro X hXl hN ok
  refine AW.cast (L2 := [some (.ref 0), some (iv v), none, none]) ?_ rfl rfl rfl
  have hc := dim_cells hd
  have loop : ∀ k : Nat, (k : Int) ≤ c * r → AW X 0 0 4 [some (.ref 0), some (iv v), some (iv (cntK (fun k => decide (G k < v)) k)), some (iv k)] [] (rwM c r G T n le Hh li) := by
    refine wfl (fun k : Nat => (c * r).toNat - k) _ _ ?_
    intro k hk ih
    have hGk := hG k
    refine a_iload_n (pc := 4) ok dX7_below_4 rfl ?_
    refine a_aload_n (pc := 5) ok dX7_below_5 rfl ?_
    refine a_callSp (pc := 6) ok [0] dX7_below_6 mv7_74 miX7_cells (c_cells) ⟨by decide, by decide, rfl, rfl, Nat.zero_le _, Nat.zero_le _⟩ rfl rfl (Nat.le_of_ble_eq_true rfl) rfl (by decide) ?_
    refine a_icmp_ge (pc := 9) (tgt := 36) ok dX7_below_9 (by decide) (by first | omega | (unfold rg; omega) | (simp only [rg] at *; omega) | exact bz_rg _ | grind [rg]) (by first | omega | (unfold rg; omega) | (simp only [rg] at *; omega) | exact bz_rg _ | grind [rg]) (fun c9 => ?_) (fun c9 => ?_)
    · have e : k = (c * r).toNat := by omega
      subst e
      refine a_iload_n (pc := 36) ok dX7_below_36 rfl ?_
      exact a_iret (pc := 37) ok dX7_below_37 (⟨rfl, rfl⟩)
    · refine a_iload_n (pc := 12) ok dX7_below_12 rfl ?_
      refine a_aload_n (pc := 13) ok dX7_below_13 rfl ?_
      refine a_bipush (pc := 14) ok dX7_below_14 (by decide) ?_
      refine a_iload_n (pc := 16) ok dX7_below_16 rfl ?_
      refine a_iadd (pc := 17) ok dX7_below_17 ?_
      refine a_rldG (pc := 18) ok dX7_below_18 rfl rfl (by first | omega | (unfold rg; omega) | (simp only [rg] at *; omega) | exact bz_rg _ | grind [rg]) ?_
      refine a_iload_n (pc := 19) ok dX7_below_19 rfl ?_
      refine a_icmp_ge (pc := 20) (tgt := 27) ok dX7_below_20 (by decide) (by first | omega | (unfold rg; omega) | (simp only [rg] at *; omega) | exact bz_rg _ | grind [rg]) (by first | omega | (unfold rg; omega) | (simp only [rg] at *; omega) | exact bz_rg _ | grind [rg]) (fun c20 => ?_) (fun c20 => ?_)
      · refine a_iconst (pc := 27) ok dX7_below_27 ?_
        refine a_iadd (pc := 28) ok dX7_below_28 ?_
        refine a_istore_n (pc := 29) ok dX7_below_29 rfl (by rw [hN]; decide) ?_
        refine AW.cast (L2 := [some (.ref 0), some (iv v), some (iv (cntK (fun k => decide (G k < v)) (k + 1))), some (iv k)]) ?_ (by first | (rw [cntK_t (decide_eq_true (by omega))] <;> rfl) | (rw [cntK_f (decide_eq_false (by omega))]; simp)) rfl rfl
        refine a_iinc (pc := 30) ok dX7_below_30 rfl rfl (by rw [hN]; decide) ?_
        refine a_goto (pc := 33) (tgt := 4) ok dX7_below_33 (by decide) ?_
        exact ih (k + 1) (by omega) (by omega)
      · refine a_iconst (pc := 23) ok dX7_below_23 ?_
        refine a_goto (pc := 24) (tgt := 28) ok dX7_below_24 (by decide) ?_
        refine a_iadd (pc := 28) ok dX7_below_28 ?_
        refine a_istore_n (pc := 29) ok dX7_below_29 rfl (by rw [hN]; decide) ?_
        refine AW.cast (L2 := [some (.ref 0), some (iv v), some (iv (cntK (fun k => decide (G k < v)) (k + 1))), some (iv k)]) ?_ (by first | (rw [cntK_t (decide_eq_true (by omega))] <;> rfl) | (rw [cntK_f (decide_eq_false (by omega))]; simp)) rfl rfl
        refine a_iinc (pc := 30) ok dX7_below_30 rfl rfl (by rw [hN]; decide) ?_
        refine a_goto (pc := 33) (tgt := 4) ok dX7_below_33 (by decide) ?_
        exact ih (k + 1) (by omega) (by omega)
  refine a_iconst (pc := 0) ok dX7_below_0 ?_
  refine a_istore_n (pc := 1) ok dX7_below_1 rfl (by rw [hN]; decide) ?_
  refine a_iconst (pc := 2) ok dX7_below_2 ?_
  refine a_istore_n (pc := 3) ok dX7_below_3 rfl (by rw [hN]; decide) ?_
  exact loop 0 (by omega)
theorem dX7_shareOn_0 : decode cX7_shareOn 0 = .ok (.aload_n 0, 1) := by decide +kernel
theorem dX7_shareOn_1 : decode cX7_shareOn 1 = .ok (.iconst 2, 1) := by decide +kernel
theorem dX7_shareOn_2 : decode cX7_shareOn 2 = .ok (.iconst 0, 1) := by decide +kernel
theorem dX7_shareOn_3 : decode cX7_shareOn 3 = .ok (.iastore, 1) := by decide +kernel
theorem dX7_shareOn_4 : decode cX7_shareOn 4 = .ok (.iconst 1, 1) := by decide +kernel
theorem dX7_shareOn_5 : decode cX7_shareOn 5 = .ok (.istore_n 2, 1) := by decide +kernel
theorem dX7_shareOn_6 : decode cX7_shareOn 6 = .ok (.iload_n 2, 1) := by decide +kernel
theorem dX7_shareOn_7 : decode cX7_shareOn 7 = .ok (.iload_n 1, 1) := by decide +kernel
theorem dX7_shareOn_8 : decode cX7_shareOn 8 = .ok (.if_icmp .gt 56, 3) := by decide +kernel
theorem dX7_shareOn_11 : decode cX7_shareOn 11 = .ok (.iconst 1, 1) := by decide +kernel
theorem dX7_shareOn_12 : decode cX7_shareOn 12 = .ok (.istore_n 3, 1) := by decide +kernel
theorem dX7_shareOn_13 : decode cX7_shareOn 13 = .ok (.iload_n 3, 1) := by decide +kernel
theorem dX7_shareOn_14 : decode cX7_shareOn 14 = .ok (.bipush 99, 2) := by decide +kernel
theorem dX7_shareOn_16 : decode cX7_shareOn 16 = .ok (.if_icmp .ge 27, 3) := by decide +kernel
theorem dX7_shareOn_19 : decode cX7_shareOn 19 = .ok (.aload_n 0, 1) := by decide +kernel
theorem dX7_shareOn_20 : decode cX7_shareOn 20 = .ok (.iload_n 3, 1) := by decide +kernel
theorem dX7_shareOn_21 : decode cX7_shareOn 21 = .ok (.invokestatic 167, 3) := by decide +kernel
theorem dX7_shareOn_24 : decode cX7_shareOn 24 = .ok (.aload_n 0, 1) := by decide +kernel
theorem dX7_shareOn_25 : decode cX7_shareOn 25 = .ok (.invokestatic 74, 3) := by decide +kernel
theorem dX7_shareOn_28 : decode cX7_shareOn 28 = .ok (.iload_n 2, 1) := by decide +kernel
theorem dX7_shareOn_29 : decode cX7_shareOn 29 = .ok (.imul, 1) := by decide +kernel
theorem dX7_shareOn_30 : decode cX7_shareOn 30 = .ok (.iload_n 1, 1) := by decide +kernel
theorem dX7_shareOn_31 : decode cX7_shareOn 31 = .ok (.iconst 1, 1) := by decide +kernel
theorem dX7_shareOn_32 : decode cX7_shareOn 32 = .ok (.iadd, 1) := by decide +kernel
theorem dX7_shareOn_33 : decode cX7_shareOn 33 = .ok (.idiv, 1) := by decide +kernel
theorem dX7_shareOn_34 : decode cX7_shareOn 34 = .ok (.if_icmp .ge 9, 3) := by decide +kernel
theorem dX7_shareOn_37 : decode cX7_shareOn 37 = .ok (.iinc 3 1, 3) := by decide +kernel
theorem dX7_shareOn_40 : decode cX7_shareOn 40 = .ok (.goto (-27), 3) := by decide +kernel
theorem dX7_shareOn_43 : decode cX7_shareOn 43 = .ok (.aload_n 0, 1) := by decide +kernel
theorem dX7_shareOn_44 : decode cX7_shareOn 44 = .ok (.iload_n 3, 1) := by decide +kernel
theorem dX7_shareOn_45 : decode cX7_shareOn 45 = .ok (.invokestatic 164, 3) := by decide +kernel
theorem dX7_shareOn_48 : decode cX7_shareOn 48 = .ok (.ifCond .ne 10, 3) := by decide +kernel
theorem dX7_shareOn_51 : decode cX7_shareOn 51 = .ok (.aload_n 0, 1) := by decide +kernel
theorem dX7_shareOn_52 : decode cX7_shareOn 52 = .ok (.iload_n 3, 1) := by decide +kernel
theorem dX7_shareOn_53 : decode cX7_shareOn 53 = .ok (.iconst 1, 1) := by decide +kernel
theorem dX7_shareOn_54 : decode cX7_shareOn 54 = .ok (.invokestatic 170, 3) := by decide +kernel
theorem dX7_shareOn_57 : decode cX7_shareOn 57 = .ok (.pop, 1) := by decide +kernel
theorem dX7_shareOn_58 : decode cX7_shareOn 58 = .ok (.iinc 2 1, 3) := by decide +kernel
theorem dX7_shareOn_61 : decode cX7_shareOn 61 = .ok (.goto (-55), 3) := by decide +kernel
theorem dX7_shareOn_64 : decode cX7_shareOn 64 = .ok (.aload_n 0, 1) := by decide +kernel
theorem dX7_shareOn_65 : decode cX7_shareOn 65 = .ok (.iconst 2, 1) := by decide +kernel
theorem dX7_shareOn_66 : decode cX7_shareOn 66 = .ok (.iaload, 1) := by decide +kernel
theorem dX7_shareOn_67 : decode cX7_shareOn 67 = .ok (.ireturn, 1) := by decide +kernel
theorem c_shareOn {n m : Int} (hd : dim c r) (hG : ∀ i, 0 ≤ G i ∧ G i ≤ 99) (hT : ∀ i, 0 ≤ T i ∧ T i ≤ 99) (hm : 0 ≤ m ∧ m ≤ 5) : Cd l yX7_shareOn cX7_shareOn 4 (some .int) rmX7_shareOn [.ref 0, iv m] (rwM c r G T n le Hh li) (some (iv (shK G (c * r).toNat m T m.toNat).2)) (rwM c r G (shK G (c * r).toNat m T m.toNat).1 (shK G (c * r).toNat m T m.toNat).2 le Hh li) := by
  refine Ct.of miX7_shareOn (Nat.le_of_ble_eq_true rfl) ?_
  intro X hXl hN ok
  refine AW.cast (L2 := [some (.ref 0), some (iv m), none, none]) ?_ rfl rfl rfl
  have hc := dim_cells hd
  have hC : (((c * r).toNat : Nat) : Int) = c * r := Int.toNat_of_nonneg (by omega)
  have loop : ∀ k : Nat, k ≤ m → AW X 0 0 6 [some (.ref 0), some (iv m), some (iv ((k + 1 : Nat) : Int)), none] [] (rwM c r G (shK G (c * r).toNat m T k).1 (shK G (c * r).toNat m T k).2 le Hh li) := by
    refine wfl (fun k : Nat => (m - k).toNat) _ _ ?_
    intro k hk ih
    obtain ⟨q1, q2, q3⟩ := shK_ok G (c * r).toNat m hT k
    have hm1 : 0 ≤ c * r * ((k + 1 : Nat) : Int) ∧ c * r * ((k + 1 : Nat) : Int) ≤ 144 * ((k + 1 : Nat) : Int) := ⟨Int.mul_nonneg (by omega) (by omega), Int.mul_le_mul_of_nonneg_right (by omega) (by omega)⟩
    have hw : 0 ≤ c * r * ((k + 1 : Nat) : Int) / (m + 1) ∧ c * r * ((k + 1 : Nat) : Int) / (m + 1) ≤ c * r * ((k + 1 : Nat) : Int) := ⟨Int.ediv_nonneg hm1.1 (by omega), Int.ediv_le_self _ hm1.1⟩
    have hls := lsUp_rg G (c * r).toNat (c * r * ((k + 1 : Nat) : Int) / (m + 1)) 98 1
    have e1 : hasT (shK G (c * r).toNat m T k).1 (shK G (c * r).toNat m T k).2 (lsUp G (c * r).toNat (c * r * ((k + 1 : Nat) : Int) / (m + 1)) 98 1) = true → shK G (c * r).toNat m T (k + 1) = shK G (c * r).toNat m T k := fun h => by simp only [shK]; rw [hC, if_pos h]
    have e0 : hasT (shK G (c * r).toNat m T k).1 (shK G (c * r).toNat m T k).2 (lsUp G (c * r).toNat (c * r * ((k + 1 : Nat) : Int) / (m + 1)) 98 1) = false → shK G (c * r).toNat m T (k + 1) = (chT (shK G (c * r).toNat m T k).1 (shK G (c * r).toNat m T k).2 (lsUp G (c * r).toNat (c * r * ((k + 1 : Nat) : Int) / (m + 1)) 98 1) 1, chN (shK G (c * r).toNat m T k).2 1) := fun h => by simp only [shK, chT, chN]; rw [hC, if_neg (by rw [h]; decide)]; rfl
    have nx : ∀ A : (Int → Int) × Nat, A = shK G (c * r).toNat m T (k + 1) → (k + 1 : Nat) ≤ m → ∀ q : Value, AW X 0 0 58 [some (.ref 0), some (iv m), some (iv ((k + 1 : Nat) : Int)), some q] [] (rwM c r G A.1 A.2 le Hh li) := by
      intro A hA hk1 q
      subst hA
      refine a_iinc (pc := 58) ok dX7_shareOn_58 rfl rfl (by rw [hN]; decide) ?_
      refine a_goto (pc := 61) (tgt := 6) ok dX7_shareOn_61 (by decide) ?_
      exact AW.forget (ih (k + 1) hk1 (by omega)) (by repeat' (first | exact trivial | refine ⟨rfl, ?_⟩))
    have fin : (k + 1 : Nat) ≤ m → AW X 0 0 43 [some (.ref 0), some (iv m), some (iv ((k + 1 : Nat) : Int)), some (iv (lsUp G (c * r).toNat (c * r * ((k + 1 : Nat) : Int) / (m + 1)) 98 1))] [] (rwM c r G (shK G (c * r).toNat m T k).1 (shK G (c * r).toNat m T k).2 le Hh li) := by
      intro hk1
      refine a_aload_n (pc := 43) ok dX7_shareOn_43 rfl ?_
      refine a_iload_n (pc := 44) ok dX7_shareOn_44 rfl ?_
      refine a_callSp (pc := 45) ok [0] dX7_shareOn_45 mv7_164 miX7_isThere (c_isThere (by omega) q3 q2 (by unfold rg; omega)) ⟨by decide, by decide, rfl, rfl, Nat.zero_le _, Nat.zero_le _⟩ rfl rfl (Nat.le_of_ble_eq_true rfl) rfl (by decide) ?_
      refine a_if_ne (pc := 48) (tgt := 58) ok dX7_shareOn_48 (by decide) (by first | omega | (unfold rg; omega) | (simp only [rg] at *; omega) | exact bz_rg _ | grind [rg]) (fun c48 => ?_) (fun c48 => ?_)
      · first | exact nx _ (e1 (by rw [bz_0] at c48; simpa using c48)).symm hk1 _ | exact nx (chT (shK G (c * r).toNat m T k).1 (shK G (c * r).toNat m T k).2 (lsUp G (c * r).toNat (c * r * ((k + 1 : Nat) : Int) / (m + 1)) 98 1) 1, chN (shK G (c * r).toNat m T k).2 1) (e0 (by rw [bz_0] at c48; simpa using c48)).symm hk1 _
      · refine a_aload_n (pc := 51) ok dX7_shareOn_51 rfl ?_
        refine a_iload_n (pc := 52) ok dX7_shareOn_52 rfl ?_
        refine a_iconst (pc := 53) ok dX7_shareOn_53 ?_
        refine a_callSi (pc := 54) ok [0] dX7_shareOn_54 mv7_170 miX7_partOn (c_partOn (by omega) q3 q2 (by unfold rg; omega) (by unfold rg; omega) (by unfold canT; rw [if_neg (by omega)]; rw [bz_0, Bool.not_eq_true] at c48; rw [c48]; simp; omega)) ⟨by decide, by decide, rfl, rfl, Nat.zero_le _, Nat.zero_le _⟩ rfl rfl (Nat.le_of_ble_eq_true rfl) rfl (by decide) rfl ?_
        refine a_pop (pc := 57) ok dX7_shareOn_57 rfl ?_
        first | exact nx _ (e1 (by rw [bz_0] at c48; simpa using c48)).symm hk1 _ | exact nx (chT (shK G (c * r).toNat m T k).1 (shK G (c * r).toNat m T k).2 (lsUp G (c * r).toNat (c * r * ((k + 1 : Nat) : Int) / (m + 1)) 98 1) 1, chN (shK G (c * r).toNat m T k).2 1) (e0 (by rw [bz_0] at c48; simpa using c48)).symm hk1 _
    have inner : ∀ v : Int, (1 ≤ v ∧ v ≤ 99 ∧ lsUp G (c * r).toNat (c * r * ((k + 1 : Nat) : Int) / (m + 1)) 98 1 = lsUp G (c * r).toNat (c * r * ((k + 1 : Nat) : Int) / (m + 1)) (99 - v).toNat v ∧ (k + 1 : Nat) ≤ m) → AW X 0 0 13 [some (.ref 0), some (iv m), some (iv ((k + 1 : Nat) : Int)), some (iv v)] [] (rwM c r G (shK G (c * r).toNat m T k).1 (shK G (c * r).toNat m T k).2 le Hh li) := by
      refine wfl (fun v : Int => (99 - v).toNat) _ _ ?_
      rintro v ⟨h1, h2, h3, hk1⟩ ih2
      have hb : rg (belowK G (c * r).toNat v) := by have := cntK_rg (fun k => decide (G k < v)) (c * r).toNat; unfold belowK; unfold rg; omega
      have hs : v < 99 → lsUp G (c * r).toNat (c * r * ((k + 1 : Nat) : Int) / (m + 1)) (99 - v).toNat v = if c * r * ((k + 1 : Nat) : Int) / (m + 1) ≤ belowK G (c * r).toNat v then v else lsUp G (c * r).toNat (c * r * ((k + 1 : Nat) : Int) / (m + 1)) (99 - (v + 1)).toNat (v + 1) := fun h => by
        rw [show (99 - v).toNat = (99 - (v + 1)).toNat + 1 by omega]; rfl
      have he : v = 99 ∨ (v < 99 ∧ c * r * ((k + 1 : Nat) : Int) / (m + 1) ≤ belowK G (c * r).toNat v) → v = lsUp G (c * r).toNat (c * r * ((k + 1 : Nat) : Int) / (m + 1)) 98 1 := fun h => by
        rcases h with h | h
        · rw [h3, show (99 - v).toNat = 0 by omega]; rfl
        · rw [h3, hs h.1, if_pos h.2]
      refine a_iload_n (pc := 13) ok dX7_shareOn_13 rfl ?_
      refine a_bipush (pc := 14) ok dX7_shareOn_14 (by decide) ?_
      refine a_icmp_ge (pc := 16) (tgt := 43) ok dX7_shareOn_16 (by decide) (by first | omega | (unfold rg; omega) | (simp only [rg] at *; omega) | exact bz_rg _ | grind [rg]) (by first | omega | (unfold rg; omega) | (simp only [rg] at *; omega) | exact bz_rg _ | grind [rg]) (fun c16 => ?_) (fun c16 => ?_)
      · exact AW.cast (fin hk1) (by rw [← he (by omega)]) rfl rfl
      · refine a_aload_n (pc := 19) ok dX7_shareOn_19 rfl ?_
        refine a_iload_n (pc := 20) ok dX7_shareOn_20 rfl ?_
        refine a_callSp (pc := 21) ok [0] dX7_shareOn_21 mv7_167 miX7_below (c_below hd hG (by unfold rg; omega)) ⟨by decide, by decide, rfl, rfl, Nat.zero_le _, Nat.zero_le _⟩ rfl rfl (Nat.le_of_ble_eq_true rfl) rfl (by decide) ?_
        refine a_aload_n (pc := 24) ok dX7_shareOn_24 rfl ?_
        refine a_callSp (pc := 25) ok [0] dX7_shareOn_25 mv7_74 miX7_cells (c_cells) ⟨by decide, by decide, rfl, rfl, Nat.zero_le _, Nat.zero_le _⟩ rfl rfl (Nat.le_of_ble_eq_true rfl) rfl (by decide) ?_
        refine a_iload_n (pc := 28) ok dX7_shareOn_28 rfl ?_
        refine a_imul (pc := 29) ok dX7_shareOn_29 ?_
        refine a_iload_n (pc := 30) ok dX7_shareOn_30 rfl ?_
        refine a_iconst (pc := 31) ok dX7_shareOn_31 ?_
        refine a_iadd (pc := 32) ok dX7_shareOn_32 ?_
        refine a_idiv (pc := 33) ok dX7_shareOn_33 (by first | omega | (unfold rg; omega) | (simp only [rg] at *; omega) | exact bz_rg _ | grind [rg]) (by first | omega | (unfold rg; omega) | (simp only [rg] at *; omega) | exact bz_rg _ | grind [rg]) ?_
        refine a_icmp_ge (pc := 34) (tgt := 43) ok dX7_shareOn_34 (by decide) (by first | omega | (unfold rg; omega) | (simp only [rg] at *; omega) | exact bz_rg _ | grind [rg]) (by first | omega | (unfold rg; omega) | (simp only [rg] at *; omega) | exact bz_rg _ | grind [rg]) (fun c34 => ?_) (fun c34 => ?_)
        · exact AW.cast (fin hk1) (by rw [← he (by omega)]) rfl rfl
        · refine a_iinc (pc := 37) ok dX7_shareOn_37 rfl rfl (by rw [hN]; decide) ?_
          refine a_goto (pc := 40) (tgt := 13) ok dX7_shareOn_40 (by decide) ?_
          exact ih2 (v + 1) ⟨by omega, by omega, by rw [h3, hs (by omega), if_neg (by omega)], hk1⟩ (by omega)
    refine a_iload_n (pc := 6) ok dX7_shareOn_6 rfl ?_
    refine a_iload_n (pc := 7) ok dX7_shareOn_7 rfl ?_
    refine a_icmp_gt (pc := 8) (tgt := 64) ok dX7_shareOn_8 (by decide) (by first | omega | (unfold rg; omega) | (simp only [rg] at *; omega) | exact bz_rg _ | grind [rg]) (by first | omega | (unfold rg; omega) | (simp only [rg] at *; omega) | exact bz_rg _ | grind [rg]) (fun c8 => ?_) (fun c8 => ?_)
    · refine a_aload_n (pc := 64) ok dX7_shareOn_64 rfl ?_
      refine a_iconst (pc := 65) ok dX7_shareOn_65 ?_
      refine a_rldN (pc := 66) ok dX7_shareOn_66 rfl ?_
      exact a_iret (pc := 67) ok dX7_shareOn_67 (by rw [show m.toNat = k by omega]; exact ⟨rfl, rfl⟩)
    · refine a_iconst (pc := 11) ok dX7_shareOn_11 ?_
      refine a_istore_n (pc := 12) ok dX7_shareOn_12 rfl (by rw [hN]; decide) ?_
      exact inner 1 ⟨by omega, by omega, rfl, by omega⟩
  refine a_aload_n (pc := 0) ok dX7_shareOn_0 rfl ?_
  refine a_iconst (pc := 1) ok dX7_shareOn_1 ?_
  refine a_iconst (pc := 2) ok dX7_shareOn_2 ?_
  refine a_rstN (pc := 3) ok dX7_shareOn_3 rfl ?_
  refine a_iconst (pc := 4) ok dX7_shareOn_4 ?_
  refine a_istore_n (pc := 5) ok dX7_shareOn_5 rfl (by rw [hN]; decide) ?_
  exact loop 0 (by omega)
theorem dX7_invertOn_0 : decode cX7_invertOn 0 = .ok (.iconst 0, 1) := by decide +kernel
theorem dX7_invertOn_1 : decode cX7_invertOn 1 = .ok (.istore_n 1, 1) := by decide +kernel
theorem dX7_invertOn_2 : decode cX7_invertOn 2 = .ok (.iload_n 1, 1) := by decide +kernel
theorem dX7_invertOn_3 : decode cX7_invertOn 3 = .ok (.aload_n 0, 1) := by decide +kernel
theorem dX7_invertOn_4 : decode cX7_invertOn 4 = .ok (.invokestatic 74, 3) := by decide +kernel
theorem dX7_invertOn_7 : decode cX7_invertOn 7 = .ok (.if_icmp .ge 24, 3) := by decide +kernel
theorem dX7_invertOn_10 : decode cX7_invertOn 10 = .ok (.aload_n 0, 1) := by decide +kernel
theorem dX7_invertOn_11 : decode cX7_invertOn 11 = .ok (.bipush 16, 2) := by decide +kernel
theorem dX7_invertOn_13 : decode cX7_invertOn 13 = .ok (.iload_n 1, 1) := by decide +kernel
theorem dX7_invertOn_14 : decode cX7_invertOn 14 = .ok (.iadd, 1) := by decide +kernel
theorem dX7_invertOn_15 : decode cX7_invertOn 15 = .ok (.bipush 99, 2) := by decide +kernel
theorem dX7_invertOn_17 : decode cX7_invertOn 17 = .ok (.aload_n 0, 1) := by decide +kernel
theorem dX7_invertOn_18 : decode cX7_invertOn 18 = .ok (.bipush 16, 2) := by decide +kernel
theorem dX7_invertOn_20 : decode cX7_invertOn 20 = .ok (.iload_n 1, 1) := by decide +kernel
theorem dX7_invertOn_21 : decode cX7_invertOn 21 = .ok (.iadd, 1) := by decide +kernel
theorem dX7_invertOn_22 : decode cX7_invertOn 22 = .ok (.iaload, 1) := by decide +kernel
theorem dX7_invertOn_23 : decode cX7_invertOn 23 = .ok (.isub, 1) := by decide +kernel
theorem dX7_invertOn_24 : decode cX7_invertOn 24 = .ok (.iastore, 1) := by decide +kernel
theorem dX7_invertOn_25 : decode cX7_invertOn 25 = .ok (.iinc 1 1, 3) := by decide +kernel
theorem dX7_invertOn_28 : decode cX7_invertOn 28 = .ok (.goto (-26), 3) := by decide +kernel
theorem dX7_invertOn_31 : decode cX7_invertOn 31 = .ok (.aload_n 0, 1) := by decide +kernel
theorem dX7_invertOn_32 : decode cX7_invertOn 32 = .ok (.invokestatic 177, 3) := by decide +kernel
theorem dX7_invertOn_35 : decode cX7_invertOn 35 = .ok (.ireturn, 1) := by decide +kernel
theorem c_invertOn {n : Int} (hd : dim c r) : Cd l yX7_invertOn cX7_invertOn 2 (some .int) rmX7_invertOn [.ref 0] (rwM c r G T n le Hh li) (some (iv (sumK (mapK (fun j => 99 - G j) (c * r) G) (c * r).toNat))) (rwM c r (mapK (fun j => 99 - G j) (c * r) G) T n le Hh li) := by
  refine Ct.of miX7_invertOn (Nat.le_of_ble_eq_true rfl) ?_
  intro X hXl hN ok
  refine AW.cast (L2 := [some (.ref 0), none]) ?_ rfl rfl rfl
  have hc := dim_cells hd
  have loop : ∀ k : Nat, (k : Int) ≤ c * r → AW X 0 0 2 [some (.ref 0), some (iv k)] [] (rwM c r (mapK (fun j => 99 - G j) k G) T n le Hh li) := by
    refine wfl (fun k : Nat => (c * r).toNat - k) _ _ ?_
    intro k hk ih
    have hat : mapK (fun j => 99 - G j) k G k = G k := mapK_at
    have hup : up (mapK (fun j => 99 - G j) k G) k (99 - G k) = mapK (fun j => 99 - G j) ((k + 1 : Nat) : Int) G := mapK_up (by omega)
    refine a_iload_n (pc := 2) ok dX7_invertOn_2 rfl ?_
    refine a_aload_n (pc := 3) ok dX7_invertOn_3 rfl ?_
    refine a_callSp (pc := 4) ok [0] dX7_invertOn_4 mv7_74 miX7_cells (c_cells) ⟨by decide, by decide, rfl, rfl, Nat.zero_le _, Nat.zero_le _⟩ rfl rfl (Nat.le_of_ble_eq_true rfl) rfl (by decide) ?_
    refine a_icmp_ge (pc := 7) (tgt := 31) ok dX7_invertOn_7 (by decide) (by first | omega | (unfold rg; omega) | (simp only [rg] at *; omega) | exact bz_rg _ | grind [rg]) (by first | omega | (unfold rg; omega) | (simp only [rg] at *; omega) | exact bz_rg _ | grind [rg]) (fun c7 => ?_) (fun c7 => ?_)
    · have e : (k : Int) = c * r := by omega
      rw [e]
      refine a_aload_n (pc := 31) ok dX7_invertOn_31 rfl ?_
      refine a_callSp (pc := 32) ok [0] dX7_invertOn_32 mv7_177 miX7_sum (c_sum hd) ⟨by decide, by decide, rfl, rfl, Nat.zero_le _, Nat.zero_le _⟩ rfl rfl (Nat.le_of_ble_eq_true rfl) rfl (by decide) ?_
      exact a_iret (pc := 35) ok dX7_invertOn_35 (⟨rfl, rfl⟩)
    · refine a_aload_n (pc := 10) ok dX7_invertOn_10 rfl ?_
      refine a_bipush (pc := 11) ok dX7_invertOn_11 (by decide) ?_
      refine a_iload_n (pc := 13) ok dX7_invertOn_13 rfl ?_
      refine a_iadd (pc := 14) ok dX7_invertOn_14 ?_
      refine a_bipush (pc := 15) ok dX7_invertOn_15 (by decide) ?_
      refine a_aload_n (pc := 17) ok dX7_invertOn_17 rfl ?_
      refine a_bipush (pc := 18) ok dX7_invertOn_18 (by decide) ?_
      refine a_iload_n (pc := 20) ok dX7_invertOn_20 rfl ?_
      refine a_iadd (pc := 21) ok dX7_invertOn_21 ?_
      refine a_rldG (pc := 22) ok dX7_invertOn_22 rfl rfl (by first | omega | (unfold rg; omega) | (simp only [rg] at *; omega) | exact bz_rg _ | grind [rg]) ?_
      refine AW.cast (st2 := [iv (G k), iv 99, iv (16 + k), .ref 0]) ?_ rfl (by rw [hat]) rfl
      refine a_isub (pc := 23) ok dX7_invertOn_23 ?_
      refine a_rstG (pc := 24) ok dX7_invertOn_24 rfl rfl (by first | omega | (unfold rg; omega) | (simp only [rg] at *; omega) | exact bz_rg _ | grind [rg]) ?_
      refine a_iinc (pc := 25) ok dX7_invertOn_25 rfl rfl (by rw [hN]; decide) ?_
      refine a_goto (pc := 28) (tgt := 2) ok dX7_invertOn_28 (by decide) ?_
      refine AW.cast (ih (k + 1) (by omega) (by omega)) rfl rfl ?_
      exact congrArg (fun f => rwM c r f T n le Hh li) hup
  refine a_iconst (pc := 0) ok dX7_invertOn_0 ?_
  refine a_istore_n (pc := 1) ok dX7_invertOn_1 rfl (by rw [hN]; decide) ?_
  exact AW.cast (loop 0 (by omega)) rfl rfl (congrArg (fun f => rwM c r f T n le Hh li) mapK_0.symm)
theorem dX7_held_0 : decode cX7_held 0 = .ok (.iload_n 0, 1) := by decide +kernel
theorem dX7_held_1 : decode cX7_held 1 = .ok (.ifCond .ge 7, 3) := by decide +kernel
theorem dX7_held_4 : decode cX7_held 4 = .ok (.iconst 0, 1) := by decide +kernel
theorem dX7_held_5 : decode cX7_held 5 = .ok (.goto 15, 3) := by decide +kernel
theorem dX7_held_8 : decode cX7_held 8 = .ok (.iload_n 0, 1) := by decide +kernel
theorem dX7_held_9 : decode cX7_held 9 = .ok (.bipush 99, 2) := by decide +kernel
theorem dX7_held_11 : decode cX7_held 11 = .ok (.if_icmp .le 8, 3) := by decide +kernel
theorem dX7_held_14 : decode cX7_held 14 = .ok (.bipush 99, 2) := by decide +kernel
theorem dX7_held_16 : decode cX7_held 16 = .ok (.goto 4, 3) := by decide +kernel
theorem dX7_held_19 : decode cX7_held 19 = .ok (.iload_n 0, 1) := by decide +kernel
theorem dX7_held_20 : decode cX7_held 20 = .ok (.ireturn, 1) := by decide +kernel
theorem c_held {v : Int} (hv : rg v) : Cd l yX7_held cX7_held 1 (some .int) rmX7_held [iv v] [] (some (iv (max 0 (min 99 v)))) [] := by
  refine Ct.of miX7_held (Nat.le_of_ble_eq_true rfl) ?_
  intro X hXl hN ok
  refine AW.cast (L2 := [some (iv v)]) ?_ rfl rfl rfl
  refine a_iload_n (pc := 0) ok dX7_held_0 rfl ?_
  refine a_if_ge (pc := 1) (tgt := 8) ok dX7_held_1 (by decide) (by first | omega | (unfold rg; omega) | (simp only [rg] at *; omega) | exact bz_rg _ | grind [rg]) (fun c1 => ?_) (fun c1 => ?_)
  · refine a_iload_n (pc := 8) ok dX7_held_8 rfl ?_
    refine a_bipush (pc := 9) ok dX7_held_9 (by decide) ?_
    refine a_icmp_le (pc := 11) (tgt := 19) ok dX7_held_11 (by decide) (by first | omega | (unfold rg; omega) | (simp only [rg] at *; omega) | exact bz_rg _ | grind [rg]) (by first | omega | (unfold rg; omega) | (simp only [rg] at *; omega) | exact bz_rg _ | grind [rg]) (fun c11 => ?_) (fun c11 => ?_)
    · refine a_iload_n (pc := 19) ok dX7_held_19 rfl ?_
      exact a_iret (pc := 20) ok dX7_held_20 (⟨by congr 3; omega, rfl⟩)
    · refine a_bipush (pc := 14) ok dX7_held_14 (by decide) ?_
      refine a_goto (pc := 16) (tgt := 20) ok dX7_held_16 (by decide) ?_
      exact a_iret (pc := 20) ok dX7_held_20 (⟨by congr 3; omega, rfl⟩)
  · refine a_iconst (pc := 4) ok dX7_held_4 ?_
    refine a_goto (pc := 5) (tgt := 20) ok dX7_held_5 (by decide) ?_
    exact a_iret (pc := 20) ok dX7_held_20 (⟨by congr 3; omega, rfl⟩)
end MD3
