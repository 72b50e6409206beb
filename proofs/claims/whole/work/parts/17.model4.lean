/-! MODEL's state: distances, new plates, copies of rows. -/
section MD4
variable {l : Launch} {c r le li : Int} {G T Hh : Int → Int}
/-- the distance to threshold j -/
def dsj (T : Int → Int) (g j : Int) : Int := if T j ≤ g then g - T j + 1 else T j - g
theorem dstK_min {g : Int} : ∀ k : Nat, 0 < k → (∀ j : Nat, 0 ≤ dsj T g j) → (∀ j : Nat, j < k → dstK T g k ≤ dsj T g j) ∧ (∃ j : Nat, j < k ∧ dstK T g k = dsj T g j)
  | 0, h, _ => by omega
  | k + 1, _, h0 => by
    have hs : dstK T g (k + 1) = if dstK T g k = -1 ∨ dsj T g k < dstK T g k then dsj T g k else dstK T g k := rfl
    rcases Nat.eq_zero_or_pos k with z | z
    · subst z
      have hz : dstK T g (0 + 1) = dsj T g (0 : Nat) := by rw [hs]; exact if_pos (Or.inl rfl)
      rw [hz]
      exact ⟨fun j hj => by rw [show j = 0 by omega]; exact Int.le_refl _, 0, by omega, rfl⟩
    · obtain ⟨h1, j0, h2, h3⟩ := dstK_min k z h0
      have := h0 j0
      rw [hs]
      split
      · rename_i hc
        refine ⟨fun j hj => ?_, k, by omega, rfl⟩
        rcases (show j = k ∨ j < k by omega) with e | e
        · subst e; exact Int.le_refl _
        · have := h1 j e; omega
      · rename_i hc
        refine ⟨fun j hj => ?_, j0, by omega, h3⟩
        rcases (show j = k ∨ j < k by omega) with e | e
        · subst e; omega
        · exact h1 j e
theorem dstK_two {n : Nat} {g : Int} (hT : ∀ i, 0 ≤ T i ∧ T i ≤ 99) (hs : srt T n) (hg : 0 ≤ g ∧ g ≤ 99) (hn : 0 < n) :
    dstK T g n = (if (if bandN T n g < n then T (bandN T n g) - g else 100) < (if 0 < bandN T n g then g - T (bandN T n g - 1) + 1 else 100) then (if bandN T n g < n then T (bandN T n g) - g else 100) else (if 0 < bandN T n g then g - T (bandN T n g - 1) + 1 else 100)) := by
  have h0 : ∀ j : Nat, 0 ≤ dsj T g j ∧ dsj T g j ≤ 100 := fun j => by have := hT j; unfold dsj; split <;> omega
  obtain ⟨h1, j0, h2, h3⟩ := dstK_min (T := T) (g := g) n hn (fun j => (h0 j).1)
  have hr := cntK_rg (fun k => decide (T k ≤ g)) n
  have hb : bandN T n g = cntK (fun k => decide (T k ≤ g)) n := rfl
  rw [← hb] at hr
  have hc := srt_cut (v := g) hs
  rw [← hb] at hc
  have hlo : ∀ j : Nat, (j : Int) < bandN T n g → dsj T g j = g - T j + 1 := fun j h => by unfold dsj; rw [if_pos ((hc j (by omega)).mpr h)]
  have hhi : ∀ j : Nat, bandN T n g ≤ j → j < n → dsj T g j = T j - g := fun j h h' => by unfold dsj; rw [if_neg (fun z => by have := (hc j h').mp z; omega)]
  have up0 : bandN T n g < n → dstK T g n ≤ T (bandN T n g) - g ∧ T (bandN T n g) - g ≤ 99 := fun h => by
    have a := h1 (bandN T n g).toNat (by omega)
    rw [hhi _ (by omega) (by omega), Int.toNat_of_nonneg hr.1] at a
    have := hT (bandN T n g); exact ⟨a, by omega⟩
  have dn0 : 0 < bandN T n g → dstK T g n ≤ g - T (bandN T n g - 1) + 1 ∧ g - T (bandN T n g - 1) + 1 ≤ 100 := fun h => by
    have a := h1 (bandN T n g - 1).toNat (by omega)
    rw [hlo _ (by omega), Int.toNat_of_nonneg (by omega)] at a
    have := hT (bandN T n g - 1); exact ⟨a, by omega⟩
  rcases (show (j0 : Int) < bandN T n g ∨ bandN T n g ≤ j0 by omega) with z | z
  · have e1 := hlo j0 z
    have e2 : (j0 : Int) ≠ bandN T n g - 1 → T j0 < T (bandN T n g - 1) := fun h => hs j0 (bandN T n g - 1) (by omega) (by omega) (by omega)
    have d := dn0 (by omega)
    have e3 : dstK T g n = g - T (bandN T n g - 1) + 1 := by
      by_cases e : (j0 : Int) = bandN T n g - 1
      · rw [h3, e1, e]
      · have := e2 e; omega
    rw [if_pos (show 0 < bandN T n g by omega)]
    by_cases hu : bandN T n g < n
    · rw [if_pos hu]; have := up0 hu
      split <;> omega
    · rw [if_neg hu, if_neg (by omega)]; exact e3
  · have e1 := hhi j0 z h2
    have u := up0 (by omega)
    have e2 : (j0 : Int) ≠ bandN T n g → T (bandN T n g) < T j0 := fun h => hs (bandN T n g) j0 hr.1 (by omega) (by omega)
    have e3 : dstK T g n = T (bandN T n g) - g := by
      by_cases e : (j0 : Int) = bandN T n g
      · rw [h3, e1, e]
      · have := e2 e; omega
    rw [if_pos (show bandN T n g < n by omega)]
    by_cases hd : 0 < bandN T n g
    · rw [if_pos hd]; have := dn0 hd
      split <;> omega
    · rw [if_neg hd, if_pos (by omega)]; exact e3
theorem dX7_toOther_0 : decode cX7_toOther 0 = .ok (.aload_n 0, 1) := by decide +kernel
theorem dX7_toOther_1 : decode cX7_toOther 1 = .ok (.iload_n 1, 1) := by decide +kernel
theorem dX7_toOther_2 : decode cX7_toOther 2 = .ok (.invokestatic 89, 3) := by decide +kernel
theorem dX7_toOther_5 : decode cX7_toOther 5 = .ok (.istore_n 2, 1) := by decide +kernel
theorem dX7_toOther_6 : decode cX7_toOther 6 = .ok (.iload_n 2, 1) := by decide +kernel
theorem dX7_toOther_7 : decode cX7_toOther 7 = .ok (.aload_n 0, 1) := by decide +kernel
theorem dX7_toOther_8 : decode cX7_toOther 8 = .ok (.iconst 2, 1) := by decide +kernel
theorem dX7_toOther_9 : decode cX7_toOther 9 = .ok (.iaload, 1) := by decide +kernel
theorem dX7_toOther_10 : decode cX7_toOther 10 = .ok (.if_icmp .ge 13, 3) := by decide +kernel
theorem dX7_toOther_13 : decode cX7_toOther 13 = .ok (.aload_n 0, 1) := by decide +kernel
theorem dX7_toOther_14 : decode cX7_toOther 14 = .ok (.iconst 3, 1) := by decide +kernel
theorem dX7_toOther_15 : decode cX7_toOther 15 = .ok (.iload_n 2, 1) := by decide +kernel
theorem dX7_toOther_16 : decode cX7_toOther 16 = .ok (.iadd, 1) := by decide +kernel
theorem dX7_toOther_17 : decode cX7_toOther 17 = .ok (.iaload, 1) := by decide +kernel
theorem dX7_toOther_18 : decode cX7_toOther 18 = .ok (.iload_n 1, 1) := by decide +kernel
theorem dX7_toOther_19 : decode cX7_toOther 19 = .ok (.isub, 1) := by decide +kernel
theorem dX7_toOther_20 : decode cX7_toOther 20 = .ok (.goto 5, 3) := by decide +kernel
theorem dX7_toOther_23 : decode cX7_toOther 23 = .ok (.bipush 100, 2) := by decide +kernel
theorem dX7_toOther_25 : decode cX7_toOther 25 = .ok (.istore_n 3, 1) := by decide +kernel
theorem dX7_toOther_26 : decode cX7_toOther 26 = .ok (.iload_n 2, 1) := by decide +kernel
theorem dX7_toOther_27 : decode cX7_toOther 27 = .ok (.ifCond .le 17, 3) := by decide +kernel
theorem dX7_toOther_30 : decode cX7_toOther 30 = .ok (.iload_n 1, 1) := by decide +kernel
theorem dX7_toOther_31 : decode cX7_toOther 31 = .ok (.aload_n 0, 1) := by decide +kernel
theorem dX7_toOther_32 : decode cX7_toOther 32 = .ok (.iconst 3, 1) := by decide +kernel
theorem dX7_toOther_33 : decode cX7_toOther 33 = .ok (.iload_n 2, 1) := by decide +kernel
theorem dX7_toOther_34 : decode cX7_toOther 34 = .ok (.iadd, 1) := by decide +kernel
theorem dX7_toOther_35 : decode cX7_toOther 35 = .ok (.iconst 1, 1) := by decide +kernel
theorem dX7_toOther_36 : decode cX7_toOther 36 = .ok (.isub, 1) := by decide +kernel
theorem dX7_toOther_37 : decode cX7_toOther 37 = .ok (.iaload, 1) := by decide +kernel
theorem dX7_toOther_38 : decode cX7_toOther 38 = .ok (.isub, 1) := by decide +kernel
theorem dX7_toOther_39 : decode cX7_toOther 39 = .ok (.iconst 1, 1) := by decide +kernel
theorem dX7_toOther_40 : decode cX7_toOther 40 = .ok (.iadd, 1) := by decide +kernel
theorem dX7_toOther_41 : decode cX7_toOther 41 = .ok (.goto 5, 3) := by decide +kernel
theorem dX7_toOther_44 : decode cX7_toOther 44 = .ok (.bipush 100, 2) := by decide +kernel
theorem dX7_toOther_46 : decode cX7_toOther 46 = .ok (.istore 4, 2) := by decide +kernel
theorem dX7_toOther_48 : decode cX7_toOther 48 = .ok (.aload_n 0, 1) := by decide +kernel
theorem dX7_toOther_49 : decode cX7_toOther 49 = .ok (.iconst 2, 1) := by decide +kernel
theorem dX7_toOther_50 : decode cX7_toOther 50 = .ok (.iaload, 1) := by decide +kernel
theorem dX7_toOther_51 : decode cX7_toOther 51 = .ok (.ifCond .ne 7, 3) := by decide +kernel
theorem dX7_toOther_54 : decode cX7_toOther 54 = .ok (.iconst (-1), 1) := by decide +kernel
theorem dX7_toOther_55 : decode cX7_toOther 55 = .ok (.goto 15, 3) := by decide +kernel
theorem dX7_toOther_58 : decode cX7_toOther 58 = .ok (.iload_n 3, 1) := by decide +kernel
theorem dX7_toOther_59 : decode cX7_toOther 59 = .ok (.iload 4, 2) := by decide +kernel
theorem dX7_toOther_61 : decode cX7_toOther 61 = .ok (.if_icmp .ge 7, 3) := by decide +kernel
theorem dX7_toOther_64 : decode cX7_toOther 64 = .ok (.iload_n 3, 1) := by decide +kernel
theorem dX7_toOther_65 : decode cX7_toOther 65 = .ok (.goto 5, 3) := by decide +kernel
theorem dX7_toOther_68 : decode cX7_toOther 68 = .ok (.iload 4, 2) := by decide +kernel
theorem dX7_toOther_70 : decode cX7_toOther 70 = .ok (.ireturn, 1) := by decide +kernel
theorem c_toOther {n : Nat} {g : Int} (hn : n ≤ 5) (hT : ∀ i, 0 ≤ T i ∧ T i ≤ 99) (hs : srt T n) (hg : 0 ≤ g ∧ g ≤ 99) : Cd l yX7_toOther cX7_toOther 5 (some .int) rmX7_toOther [.ref 0, iv g] (rwM c r G T n le Hh li) (some (iv (dstK T g n))) (rwM c r G T n le Hh li) := by
  refine Ct.of miX7_toOther (Nat.le_of_ble_eq_true rfl) ?_
  intro X hXl hN ok
  refine AW.cast (L2 := [some (.ref 0), some (iv g), none, none, none]) ?_ rfl rfl rfl
  have hr := cntK_rg (fun k => decide (T k ≤ g)) n
  have hb : bandN T n g = cntK (fun k => decide (T k ≤ g)) n := rfl
  rw [← hb] at hr
  have h2 := fun h => dstK_two (T := T) (n := n) (g := g) hT hs hg h
  have t1 := hT (bandN T n g)
  have t2 := hT (bandN T n g - 1)
  obtain ⟨U, hU⟩ : ∃ U, U = if bandN T n g < n then T (bandN T n g) - g else 100 := ⟨_, rfl⟩
  obtain ⟨D, hD⟩ : ∃ D, D = if 0 < bandN T n g then g - T (bandN T n g - 1) + 1 else 100 := ⟨_, rfl⟩
  rw [← hU, ← hD] at h2
  have hu : rg U := by rw [hU]; unfold rg; split <;> omega
  have hv : rg D := by rw [hD]; unfold rg; split <;> omega
  refine a_aload_n (pc := 0) ok dX7_toOther_0 rfl ?_
  refine a_iload_n (pc := 1) ok dX7_toOther_1 rfl ?_
  refine a_callSp (pc := 2) ok [0] dX7_toOther_2 mv7_89 miX7_bandOf (c_bandOf hn hT hs (by unfold rg; omega)) ⟨by decide, by decide, rfl, rfl, Nat.zero_le _, Nat.zero_le _⟩ rfl rfl (Nat.le_of_ble_eq_true rfl) rfl (by decide) ?_
  refine a_istore_n (pc := 5) ok dX7_toOther_5 rfl (by rw [hN]; decide) ?_
  refine a_iload_n (pc := 6) ok dX7_toOther_6 rfl ?_
  refine a_aload_n (pc := 7) ok dX7_toOther_7 rfl ?_
  refine a_iconst (pc := 8) ok dX7_toOther_8 ?_
  refine a_rldN (pc := 9) ok dX7_toOther_9 rfl ?_
  refine a_icmp_ge (pc := 10) (tgt := 23) ok dX7_toOther_10 (by decide) (by first | omega | (unfold rg; omega) | (simp only [rg] at *; omega) | exact bz_rg _ | grind [rg]) (by first | omega | (unfold rg; omega) | (simp only [rg] at *; omega) | exact bz_rg _ | grind [rg]) (fun c10 => ?_) (fun c10 => ?_)
  · refine a_bipush (pc := 23) ok dX7_toOther_23 (by decide) ?_
    refine AW.cast (st2 := [iv U]) ?_ rfl (by rw [hU]; first | (rw [if_pos (by omega)] <;> rfl) | (rw [if_neg (by omega)] <;> rfl)) rfl
    refine a_istore_n (pc := 25) ok dX7_toOther_25 rfl (by rw [hN]; decide) ?_
    refine a_iload_n (pc := 26) ok dX7_toOther_26 rfl ?_
    refine a_if_le (pc := 27) (tgt := 44) ok dX7_toOther_27 (by decide) (by first | omega | (unfold rg; omega) | (simp only [rg] at *; omega) | exact bz_rg _ | grind [rg]) (fun c27 => ?_) (fun c27 => ?_)
    · refine a_bipush (pc := 44) ok dX7_toOther_44 (by decide) ?_
      refine AW.cast (st2 := [iv D]) ?_ rfl (by rw [hD]; first | (rw [if_pos (by omega)] <;> rfl) | (rw [if_neg (by omega)] <;> rfl)) rfl
      refine a_istore (pc := 46) ok dX7_toOther_46 rfl (by rw [hN]; decide) ?_
      refine a_aload_n (pc := 48) ok dX7_toOther_48 rfl ?_
      refine a_iconst (pc := 49) ok dX7_toOther_49 ?_
      refine a_rldN (pc := 50) ok dX7_toOther_50 rfl ?_
      refine a_if_ne (pc := 51) (tgt := 58) ok dX7_toOther_51 (by decide) (by first | omega | (unfold rg; omega) | (simp only [rg] at *; omega) | exact bz_rg _ | grind [rg]) (fun c51 => ?_) (fun c51 => ?_)
      · refine a_iload_n (pc := 58) ok dX7_toOther_58 rfl ?_
        refine a_iload (pc := 59) ok dX7_toOther_59 rfl ?_
        refine a_icmp_ge (pc := 61) (tgt := 68) ok dX7_toOther_61 (by decide) (by assumption) (by assumption) (fun c61 => ?_) (fun c61 => ?_)
        · refine a_iload (pc := 68) ok dX7_toOther_68 rfl ?_
          exact a_iret (pc := 70) ok dX7_toOther_70 (⟨by first | (have e0 : n = 0 := (by omega); subst e0; rfl) | (rw [h2 (by omega)]; clear hU hD; split <;> first | rfl | (exfalso; omega)), rfl⟩)
        · refine a_iload_n (pc := 64) ok dX7_toOther_64 rfl ?_
          refine a_goto (pc := 65) (tgt := 70) ok dX7_toOther_65 (by decide) ?_
          exact a_iret (pc := 70) ok dX7_toOther_70 (⟨by first | (have e0 : n = 0 := (by omega); subst e0; rfl) | (rw [h2 (by omega)]; clear hU hD; split <;> first | rfl | (exfalso; omega)), rfl⟩)
      · refine a_iconst (pc := 54) ok dX7_toOther_54 ?_
        refine a_goto (pc := 55) (tgt := 70) ok dX7_toOther_55 (by decide) ?_
        exact a_iret (pc := 70) ok dX7_toOther_70 (⟨by first | (have e0 : n = 0 := (by omega); subst e0; rfl) | (rw [h2 (by omega)]; clear hU hD; split <;> first | rfl | (exfalso; omega)), rfl⟩)
    · refine a_iload_n (pc := 30) ok dX7_toOther_30 rfl ?_
      refine a_aload_n (pc := 31) ok dX7_toOther_31 rfl ?_
      refine a_iconst (pc := 32) ok dX7_toOther_32 ?_
      refine a_iload_n (pc := 33) ok dX7_toOther_33 rfl ?_
      refine a_iadd (pc := 34) ok dX7_toOther_34 ?_
      refine a_iconst (pc := 35) ok dX7_toOther_35 ?_
      refine a_isub (pc := 36) ok dX7_toOther_36 ?_
      refine a_rldT (pc := 37) (b := bandN T n g - 1) ok dX7_toOther_37 rfl (by omega) (by first | omega | (unfold rg; omega) | (simp only [rg] at *; omega) | exact bz_rg _ | grind [rg]) ?_
      refine a_isub (pc := 38) ok dX7_toOther_38 ?_
      refine a_iconst (pc := 39) ok dX7_toOther_39 ?_
      refine a_iadd (pc := 40) ok dX7_toOther_40 ?_
      refine a_goto (pc := 41) (tgt := 46) ok dX7_toOther_41 (by decide) ?_
      refine AW.cast (st2 := [iv D]) ?_ rfl (by rw [hD]; first | (rw [if_pos (by omega)] <;> rfl) | (rw [if_neg (by omega)] <;> rfl)) rfl
      refine a_istore (pc := 46) ok dX7_toOther_46 rfl (by rw [hN]; decide) ?_
      refine a_aload_n (pc := 48) ok dX7_toOther_48 rfl ?_
      refine a_iconst (pc := 49) ok dX7_toOther_49 ?_
      refine a_rldN (pc := 50) ok dX7_toOther_50 rfl ?_
      refine a_if_ne (pc := 51) (tgt := 58) ok dX7_toOther_51 (by decide) (by first | omega | (unfold rg; omega) | (simp only [rg] at *; omega) | exact bz_rg _ | grind [rg]) (fun c51 => ?_) (fun c51 => ?_)
      · refine a_iload_n (pc := 58) ok dX7_toOther_58 rfl ?_
        refine a_iload (pc := 59) ok dX7_toOther_59 rfl ?_
        refine a_icmp_ge (pc := 61) (tgt := 68) ok dX7_toOther_61 (by decide) (by assumption) (by assumption) (fun c61 => ?_) (fun c61 => ?_)
        · refine a_iload (pc := 68) ok dX7_toOther_68 rfl ?_
          exact a_iret (pc := 70) ok dX7_toOther_70 (⟨by first | (have e0 : n = 0 := (by omega); subst e0; rfl) | (rw [h2 (by omega)]; clear hU hD; split <;> first | rfl | (exfalso; omega)), rfl⟩)
        · refine a_iload_n (pc := 64) ok dX7_toOther_64 rfl ?_
          refine a_goto (pc := 65) (tgt := 70) ok dX7_toOther_65 (by decide) ?_
          exact a_iret (pc := 70) ok dX7_toOther_70 (⟨by first | (have e0 : n = 0 := (by omega); subst e0; rfl) | (rw [h2 (by omega)]; clear hU hD; split <;> first | rfl | (exfalso; omega)), rfl⟩)
      · refine a_iconst (pc := 54) ok dX7_toOther_54 ?_
        refine a_goto (pc := 55) (tgt := 70) ok dX7_toOther_55 (by decide) ?_
        exact a_iret (pc := 70) ok dX7_toOther_70 (⟨by first | (have e0 : n = 0 := (by omega); subst e0; rfl) | (rw [h2 (by omega)]; clear hU hD; split <;> first | rfl | (exfalso; omega)), rfl⟩)
  · refine a_aload_n (pc := 13) ok dX7_toOther_13 rfl ?_
    refine a_iconst (pc := 14) ok dX7_toOther_14 ?_
    refine a_iload_n (pc := 15) ok dX7_toOther_15 rfl ?_
    refine a_iadd (pc := 16) ok dX7_toOther_16 ?_
    refine a_rldT (pc := 17) ok dX7_toOther_17 rfl rfl (by first | omega | (unfold rg; omega) | (simp only [rg] at *; omega) | exact bz_rg _ | grind [rg]) ?_
    refine a_iload_n (pc := 18) ok dX7_toOther_18 rfl ?_
    refine a_isub (pc := 19) ok dX7_toOther_19 ?_
    refine a_goto (pc := 20) (tgt := 25) ok dX7_toOther_20 (by decide) ?_
    refine AW.cast (st2 := [iv U]) ?_ rfl (by rw [hU]; first | (rw [if_pos (by omega)] <;> rfl) | (rw [if_neg (by omega)] <;> rfl)) rfl
    refine a_istore_n (pc := 25) ok dX7_toOther_25 rfl (by rw [hN]; decide) ?_
    refine a_iload_n (pc := 26) ok dX7_toOther_26 rfl ?_
    refine a_if_le (pc := 27) (tgt := 44) ok dX7_toOther_27 (by decide) (by first | omega | (unfold rg; omega) | (simp only [rg] at *; omega) | exact bz_rg _ | grind [rg]) (fun c27 => ?_) (fun c27 => ?_)
    · refine a_bipush (pc := 44) ok dX7_toOther_44 (by decide) ?_
      refine AW.cast (st2 := [iv D]) ?_ rfl (by rw [hD]; first | (rw [if_pos (by omega)] <;> rfl) | (rw [if_neg (by omega)] <;> rfl)) rfl
      refine a_istore (pc := 46) ok dX7_toOther_46 rfl (by rw [hN]; decide) ?_
      refine a_aload_n (pc := 48) ok dX7_toOther_48 rfl ?_
      refine a_iconst (pc := 49) ok dX7_toOther_49 ?_
      refine a_rldN (pc := 50) ok dX7_toOther_50 rfl ?_
      refine a_if_ne (pc := 51) (tgt := 58) ok dX7_toOther_51 (by decide) (by first | omega | (unfold rg; omega) | (simp only [rg] at *; omega) | exact bz_rg _ | grind [rg]) (fun c51 => ?_) (fun c51 => ?_)
      · refine a_iload_n (pc := 58) ok dX7_toOther_58 rfl ?_
        refine a_iload (pc := 59) ok dX7_toOther_59 rfl ?_
        refine a_icmp_ge (pc := 61) (tgt := 68) ok dX7_toOther_61 (by decide) (by assumption) (by assumption) (fun c61 => ?_) (fun c61 => ?_)
        · refine a_iload (pc := 68) ok dX7_toOther_68 rfl ?_
          exact a_iret (pc := 70) ok dX7_toOther_70 (⟨by first | (have e0 : n = 0 := (by omega); subst e0; rfl) | (rw [h2 (by omega)]; clear hU hD; split <;> first | rfl | (exfalso; omega)), rfl⟩)
        · refine a_iload_n (pc := 64) ok dX7_toOther_64 rfl ?_
          refine a_goto (pc := 65) (tgt := 70) ok dX7_toOther_65 (by decide) ?_
          exact a_iret (pc := 70) ok dX7_toOther_70 (⟨by first | (have e0 : n = 0 := (by omega); subst e0; rfl) | (rw [h2 (by omega)]; clear hU hD; split <;> first | rfl | (exfalso; omega)), rfl⟩)
      · refine a_iconst (pc := 54) ok dX7_toOther_54 ?_
        refine a_goto (pc := 55) (tgt := 70) ok dX7_toOther_55 (by decide) ?_
        exact a_iret (pc := 70) ok dX7_toOther_70 (⟨by first | (have e0 : n = 0 := (by omega); subst e0; rfl) | (rw [h2 (by omega)]; clear hU hD; split <;> first | rfl | (exfalso; omega)), rfl⟩)
    · refine a_iload_n (pc := 30) ok dX7_toOther_30 rfl ?_
      refine a_aload_n (pc := 31) ok dX7_toOther_31 rfl ?_
      refine a_iconst (pc := 32) ok dX7_toOther_32 ?_
      refine a_iload_n (pc := 33) ok dX7_toOther_33 rfl ?_
      refine a_iadd (pc := 34) ok dX7_toOther_34 ?_
      refine a_iconst (pc := 35) ok dX7_toOther_35 ?_
      refine a_isub (pc := 36) ok dX7_toOther_36 ?_
      refine a_rldT (pc := 37) (b := bandN T n g - 1) ok dX7_toOther_37 rfl (by omega) (by first | omega | (unfold rg; omega) | (simp only [rg] at *; omega) | exact bz_rg _ | grind [rg]) ?_
      refine a_isub (pc := 38) ok dX7_toOther_38 ?_
      refine a_iconst (pc := 39) ok dX7_toOther_39 ?_
      refine a_iadd (pc := 40) ok dX7_toOther_40 ?_
      refine a_goto (pc := 41) (tgt := 46) ok dX7_toOther_41 (by decide) ?_
      refine AW.cast (st2 := [iv D]) ?_ rfl (by rw [hD]; first | (rw [if_pos (by omega)] <;> rfl) | (rw [if_neg (by omega)] <;> rfl)) rfl
      refine a_istore (pc := 46) ok dX7_toOther_46 rfl (by rw [hN]; decide) ?_
      refine a_aload_n (pc := 48) ok dX7_toOther_48 rfl ?_
      refine a_iconst (pc := 49) ok dX7_toOther_49 ?_
      refine a_rldN (pc := 50) ok dX7_toOther_50 rfl ?_
      refine a_if_ne (pc := 51) (tgt := 58) ok dX7_toOther_51 (by decide) (by first | omega | (unfold rg; omega) | (simp only [rg] at *; omega) | exact bz_rg _ | grind [rg]) (fun c51 => ?_) (fun c51 => ?_)
      · refine a_iload_n (pc := 58) ok dX7_toOther_58 rfl ?_
        refine a_iload (pc := 59) ok dX7_toOther_59 rfl ?_
        refine a_icmp_ge (pc := 61) (tgt := 68) ok dX7_toOther_61 (by decide) (by assumption) (by assumption) (fun c61 => ?_) (fun c61 => ?_)
        · refine a_iload (pc := 68) ok dX7_toOther_68 rfl ?_
          exact a_iret (pc := 70) ok dX7_toOther_70 (⟨by first | (have e0 : n = 0 := (by omega); subst e0; rfl) | (rw [h2 (by omega)]; clear hU hD; split <;> first | rfl | (exfalso; omega)), rfl⟩)
        · refine a_iload_n (pc := 64) ok dX7_toOther_64 rfl ?_
          refine a_goto (pc := 65) (tgt := 70) ok dX7_toOther_65 (by decide) ?_
          exact a_iret (pc := 70) ok dX7_toOther_70 (⟨by first | (have e0 : n = 0 := (by omega); subst e0; rfl) | (rw [h2 (by omega)]; clear hU hD; split <;> first | rfl | (exfalso; omega)), rfl⟩)
      · refine a_iconst (pc := 54) ok dX7_toOther_54 ?_
        refine a_goto (pc := 55) (tgt := 70) ok dX7_toOther_55 (by decide) ?_
        exact a_iret (pc := 70) ok dX7_toOther_70 (⟨by first | (have e0 : n = 0 := (by omega); subst e0; rfl) | (rw [h2 (by omega)]; clear hU hD; split <;> first | rfl | (exfalso; omega)), rfl⟩)
theorem dX7_clear_0 : decode cX7_clear 0 = .ok (.bipush 16, 2) := by decide +kernel
theorem dX7_clear_2 : decode cX7_clear 2 = .ok (.istore_n 3, 1) := by decide +kernel
theorem dX7_clear_3 : decode cX7_clear 3 = .ok (.iload_n 3, 1) := by decide +kernel
theorem dX7_clear_4 : decode cX7_clear 4 = .ok (.sipush 160, 3) := by decide +kernel
theorem dX7_clear_7 : decode cX7_clear 7 = .ok (.if_icmp .ge 13, 3) := by decide +kernel
theorem dX7_clear_10 : decode cX7_clear 10 = .ok (.aload_n 0, 1) := by decide +kernel
theorem dX7_clear_11 : decode cX7_clear 11 = .ok (.iload_n 3, 1) := by decide +kernel
theorem dX7_clear_12 : decode cX7_clear 12 = .ok (.iconst 0, 1) := by decide +kernel
theorem dX7_clear_13 : decode cX7_clear 13 = .ok (.iastore, 1) := by decide +kernel
theorem dX7_clear_14 : decode cX7_clear 14 = .ok (.iinc 3 1, 3) := by decide +kernel
theorem dX7_clear_17 : decode cX7_clear 17 = .ok (.goto (-14), 3) := by decide +kernel
theorem dX7_clear_20 : decode cX7_clear 20 = .ok (.aload_n 0, 1) := by decide +kernel
theorem dX7_clear_21 : decode cX7_clear 21 = .ok (.iconst 0, 1) := by decide +kernel
theorem dX7_clear_22 : decode cX7_clear 22 = .ok (.iload_n 1, 1) := by decide +kernel
theorem dX7_clear_23 : decode cX7_clear 23 = .ok (.iastore, 1) := by decide +kernel
theorem dX7_clear_24 : decode cX7_clear 24 = .ok (.aload_n 0, 1) := by decide +kernel
theorem dX7_clear_25 : decode cX7_clear 25 = .ok (.iconst 1, 1) := by decide +kernel
theorem dX7_clear_26 : decode cX7_clear 26 = .ok (.iload_n 2, 1) := by decide +kernel
theorem dX7_clear_27 : decode cX7_clear 27 = .ok (.iastore, 1) := by decide +kernel
theorem dX7_clear_28 : decode cX7_clear 28 = .ok (.return_, 1) := by decide +kernel
theorem c_clear {n c2 r2 : Int} : Cd l yX7_clear cX7_clear 4 none rmX7_clear [.ref 0, iv c2, iv r2] (rwM c r G T n le Hh li) none (rwM c2 r2 (fun _ => 0) T n le Hh li) := by
  refine Ct.of miX7_clear (Nat.le_of_ble_eq_true rfl) ?_
  intro X hXl hN ok
  refine AW.cast (L2 := [some (.ref 0), some (iv c2), some (iv r2), none]) ?_ rfl rfl rfl
  have loop : ∀ k : Nat, k ≤ 144 → AW X 0 0 3 [some (.ref 0), some (iv c2), some (iv r2), some (iv (16 + (k : Int)))] [] (rwM c r (mapK (fun _ => 0) k G) T n le Hh li) := by
    refine wfl (fun k : Nat => 144 - k) _ _ ?_
    intro k hk ih
    have hup : up (mapK (fun _ => 0) k G) k 0 = mapK (fun _ => 0) ((k + 1 : Nat) : Int) G := mapK_up (f := fun _ => 0) (by omega)
    refine a_iload_n (pc := 3) ok dX7_clear_3 rfl ?_
    refine a_sipush (pc := 4) ok dX7_clear_4 (by decide) ?_
    refine a_icmp_ge (pc := 7) (tgt := 20) ok dX7_clear_7 (by decide) (by first | omega | (unfold rg; omega) | (simp only [rg] at *; omega) | exact bz_rg _ | grind [rg]) (by first | omega | (unfold rg; omega) | (simp only [rg] at *; omega) | exact bz_rg _ | grind [rg]) (fun c7 => ?_) (fun c7 => ?_)
    · refine a_aload_n (pc := 20) ok dX7_clear_20 rfl ?_
      refine a_iconst (pc := 21) ok dX7_clear_21 ?_
      refine a_iload_n (pc := 22) ok dX7_clear_22 rfl ?_
      refine a_rstC (pc := 23) ok dX7_clear_23 rfl ?_
      refine a_aload_n (pc := 24) ok dX7_clear_24 rfl ?_
      refine a_iconst (pc := 25) ok dX7_clear_25 ?_
      refine a_iload_n (pc := 26) ok dX7_clear_26 rfl ?_
      refine a_rstR (pc := 27) ok dX7_clear_27 rfl ?_
      have e : k = 144 := by omega
      subst e
      refine AW.ext (q := 0) (g := rowOf c2 r2 (fun _ => 0) T n le Hh li) rfl (fun j h1 h2 => by simp only [rowOf, mapK]; (repeat' split) <;> first | rfl | omega) ?_
      exact a_vret (pc := 28) ok dX7_clear_28 (⟨rfl, rfl⟩)
    · refine a_aload_n (pc := 10) ok dX7_clear_10 rfl ?_
      refine a_iload_n (pc := 11) ok dX7_clear_11 rfl ?_
      refine a_iconst (pc := 12) ok dX7_clear_12 ?_
      refine a_rstG (pc := 13) (b := (k : Int)) ok dX7_clear_13 rfl (by omega) (by first | omega | (unfold rg; omega) | (simp only [rg] at *; omega) | exact bz_rg _ | grind [rg]) ?_
      refine a_iinc (pc := 14) ok dX7_clear_14 rfl rfl (by rw [hN]; decide) ?_
      refine a_goto (pc := 17) (tgt := 3) ok dX7_clear_17 (by decide) ?_
      refine AW.cast (ih (k + 1) (by omega) (by omega)) rfl rfl ?_
      exact congrArg (fun f => rwM c r f T n le Hh li) hup
  refine a_bipush (pc := 0) ok dX7_clear_0 (by decide) ?_
  refine a_istore_n (pc := 2) ok dX7_clear_2 rfl (by rw [hN]; decide) ?_
  exact AW.cast (loop 0 (by omega)) rfl rfl (congrArg (fun f => rwM c r f T n le Hh li) mapK_0.symm)
theorem dX7_firstSettings_0 : decode cX7_firstSettings 0 = .ok (.iconst 0, 1) := by decide +kernel
theorem dX7_firstSettings_1 : decode cX7_firstSettings 1 = .ok (.istore_n 1, 1) := by decide +kernel
theorem dX7_firstSettings_2 : decode cX7_firstSettings 2 = .ok (.iload_n 1, 1) := by decide +kernel
theorem dX7_firstSettings_3 : decode cX7_firstSettings 3 = .ok (.iconst 5, 1) := by decide +kernel
theorem dX7_firstSettings_4 : decode cX7_firstSettings 4 = .ok (.if_icmp .ge 15, 3) := by decide +kernel
theorem dX7_firstSettings_7 : decode cX7_firstSettings 7 = .ok (.aload_n 0, 1) := by decide +kernel
theorem dX7_firstSettings_8 : decode cX7_firstSettings 8 = .ok (.iconst 3, 1) := by decide +kernel
theorem dX7_firstSettings_9 : decode cX7_firstSettings 9 = .ok (.iload_n 1, 1) := by decide +kernel
theorem dX7_firstSettings_10 : decode cX7_firstSettings 10 = .ok (.iadd, 1) := by decide +kernel
theorem dX7_firstSettings_11 : decode cX7_firstSettings 11 = .ok (.iconst 0, 1) := by decide +kernel
theorem dX7_firstSettings_12 : decode cX7_firstSettings 12 = .ok (.iastore, 1) := by decide +kernel
theorem dX7_firstSettings_13 : decode cX7_firstSettings 13 = .ok (.iinc 1 1, 3) := by decide +kernel
theorem dX7_firstSettings_16 : decode cX7_firstSettings 16 = .ok (.goto (-14), 3) := by decide +kernel
theorem dX7_firstSettings_19 : decode cX7_firstSettings 19 = .ok (.aload_n 0, 1) := by decide +kernel
theorem dX7_firstSettings_20 : decode cX7_firstSettings 20 = .ok (.iconst 2, 1) := by decide +kernel
theorem dX7_firstSettings_21 : decode cX7_firstSettings 21 = .ok (.iconst 1, 1) := by decide +kernel
theorem dX7_firstSettings_22 : decode cX7_firstSettings 22 = .ok (.iastore, 1) := by decide +kernel
theorem dX7_firstSettings_23 : decode cX7_firstSettings 23 = .ok (.aload_n 0, 1) := by decide +kernel
theorem dX7_firstSettings_24 : decode cX7_firstSettings 24 = .ok (.iconst 3, 1) := by decide +kernel
theorem dX7_firstSettings_25 : decode cX7_firstSettings 25 = .ok (.bipush 50, 2) := by decide +kernel
theorem dX7_firstSettings_27 : decode cX7_firstSettings 27 = .ok (.iastore, 1) := by decide +kernel
theorem dX7_firstSettings_28 : decode cX7_firstSettings 28 = .ok (.aload_n 0, 1) := by decide +kernel
theorem dX7_firstSettings_29 : decode cX7_firstSettings 29 = .ok (.bipush 8, 2) := by decide +kernel
theorem dX7_firstSettings_31 : decode cX7_firstSettings 31 = .ok (.iconst 1, 1) := by decide +kernel
theorem dX7_firstSettings_32 : decode cX7_firstSettings 32 = .ok (.iastore, 1) := by decide +kernel
theorem dX7_firstSettings_33 : decode cX7_firstSettings 33 = .ok (.iconst 0, 1) := by decide +kernel
theorem dX7_firstSettings_34 : decode cX7_firstSettings 34 = .ok (.istore_n 1, 1) := by decide +kernel
theorem dX7_firstSettings_35 : decode cX7_firstSettings 35 = .ok (.iload_n 1, 1) := by decide +kernel
theorem dX7_firstSettings_36 : decode cX7_firstSettings 36 = .ok (.iconst 5, 1) := by decide +kernel
theorem dX7_firstSettings_37 : decode cX7_firstSettings 37 = .ok (.if_icmp .gt 16, 3) := by decide +kernel
theorem dX7_firstSettings_40 : decode cX7_firstSettings 40 = .ok (.aload_n 0, 1) := by decide +kernel
theorem dX7_firstSettings_41 : decode cX7_firstSettings 41 = .ok (.bipush 9, 2) := by decide +kernel
theorem dX7_firstSettings_43 : decode cX7_firstSettings 43 = .ok (.iload_n 1, 1) := by decide +kernel
theorem dX7_firstSettings_44 : decode cX7_firstSettings 44 = .ok (.iadd, 1) := by decide +kernel
theorem dX7_firstSettings_45 : decode cX7_firstSettings 45 = .ok (.iload_n 1, 1) := by decide +kernel
theorem dX7_firstSettings_46 : decode cX7_firstSettings 46 = .ok (.iastore, 1) := by decide +kernel
theorem dX7_firstSettings_47 : decode cX7_firstSettings 47 = .ok (.iinc 1 1, 3) := by decide +kernel
theorem dX7_firstSettings_50 : decode cX7_firstSettings 50 = .ok (.goto (-15), 3) := by decide +kernel
theorem dX7_firstSettings_53 : decode cX7_firstSettings 53 = .ok (.aload_n 0, 1) := by decide +kernel
theorem dX7_firstSettings_54 : decode cX7_firstSettings 54 = .ok (.bipush 15, 2) := by decide +kernel
theorem dX7_firstSettings_56 : decode cX7_firstSettings 56 = .ok (.iconst 1, 1) := by decide +kernel
theorem dX7_firstSettings_57 : decode cX7_firstSettings 57 = .ok (.iastore, 1) := by decide +kernel
theorem dX7_firstSettings_58 : decode cX7_firstSettings 58 = .ok (.return_, 1) := by decide +kernel
theorem c_firstSettings {n : Int} : Cd l yX7_firstSettings cX7_firstSettings 2 none rmX7_firstSettings [.ref 0] (rwM c r G T n le Hh li) none (rwM c r G (up (fun _ => 0) 0 50) 1 1 (fun j => j) 1) := by
  refine Ct.of miX7_firstSettings (Nat.le_of_ble_eq_true rfl) ?_
  intro X hXl hN ok
  refine AW.cast (L2 := [some (.ref 0), none]) ?_ rfl rfl rfl
  have loop2 : ∀ k : Nat, k ≤ 6 → AW X 0 0 35 [some (.ref 0), some (iv k)] [] (rwM c r G (up (mapK (fun _ => 0) 5 T) 0 50) 1 1 (mapK (fun j => j) k Hh) li) := by
    refine wfl (fun k : Nat => 6 - k) _ _ ?_
    intro k hk ih
    have hup : up (mapK (fun j => j) k Hh) k k = mapK (fun j => j) ((k + 1 : Nat) : Int) Hh := mapK_up (f := fun j => j) (by omega)
    refine a_iload_n (pc := 35) ok dX7_firstSettings_35 rfl ?_
    refine a_iconst (pc := 36) ok dX7_firstSettings_36 ?_
    refine a_icmp_gt (pc := 37) (tgt := 53) ok dX7_firstSettings_37 (by decide) (by first | omega | (unfold rg; omega) | (simp only [rg] at *; omega) | exact bz_rg _ | grind [rg]) (by first | omega | (unfold rg; omega) | (simp only [rg] at *; omega) | exact bz_rg _ | grind [rg]) (fun c37 => ?_) (fun c37 => ?_)
    · refine a_aload_n (pc := 53) ok dX7_firstSettings_53 rfl ?_
      refine a_bipush (pc := 54) ok dX7_firstSettings_54 (by decide) ?_
      refine a_iconst (pc := 56) ok dX7_firstSettings_56 ?_
      refine a_rstL (pc := 57) ok dX7_firstSettings_57 rfl ?_
      have e : k = 6 := by omega
      subst e
      refine AW.ext (q := 0) (g := rowOf c r G (up (fun _ => 0) 0 50) 1 1 (fun j => j) 1) rfl (fun j h1 h2 => by simp only [rowOf, mapK, up]; (repeat' split) <;> first | rfl | omega) ?_
      exact a_vret (pc := 58) ok dX7_firstSettings_58 (⟨rfl, rfl⟩)
    · refine a_aload_n (pc := 40) ok dX7_firstSettings_40 rfl ?_
      refine a_bipush (pc := 41) ok dX7_firstSettings_41 (by decide) ?_
      refine a_iload_n (pc := 43) ok dX7_firstSettings_43 rfl ?_
      refine a_iadd (pc := 44) ok dX7_firstSettings_44 ?_
      refine a_iload_n (pc := 45) ok dX7_firstSettings_45 rfl ?_
      refine a_rstH (pc := 46) ok dX7_firstSettings_46 rfl rfl (by first | omega | (unfold rg; omega) | (simp only [rg] at *; omega) | exact bz_rg _ | grind [rg]) ?_
      refine a_iinc (pc := 47) ok dX7_firstSettings_47 rfl rfl (by rw [hN]; decide) ?_
      refine a_goto (pc := 50) (tgt := 35) ok dX7_firstSettings_50 (by decide) ?_
      refine AW.cast (ih (k + 1) (by omega) (by omega)) rfl rfl ?_
      exact congrArg (fun f => rwM c r G (up (mapK (fun _ => 0) 5 T) 0 50) 1 1 f li) hup
  have loop : ∀ k : Nat, k ≤ 5 → AW X 0 0 2 [some (.ref 0), some (iv k)] [] (rwM c r G (mapK (fun _ => 0) k T) n le Hh li) := by
    refine wfl (fun k : Nat => 5 - k) _ _ ?_
    intro k hk ih
    have hup : up (mapK (fun _ => 0) k T) k 0 = mapK (fun _ => 0) ((k + 1 : Nat) : Int) T := mapK_up (f := fun _ => 0) (by omega)
    refine a_iload_n (pc := 2) ok dX7_firstSettings_2 rfl ?_
    refine a_iconst (pc := 3) ok dX7_firstSettings_3 ?_
    refine a_icmp_ge (pc := 4) (tgt := 19) ok dX7_firstSettings_4 (by decide) (by first | omega | (unfold rg; omega) | (simp only [rg] at *; omega) | exact bz_rg _ | grind [rg]) (by first | omega | (unfold rg; omega) | (simp only [rg] at *; omega) | exact bz_rg _ | grind [rg]) (fun c4 => ?_) (fun c4 => ?_)
    · have e : k = 5 := by omega
      subst e
      refine a_aload_n (pc := 19) ok dX7_firstSettings_19 rfl ?_
      refine a_iconst (pc := 20) ok dX7_firstSettings_20 ?_
      refine a_iconst (pc := 21) ok dX7_firstSettings_21 ?_
      refine a_rstN (pc := 22) ok dX7_firstSettings_22 rfl ?_
      refine a_aload_n (pc := 23) ok dX7_firstSettings_23 rfl ?_
      refine a_iconst (pc := 24) ok dX7_firstSettings_24 ?_
      refine a_bipush (pc := 25) ok dX7_firstSettings_25 (by decide) ?_
      refine a_rstT (pc := 27) (b := 0) ok dX7_firstSettings_27 rfl (by omega) (by first | omega | (unfold rg; omega) | (simp only [rg] at *; omega) | exact bz_rg _ | grind [rg]) ?_
      refine a_aload_n (pc := 28) ok dX7_firstSettings_28 rfl ?_
      refine a_bipush (pc := 29) ok dX7_firstSettings_29 (by decide) ?_
      refine a_iconst (pc := 31) ok dX7_firstSettings_31 ?_
      refine a_rstS (pc := 32) ok dX7_firstSettings_32 rfl ?_
      refine a_iconst (pc := 33) ok dX7_firstSettings_33 ?_
      refine a_istore_n (pc := 34) ok dX7_firstSettings_34 rfl (by rw [hN]; decide) ?_
      exact AW.cast (loop2 0 (by omega)) rfl rfl (congrArg (fun f => rwM c r G (up (mapK (fun _ => 0) 5 T) 0 50) 1 1 f li) mapK_0.symm)
    · refine a_aload_n (pc := 7) ok dX7_firstSettings_7 rfl ?_
      refine a_iconst (pc := 8) ok dX7_firstSettings_8 ?_
      refine a_iload_n (pc := 9) ok dX7_firstSettings_9 rfl ?_
      refine a_iadd (pc := 10) ok dX7_firstSettings_10 ?_
      refine a_iconst (pc := 11) ok dX7_firstSettings_11 ?_
      refine a_rstT (pc := 12) ok dX7_firstSettings_12 rfl rfl (by first | omega | (unfold rg; omega) | (simp only [rg] at *; omega) | exact bz_rg _ | grind [rg]) ?_
      refine a_iinc (pc := 13) ok dX7_firstSettings_13 rfl rfl (by rw [hN]; decide) ?_
      refine a_goto (pc := 16) (tgt := 2) ok dX7_firstSettings_16 (by decide) ?_
      refine AW.cast (ih (k + 1) (by omega) (by omega)) rfl rfl ?_
      exact congrArg (fun f => rwM c r G f n le Hh li) hup
  refine a_iconst (pc := 0) ok dX7_firstSettings_0 ?_
  refine a_istore_n (pc := 1) ok dX7_firstSettings_1 rfl (by rw [hN]; decide) ?_
  exact AW.cast (loop 0 (by omega)) rfl rfl (congrArg (fun f => rwM c r G f n le Hh li) mapK_0.symm)
/-- 160 numbers of F, from a on, put into E from b on -/
def cpF (F : Int → Int) (a : Int) (E : Int → Int) (b : Int) (k : Int) : Int → Int := fun j => if b ≤ j ∧ j < b + k then F (j - b + a) else E j
theorem dX7_copyState_0 : decode cX7_copyState 0 = .ok (.iconst 0, 1) := by decide +kernel
theorem dX7_copyState_1 : decode cX7_copyState 1 = .ok (.istore 4, 2) := by decide +kernel
theorem dX7_copyState_3 : decode cX7_copyState 3 = .ok (.iload 4, 2) := by decide +kernel
theorem dX7_copyState_5 : decode cX7_copyState 5 = .ok (.sipush 160, 3) := by decide +kernel
theorem dX7_copyState_8 : decode cX7_copyState 8 = .ok (.if_icmp .ge 21, 3) := by decide +kernel
theorem dX7_copyState_11 : decode cX7_copyState 11 = .ok (.aload_n 2, 1) := by decide +kernel
theorem dX7_copyState_12 : decode cX7_copyState 12 = .ok (.iload_n 3, 1) := by decide +kernel
theorem dX7_copyState_13 : decode cX7_copyState 13 = .ok (.iload 4, 2) := by decide +kernel
theorem dX7_copyState_15 : decode cX7_copyState 15 = .ok (.iadd, 1) := by decide +kernel
theorem dX7_copyState_16 : decode cX7_copyState 16 = .ok (.aload_n 0, 1) := by decide +kernel
theorem dX7_copyState_17 : decode cX7_copyState 17 = .ok (.iload_n 1, 1) := by decide +kernel
theorem dX7_copyState_18 : decode cX7_copyState 18 = .ok (.iload 4, 2) := by decide +kernel
theorem dX7_copyState_20 : decode cX7_copyState 20 = .ok (.iadd, 1) := by decide +kernel
theorem dX7_copyState_21 : decode cX7_copyState 21 = .ok (.iaload, 1) := by decide +kernel
theorem dX7_copyState_22 : decode cX7_copyState 22 = .ok (.iastore, 1) := by decide +kernel
theorem dX7_copyState_23 : decode cX7_copyState 23 = .ok (.iinc 4 1, 3) := by decide +kernel
theorem dX7_copyState_26 : decode cX7_copyState 26 = .ok (.goto (-23), 3) := by decide +kernel
theorem dX7_copyState_29 : decode cX7_copyState 29 = .ok (.return_, 1) := by decide +kernel
theorem c_copyState {nf nt : Nat} {F E : Int → Int} {a b : Int} (h1 : nf < 10000 ∧ nt < 10000) (ha : 0 ≤ a ∧ a + 160 ≤ nf) (hb : 0 ≤ b ∧ b + 160 ≤ nt) : Cd l yX7_copyState cX7_copyState 5 none rmX7_copyState [.ref 0, iv a, .ref 1, iv b] [ia nf F, ia nt E] none [ia nf F, ia nt (cpF F a E b 160)] := by
  refine Ct.of miX7_copyState (Nat.le_of_ble_eq_true rfl) ?_
  intro X hXl hN ok
  refine AW.cast (L2 := [some (.ref 0), some (iv a), some (.ref 1), some (iv b), none]) ?_ rfl rfl rfl
  have loop : ∀ k : Nat, k ≤ 160 → AW X 0 0 3 [some (.ref 0), some (iv a), some (.ref 1), some (iv b), some (iv k)] [] [ia nf F, ia nt (cpF F a E b k)] := by
    refine wfl (fun k : Nat => 160 - k) _ _ ?_
    intro k hk ih
    have hup : up (cpF F a E b k) (b + k) (F (a + k)) = cpF F a E b ((k + 1 : Nat) : Int) := by
      funext j; simp only [up, cpF]
      by_cases h : j = b + k
      · rw [if_pos h, if_pos (by omega)]; congr 1; omega
      · rw [if_neg h]; by_cases h2 : b ≤ j ∧ j < b + k
        · rw [if_pos h2, if_pos (by omega)]
        · rw [if_neg h2, if_neg (by omega)]
    refine a_iload (pc := 3) ok dX7_copyState_3 rfl ?_
    refine a_sipush (pc := 5) ok dX7_copyState_5 (by decide) ?_
    refine a_icmp_ge (pc := 8) (tgt := 29) ok dX7_copyState_8 (by decide) (by first | omega | (unfold rg; omega) | (simp only [rg] at *; omega) | exact bz_rg _ | grind [rg]) (by first | omega | (unfold rg; omega) | (simp only [rg] at *; omega) | exact bz_rg _ | grind [rg]) (fun c8 => ?_) (fun c8 => ?_)
    · have e : k = 160 := by omega
      subst e
      exact a_vret (pc := 29) ok dX7_copyState_29 (⟨rfl, rfl⟩)
    · refine a_aload_n (pc := 11) ok dX7_copyState_11 rfl ?_
      refine a_iload_n (pc := 12) ok dX7_copyState_12 rfl ?_
      refine a_iload (pc := 13) ok dX7_copyState_13 rfl ?_
      refine a_iadd (pc := 15) ok dX7_copyState_15 ?_
      refine a_aload_n (pc := 16) ok dX7_copyState_16 rfl ?_
      refine a_iload_n (pc := 17) ok dX7_copyState_17 rfl ?_
      refine a_iload (pc := 18) ok dX7_copyState_18 rfl ?_
      refine a_iadd (pc := 20) ok dX7_copyState_20 ?_
      refine a_iald (pc := 21) ok dX7_copyState_21 rfl (by first | decide | omega) (by first | omega | (unfold rg; omega) | (simp only [rg] at *; omega) | exact bz_rg _ | grind [rg]) ?_
      refine a_iast (pc := 22) ok dX7_copyState_22 rfl (by first | decide | omega) (by first | omega | (unfold rg; omega) | (simp only [rg] at *; omega) | exact bz_rg _ | grind [rg]) ?_
      refine a_iinc (pc := 23) ok dX7_copyState_23 rfl rfl (by rw [hN]; decide) ?_
      refine a_goto (pc := 26) (tgt := 3) ok dX7_copyState_26 (by decide) ?_
      refine AW.cast (ih (k + 1) (by omega) (by omega)) rfl rfl ?_
      exact congrArg (fun f => [ia nf F, ia nt f]) hup
  refine a_iconst (pc := 0) ok dX7_copyState_0 ?_
  refine a_istore (pc := 1) ok dX7_copyState_1 rfl (by rw [hN]; decide) ?_
  exact AW.cast (loop 0 (by omega)) rfl rfl (congrArg (fun f => [ia nf F, ia nt f]) (by funext j; simp only [cpF]; rw [if_neg (by omega)]))
/-- a whole row copied -/
theorem c_copyRow {F E : Int → Int} : Cd l yX7_copyState cX7_copyState 5 none rmX7_copyState [.ref 0, iv 0, .ref 1, iv 0] [ia 160 F, ia 160 E] none [ia 160 F, ia 160 F] := by
  refine Ct.of miX7_copyState (Nat.le_of_ble_eq_true rfl) ?_
  intro X hXl hN ok
  refine AW.cast (L2 := [some (.ref 0), some (iv 0), some (.ref 1), some (iv 0), none]) ?_ rfl rfl rfl
  have loop : ∀ k : Nat, k ≤ 160 → AW X 0 0 3 [some (.ref 0), some (iv 0), some (.ref 1), some (iv 0), some (iv k)] [] [ia 160 F, ia 160 (mapK F k E)] := by
    refine wfl (fun k : Nat => 160 - k) _ _ ?_
    intro k hk ih
    have hup : up (mapK F k E) (0 + k) (F (0 + k)) = mapK F ((k + 1 : Nat) : Int) E := by rw [Int.zero_add]; exact mapK_up (by omega)
    refine a_iload (pc := 3) ok dX7_copyState_3 rfl ?_
    refine a_sipush (pc := 5) ok dX7_copyState_5 (by decide) ?_
    refine a_icmp_ge (pc := 8) (tgt := 29) ok dX7_copyState_8 (by decide) (by first | omega | (unfold rg; omega) | (simp only [rg] at *; omega) | exact bz_rg _ | grind [rg]) (by first | omega | (unfold rg; omega) | (simp only [rg] at *; omega) | exact bz_rg _ | grind [rg]) (fun c8 => ?_) (fun c8 => ?_)
    · have e : k = 160 := by omega
      subst e
      refine AW.ext (q := 1) (g := F) rfl (fun j h1 h2 => by simp only [mapK]; rw [if_pos (by omega)]) ?_
      exact a_vret (pc := 29) ok dX7_copyState_29 (⟨rfl, rfl⟩)
    · refine a_aload_n (pc := 11) ok dX7_copyState_11 rfl ?_
      refine a_iload_n (pc := 12) ok dX7_copyState_12 rfl ?_
      refine a_iload (pc := 13) ok dX7_copyState_13 rfl ?_
      refine a_iadd (pc := 15) ok dX7_copyState_15 ?_
      refine a_aload_n (pc := 16) ok dX7_copyState_16 rfl ?_
      refine a_iload_n (pc := 17) ok dX7_copyState_17 rfl ?_
      refine a_iload (pc := 18) ok dX7_copyState_18 rfl ?_
      refine a_iadd (pc := 20) ok dX7_copyState_20 ?_
      refine a_iald (pc := 21) ok dX7_copyState_21 rfl (by first | decide | omega) (by first | omega | (unfold rg; omega) | (simp only [rg] at *; omega) | exact bz_rg _ | grind [rg]) ?_
      refine a_iast (pc := 22) ok dX7_copyState_22 rfl (by first | decide | omega) (by first | omega | (unfold rg; omega) | (simp only [rg] at *; omega) | exact bz_rg _ | grind [rg]) ?_
      refine a_iinc (pc := 23) ok dX7_copyState_23 rfl rfl (by rw [hN]; decide) ?_
      refine a_goto (pc := 26) (tgt := 3) ok dX7_copyState_26 (by decide) ?_
      refine AW.cast (ih (k + 1) (by omega) (by omega)) rfl rfl ?_
      exact congrArg (fun f => [ia 160 F, ia 160 f]) hup
  refine a_iconst (pc := 0) ok dX7_copyState_0 ?_
  refine a_istore (pc := 1) ok dX7_copyState_1 rfl (by rw [hN]; decide) ?_
  exact AW.cast (loop 0 (by omega)) rfl rfl (congrArg (fun f => [ia 160 F, ia 160 f]) mapK_0.symm)
end MD4
