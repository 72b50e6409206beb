/-! TEXT: the first error. -/
section TX2
variable {l : Launch} {n : Int} {t : Int → Int}
/-- a word's start, its kind and its numbers are right; h: 1 at the head -/
def wOk (t : Int → Int) (n p h : Int) : Prop := p < n ∧ h = (if sg t n p = 69 then 1 else 0) ∧ nuO (sg t n p) ≠ -1
theorem wEr_no {p h : Int} (z : ¬ wOk t n p h) : wEr t n p h = p := by
  unfold wEr
  rw [if_pos]
  unfold wOk at z
  by_cases a : n ≤ p
  · exact Or.inl a
  · by_cases d : h = (if sg t n p = 69 then 1 else 0)
    · by_cases e : nuO (sg t n p) = -1
      · exact Or.inr (Or.inr e)
      · exact absurd ⟨by omega, d, e⟩ z
    · exact Or.inr (Or.inl d)
/-- the first wrong digit of m numbers, by its place; none -/
noncomputable def dBad (t : Int → Int) (n k p : Int) (m : Nat) : Int := fstK (fun j => tr (¬ dOk t n k p j)) (2 * m)
theorem wEr_ok {p h : Int} (z : wOk t n p h) : wEr t n p h = if dBad t n (sg t n p) p (nuO (sg t n p)).toNat = -1 then -1 else p + 1 + dBad t n (sg t n p) p (nuO (sg t n p)).toNat := by
  have hu := nuO_rg (sg t n p)
  unfold wEr dBad
  rw [if_neg (by rintro (y | y | y); · have := z.1; omega
                 · exact y z.2.1
                 · exact z.2.2 y), show (2 * nuO (sg t n p)).toNat = 2 * (nuO (sg t n p)).toNat by omega]
theorem dX5_errorInWord_0 : decode cX5_errorInWord 0 = .ok (.aload_n 0, 1) := by decide +kernel
theorem dX5_errorInWord_1 : decode cX5_errorInWord 1 = .ok (.iload_n 1, 1) := by decide +kernel
theorem dX5_errorInWord_2 : decode cX5_errorInWord 2 = .ok (.invokevirtual 23, 3) := by decide +kernel
theorem dX5_errorInWord_5 : decode cX5_errorInWord 5 = .ok (.istore_n 3, 1) := by decide +kernel
theorem dX5_errorInWord_6 : decode cX5_errorInWord 6 = .ok (.iload_n 1, 1) := by decide +kernel
theorem dX5_errorInWord_7 : decode cX5_errorInWord 7 = .ok (.aload_n 0, 1) := by decide +kernel
theorem dX5_errorInWord_8 : decode cX5_errorInWord 8 = .ok (.getfield 15, 3) := by decide +kernel
theorem dX5_errorInWord_11 : decode cX5_errorInWord 11 = .ok (.if_icmp .ge 26, 3) := by decide +kernel
theorem dX5_errorInWord_14 : decode cX5_errorInWord 14 = .ok (.iload_n 2, 1) := by decide +kernel
theorem dX5_errorInWord_15 : decode cX5_errorInWord 15 = .ok (.iload_n 3, 1) := by decide +kernel
theorem dX5_errorInWord_16 : decode cX5_errorInWord 16 = .ok (.bipush 69, 2) := by decide +kernel
theorem dX5_errorInWord_18 : decode cX5_errorInWord 18 = .ok (.if_icmp .ne 7, 3) := by decide +kernel
theorem dX5_errorInWord_21 : decode cX5_errorInWord 21 = .ok (.iconst 1, 1) := by decide +kernel
theorem dX5_errorInWord_22 : decode cX5_errorInWord 22 = .ok (.goto 4, 3) := by decide +kernel
theorem dX5_errorInWord_25 : decode cX5_errorInWord 25 = .ok (.iconst 0, 1) := by decide +kernel
theorem dX5_errorInWord_26 : decode cX5_errorInWord 26 = .ok (.if_icmp .ne 11, 3) := by decide +kernel
theorem dX5_errorInWord_29 : decode cX5_errorInWord 29 = .ok (.iload_n 3, 1) := by decide +kernel
theorem dX5_errorInWord_30 : decode cX5_errorInWord 30 = .ok (.invokestatic 27, 3) := by decide +kernel
theorem dX5_errorInWord_33 : decode cX5_errorInWord 33 = .ok (.iconst (-1), 1) := by decide +kernel
theorem dX5_errorInWord_34 : decode cX5_errorInWord 34 = .ok (.if_icmp .ne 5, 3) := by decide +kernel
theorem dX5_errorInWord_37 : decode cX5_errorInWord 37 = .ok (.iload_n 1, 1) := by decide +kernel
theorem dX5_errorInWord_38 : decode cX5_errorInWord 38 = .ok (.ireturn, 1) := by decide +kernel
theorem dX5_errorInWord_39 : decode cX5_errorInWord 39 = .ok (.aload_n 0, 1) := by decide +kernel
theorem dX5_errorInWord_40 : decode cX5_errorInWord 40 = .ok (.iload_n 1, 1) := by decide +kernel
theorem dX5_errorInWord_41 : decode cX5_errorInWord 41 = .ok (.invokevirtual 40, 3) := by decide +kernel
theorem dX5_errorInWord_44 : decode cX5_errorInWord 44 = .ok (.istore 4, 2) := by decide +kernel
theorem dX5_errorInWord_46 : decode cX5_errorInWord 46 = .ok (.iload_n 1, 1) := by decide +kernel
theorem dX5_errorInWord_47 : decode cX5_errorInWord 47 = .ok (.iconst 1, 1) := by decide +kernel
theorem dX5_errorInWord_48 : decode cX5_errorInWord 48 = .ok (.iadd, 1) := by decide +kernel
theorem dX5_errorInWord_49 : decode cX5_errorInWord 49 = .ok (.istore 5, 2) := by decide +kernel
theorem dX5_errorInWord_51 : decode cX5_errorInWord 51 = .ok (.iload 5, 2) := by decide +kernel
theorem dX5_errorInWord_53 : decode cX5_errorInWord 53 = .ok (.iload 4, 2) := by decide +kernel
theorem dX5_errorInWord_55 : decode cX5_errorInWord 55 = .ok (.if_icmp .ge 32, 3) := by decide +kernel
theorem dX5_errorInWord_58 : decode cX5_errorInWord 58 = .ok (.iload 5, 2) := by decide +kernel
theorem dX5_errorInWord_60 : decode cX5_errorInWord 60 = .ok (.aload_n 0, 1) := by decide +kernel
theorem dX5_errorInWord_61 : decode cX5_errorInWord 61 = .ok (.getfield 15, 3) := by decide +kernel
theorem dX5_errorInWord_64 : decode cX5_errorInWord 64 = .ok (.if_icmp .ge 14, 3) := by decide +kernel
theorem dX5_errorInWord_67 : decode cX5_errorInWord 67 = .ok (.aload_n 0, 1) := by decide +kernel
theorem dX5_errorInWord_68 : decode cX5_errorInWord 68 = .ok (.iload_n 3, 1) := by decide +kernel
theorem dX5_errorInWord_69 : decode cX5_errorInWord 69 = .ok (.iload_n 1, 1) := by decide +kernel
theorem dX5_errorInWord_70 : decode cX5_errorInWord 70 = .ok (.iload 5, 2) := by decide +kernel
theorem dX5_errorInWord_72 : decode cX5_errorInWord 72 = .ok (.invokevirtual 43, 3) := by decide +kernel
theorem dX5_errorInWord_75 : decode cX5_errorInWord 75 = .ok (.ifCond .ne 6, 3) := by decide +kernel
theorem dX5_errorInWord_78 : decode cX5_errorInWord 78 = .ok (.iload 5, 2) := by decide +kernel
theorem dX5_errorInWord_80 : decode cX5_errorInWord 80 = .ok (.ireturn, 1) := by decide +kernel
theorem dX5_errorInWord_81 : decode cX5_errorInWord 81 = .ok (.iinc 5 1, 3) := by decide +kernel
theorem dX5_errorInWord_84 : decode cX5_errorInWord 84 = .ok (.goto (-33), 3) := by decide +kernel
theorem dX5_errorInWord_87 : decode cX5_errorInWord 87 = .ok (.iconst (-1), 1) := by decide +kernel
theorem dX5_errorInWord_88 : decode cX5_errorInWord 88 = .ok (.ireturn, 1) := by decide +kernel
theorem c_errorInWord {p h : Int} (hn : 0 ≤ n ∧ n ≤ 120) (ht : ∀ i, 0 ≤ t i ∧ t i ≤ 255) (hp : 0 ≤ p ∧ p ≤ 1000) (hh : h = 0 ∨ h = 1) : Cd l yX5_errorInWord cX5_errorInWord 6 (some .int) rmX5_errorInWord [.ref 0, iv p, iv h] (txM n t) (some (iv (wEr t n p h))) (txM n t) := by
  refine Ct.of miX5_errorInWord (Nat.le_of_ble_eq_true rfl) ?_
  intro X hXl hN ok
  refine AW.cast (L2 := [some (.ref 0), some (iv p), some (iv h), none, none, none]) ?_ rfl rfl rfl
  have hs := sg_rg (n := n) ht p
  have hu := nuO_rg (sg t n p)
  have hE : nuO (sg t n p) ≠ -1 → wE t n p = p + 1 + 2 * nuO (sg t n p) := fun z => by unfold wE; omega
  have loop : wOk t n p h → ∀ j : Nat, ((j : Int) ≤ 2 * nuO (sg t n p) ∧ fstK (fun j => tr (¬ dOk t n (sg t n p) p j)) j = -1) → AW X 0 0 51 [some (.ref 0), some (iv p), some (iv h), some (iv (sg t n p)), some (iv (wE t n p)), some (iv (p + 1 + j))] [] (txM n t) := by
    intro hok
    have hE2 := hE hok.2.2
    refine wfl (fun j : Nat => 11 - j) _ _ ?_
    rintro j ⟨h1, h2⟩ ih
    have bad : (j : Int) < 2 * nuO (sg t n p) → ¬ dOk t n (sg t n p) p j → wEr t n p h = p + 1 + j := fun z1 z2 => by
      have e : dBad t n (sg t n p) p (nuO (sg t n p)).toNat = j := fstK_at h2 (tr_t.mpr z2) _ (by omega)
      rw [wEr_ok hok, e, if_neg (by omega)]
    have good : dOk t n (sg t n p) p j → fstK (fun j => tr (¬ dOk t n (sg t n p) p j)) (j + 1) = -1 := fun z => by
      simp only [fstK]; rw [if_pos h2, if_neg (by rw [tr_f.mpr (fun y => y z)]; decide)]
    have fin : (j : Int) = 2 * nuO (sg t n p) → wEr t n p h = -1 := fun z => by
      rw [wEr_ok hok, if_pos]
      unfold dBad
      rw [show 2 * (nuO (sg t n p)).toNat = j by omega]; exact h2
    refine a_iload (pc := 51) ok dX5_errorInWord_51 rfl ?_
    refine a_iload (pc := 53) ok dX5_errorInWord_53 rfl ?_
    refine a_icmp_ge (pc := 55) (tgt := 87) ok dX5_errorInWord_55 (by decide) (by first | omega | (unfold rg; omega) | (simp only [rg] at *; omega) | exact bz_rg _ | grind [rg]) (by first | omega | (unfold rg; omega) | (simp only [rg] at *; omega) | exact bz_rg _ | grind [rg]) (fun c55 => ?_) (fun c55 => ?_)
    · refine a_iconst (pc := 87) ok dX5_errorInWord_87 ?_
      exact a_iret (pc := 88) ok dX5_errorInWord_88 (⟨by rw [fin (by omega)], rfl⟩)
    · refine a_iload (pc := 58) ok dX5_errorInWord_58 rfl ?_
      refine a_aload_n (pc := 60) ok dX5_errorInWord_60 rfl ?_
      refine a_getf (pc := 61) ok dX5_errorInWord_61 fl5_15 rfl rfl ?_
      refine a_icmp_ge (pc := 64) (tgt := 78) ok dX5_errorInWord_64 (by decide) (by first | omega | (unfold rg; omega) | (simp only [rg] at *; omega) | exact bz_rg _ | grind [rg]) (by first | omega | (unfold rg; omega) | (simp only [rg] at *; omega) | exact bz_rg _ | grind [rg]) (fun c64 => ?_) (fun c64 => ?_)
      · refine a_iload (pc := 78) ok dX5_errorInWord_78 rfl ?_
        exact a_iret (pc := 80) ok dX5_errorInWord_80 (⟨by rw [bad (by omega) (fun z => by have := z.1; omega)], rfl⟩)
      · refine a_aload_n (pc := 67) ok dX5_errorInWord_67 rfl ?_
        refine a_iload_n (pc := 68) ok dX5_errorInWord_68 rfl ?_
        refine a_iload_n (pc := 69) ok dX5_errorInWord_69 rfl ?_
        refine a_iload (pc := 70) ok dX5_errorInWord_70 rfl ?_
        refine a_callVp (pc := 72) ok [0, 1] dX5_errorInWord_72 mv5_43 miX5_isDigitAllowed (c_isDigitAllowed hn ht hs (by omega) (by omega) (by omega)) ⟨by decide, by decide, rfl, rfl, Nat.zero_le _, Nat.zero_le _⟩ rfl rfl (Nat.le_of_ble_eq_true rfl) rfl (by decide) rfl rfl ?_
        refine a_if_ne (pc := 75) (tgt := 81) ok dX5_errorInWord_75 (by decide) (by exact @bz_rg _ (Classical.propDecidable _)) (fun c75 => ?_) (fun c75 => ?_)
        · refine a_iinc (pc := 81) ok dX5_errorInWord_81 rfl rfl (by rw [hN]; decide) ?_
          refine a_goto (pc := 84) (tgt := 51) ok dX5_errorInWord_84 (by decide) ?_
          exact AW.cast (ih (j + 1) ⟨by omega, good (Classical.byContradiction fun z => c75 (@bz_neg _ (Classical.propDecidable _) z))⟩ (by omega)) (by rw [show p + 1 + ((j + 1 : Nat) : Int) = p + 1 + j + 1 by omega]; rfl) rfl rfl
        · refine a_iload (pc := 78) ok dX5_errorInWord_78 rfl ?_
          exact a_iret (pc := 80) ok dX5_errorInWord_80 (⟨by rw [bad (by omega) (fun z => by rw [@bz_pos _ (Classical.propDecidable _) z] at c75; exact absurd c75 (by decide))], rfl⟩)
  refine a_aload_n (pc := 0) ok dX5_errorInWord_0 rfl ?_
  refine a_iload_n (pc := 1) ok dX5_errorInWord_1 rfl ?_
  refine a_callVp (pc := 2) ok [0, 1] dX5_errorInWord_2 mv5_23 miX5_signAt (c_signAt hn (by unfold rg; omega)) ⟨by decide, by decide, rfl, rfl, Nat.zero_le _, Nat.zero_le _⟩ rfl rfl (Nat.le_of_ble_eq_true rfl) rfl (by decide) rfl rfl ?_
  refine a_istore_n (pc := 5) ok dX5_errorInWord_5 rfl (by rw [hN]; decide) ?_
  refine a_iload_n (pc := 6) ok dX5_errorInWord_6 rfl ?_
  refine a_aload_n (pc := 7) ok dX5_errorInWord_7 rfl ?_
  refine a_getf (pc := 8) ok dX5_errorInWord_8 fl5_15 rfl rfl ?_
  refine a_icmp_ge (pc := 11) (tgt := 37) ok dX5_errorInWord_11 (by decide) (by first | omega | (unfold rg; omega) | (simp only [rg] at *; omega) | exact bz_rg _ | grind [rg]) (by first | omega | (unfold rg; omega) | (simp only [rg] at *; omega) | exact bz_rg _ | grind [rg]) (fun c11 => ?_) (fun c11 => ?_)
  · refine a_iload_n (pc := 37) ok dX5_errorInWord_37 rfl ?_
    exact a_iret (pc := 38) ok dX5_errorInWord_38 (⟨by rw [wEr_no (fun z => by have a := z.1; have d := z.2.1; have e := z.2.2; split at d <;> omega)], rfl⟩)
  · refine a_iload_n (pc := 14) ok dX5_errorInWord_14 rfl ?_
    refine a_iload_n (pc := 15) ok dX5_errorInWord_15 rfl ?_
    refine a_bipush (pc := 16) ok dX5_errorInWord_16 (by decide) ?_
    refine a_icmp_ne (pc := 18) (tgt := 25) ok dX5_errorInWord_18 (by decide) (by first | omega | (unfold rg; omega) | (simp only [rg] at *; omega) | exact bz_rg _ | grind [rg]) (by first | omega | (unfold rg; omega) | (simp only [rg] at *; omega) | exact bz_rg _ | grind [rg]) (fun c18 => ?_) (fun c18 => ?_)
    · refine a_iconst (pc := 25) ok dX5_errorInWord_25 ?_
      refine a_icmp_ne (pc := 26) (tgt := 37) ok dX5_errorInWord_26 (by decide) (by first | omega | (unfold rg; omega) | (simp only [rg] at *; omega) | exact bz_rg _ | grind [rg]) (by first | omega | (unfold rg; omega) | (simp only [rg] at *; omega) | exact bz_rg _ | grind [rg]) (fun c26 => ?_) (fun c26 => ?_)
      · refine a_iload_n (pc := 37) ok dX5_errorInWord_37 rfl ?_
        exact a_iret (pc := 38) ok dX5_errorInWord_38 (⟨by rw [wEr_no (fun z => by have a := z.1; have d := z.2.1; have e := z.2.2; split at d <;> omega)], rfl⟩)
      · refine a_iload_n (pc := 29) ok dX5_errorInWord_29 rfl ?_
        refine a_callSp (pc := 30) ok [] dX5_errorInWord_30 mv5_27 miX5_numbersOf (c_numbersOf hs) ⟨by decide, by decide, rfl, rfl, Nat.zero_le _, Nat.zero_le _⟩ rfl rfl (Nat.le_of_ble_eq_true rfl) rfl (by decide) ?_
        refine a_iconst (pc := 33) ok dX5_errorInWord_33 ?_
        refine a_icmp_ne (pc := 34) (tgt := 39) ok dX5_errorInWord_34 (by decide) (by first | omega | (unfold rg; omega) | (simp only [rg] at *; omega) | exact bz_rg _ | grind [rg]) (by first | omega | (unfold rg; omega) | (simp only [rg] at *; omega) | exact bz_rg _ | grind [rg]) (fun c34 => ?_) (fun c34 => ?_)
        · refine a_aload_n (pc := 39) ok dX5_errorInWord_39 rfl ?_
          refine a_iload_n (pc := 40) ok dX5_errorInWord_40 rfl ?_
          refine a_callVp (pc := 41) ok [0, 1] dX5_errorInWord_41 mv5_40 miX5_wordEnd (c_wordEnd hn ht (by omega)) ⟨by decide, by decide, rfl, rfl, Nat.zero_le _, Nat.zero_le _⟩ rfl rfl (Nat.le_of_ble_eq_true rfl) rfl (by decide) rfl rfl ?_
          refine a_istore (pc := 44) ok dX5_errorInWord_44 rfl (by rw [hN]; decide) ?_
          refine a_iload_n (pc := 46) ok dX5_errorInWord_46 rfl ?_
          refine a_iconst (pc := 47) ok dX5_errorInWord_47 ?_
          refine a_iadd (pc := 48) ok dX5_errorInWord_48 ?_
          refine a_istore (pc := 49) ok dX5_errorInWord_49 rfl (by rw [hN]; decide) ?_
          exact AW.cast (loop ⟨by omega, by split <;> omega, c34⟩ 0 ⟨by omega, rfl⟩) (by rw [show p + 1 + ((0 : Nat) : Int) = p + 1 by omega]; rfl) rfl rfl
        · refine a_iload_n (pc := 37) ok dX5_errorInWord_37 rfl ?_
          exact a_iret (pc := 38) ok dX5_errorInWord_38 (⟨by rw [wEr_no (fun z => by have a := z.1; have d := z.2.1; have e := z.2.2; split at d <;> omega)], rfl⟩)
    · refine a_iconst (pc := 21) ok dX5_errorInWord_21 ?_
      refine a_goto (pc := 22) (tgt := 26) ok dX5_errorInWord_22 (by decide) ?_
      refine a_icmp_ne (pc := 26) (tgt := 37) ok dX5_errorInWord_26 (by decide) (by first | omega | (unfold rg; omega) | (simp only [rg] at *; omega) | exact bz_rg _ | grind [rg]) (by first | omega | (unfold rg; omega) | (simp only [rg] at *; omega) | exact bz_rg _ | grind [rg]) (fun c26 => ?_) (fun c26 => ?_)
      · refine a_iload_n (pc := 37) ok dX5_errorInWord_37 rfl ?_
        exact a_iret (pc := 38) ok dX5_errorInWord_38 (⟨by rw [wEr_no (fun z => by have a := z.1; have d := z.2.1; have e := z.2.2; split at d <;> omega)], rfl⟩)
      · refine a_iload_n (pc := 29) ok dX5_errorInWord_29 rfl ?_
        refine a_callSp (pc := 30) ok [] dX5_errorInWord_30 mv5_27 miX5_numbersOf (c_numbersOf hs) ⟨by decide, by decide, rfl, rfl, Nat.zero_le _, Nat.zero_le _⟩ rfl rfl (Nat.le_of_ble_eq_true rfl) rfl (by decide) ?_
        refine a_iconst (pc := 33) ok dX5_errorInWord_33 ?_
        refine a_icmp_ne (pc := 34) (tgt := 39) ok dX5_errorInWord_34 (by decide) (by first | omega | (unfold rg; omega) | (simp only [rg] at *; omega) | exact bz_rg _ | grind [rg]) (by first | omega | (unfold rg; omega) | (simp only [rg] at *; omega) | exact bz_rg _ | grind [rg]) (fun c34 => ?_) (fun c34 => ?_)
        · refine a_aload_n (pc := 39) ok dX5_errorInWord_39 rfl ?_
          refine a_iload_n (pc := 40) ok dX5_errorInWord_40 rfl ?_
          refine a_callVp (pc := 41) ok [0, 1] dX5_errorInWord_41 mv5_40 miX5_wordEnd (c_wordEnd hn ht (by omega)) ⟨by decide, by decide, rfl, rfl, Nat.zero_le _, Nat.zero_le _⟩ rfl rfl (Nat.le_of_ble_eq_true rfl) rfl (by decide) rfl rfl ?_
          refine a_istore (pc := 44) ok dX5_errorInWord_44 rfl (by rw [hN]; decide) ?_
          refine a_iload_n (pc := 46) ok dX5_errorInWord_46 rfl ?_
          refine a_iconst (pc := 47) ok dX5_errorInWord_47 ?_
          refine a_iadd (pc := 48) ok dX5_errorInWord_48 ?_
          refine a_istore (pc := 49) ok dX5_errorInWord_49 rfl (by rw [hN]; decide) ?_
          exact AW.cast (loop ⟨by omega, by split <;> omega, c34⟩ 0 ⟨by omega, rfl⟩) (by rw [show p + 1 + ((0 : Nat) : Int) = p + 1 by omega]; rfl) rfl rfl
        · refine a_iload_n (pc := 37) ok dX5_errorInWord_37 rfl ?_
          exact a_iret (pc := 38) ok dX5_errorInWord_38 (⟨by rw [wEr_no (fun z => by have a := z.1; have d := z.2.1; have e := z.2.2; split at d <;> omega)], rfl⟩)
/-- where the words begin -/
def wS (t : Int → Int) (n : Int) : Nat → Int
  | 0 => 0
  | k + 1 => wE t n (wS t n k)
theorem wS_rg (t : Int → Int) (n : Int) : ∀ k : Nat, (k : Int) ≤ wS t n k ∧ (wS t n (k + 1) ≤ wS t n k + 11)
  | 0 => ⟨Int.le_refl _, (wE_rg t n 0).2⟩
  | k + 1 => ⟨by have := (wS_rg t n k).1; have := (wE_rg t n (wS t n k)).1; simp only [wS]; omega, (wE_rg t n (wS t n (k + 1))).2⟩
/-- the error position, from the word k on -/
noncomputable def eF (t : Int → Int) (n : Int) : Nat → Nat → Int
  | 0, _ => -1
  | f + 1, k => if n ≤ wS t n k ∧ 0 < k then -1 else if wEr t n (wS t n k) (if k = 0 then 1 else 0) ≠ -1 then wEr t n (wS t n k) (if k = 0 then 1 else 0) else eF t n f (k + 1)
noncomputable def eP (t : Int → Int) (n : Int) : Int := eF t n 121 0
theorem dX5_firstError_0 : decode cX5_firstError 0 = .ok (.iconst 0, 1) := by decide +kernel
theorem dX5_firstError_1 : decode cX5_firstError 1 = .ok (.istore_n 1, 1) := by decide +kernel
theorem dX5_firstError_2 : decode cX5_firstError 2 = .ok (.iconst 0, 1) := by decide +kernel
theorem dX5_firstError_3 : decode cX5_firstError 3 = .ok (.istore_n 2, 1) := by decide +kernel
theorem dX5_firstError_4 : decode cX5_firstError 4 = .ok (.iload_n 2, 1) := by decide +kernel
theorem dX5_firstError_5 : decode cX5_firstError 5 = .ok (.bipush 120, 2) := by decide +kernel
theorem dX5_firstError_7 : decode cX5_firstError 7 = .ok (.if_icmp .gt 51, 3) := by decide +kernel
theorem dX5_firstError_10 : decode cX5_firstError 10 = .ok (.iload_n 1, 1) := by decide +kernel
theorem dX5_firstError_11 : decode cX5_firstError 11 = .ok (.aload_n 0, 1) := by decide +kernel
theorem dX5_firstError_12 : decode cX5_firstError 12 = .ok (.getfield 15, 3) := by decide +kernel
theorem dX5_firstError_15 : decode cX5_firstError 15 = .ok (.if_icmp .lt 9, 3) := by decide +kernel
theorem dX5_firstError_18 : decode cX5_firstError 18 = .ok (.iload_n 2, 1) := by decide +kernel
theorem dX5_firstError_19 : decode cX5_firstError 19 = .ok (.ifCond .le 5, 3) := by decide +kernel
theorem dX5_firstError_22 : decode cX5_firstError 22 = .ok (.iconst (-1), 1) := by decide +kernel
theorem dX5_firstError_23 : decode cX5_firstError 23 = .ok (.ireturn, 1) := by decide +kernel
theorem dX5_firstError_24 : decode cX5_firstError 24 = .ok (.aload_n 0, 1) := by decide +kernel
theorem dX5_firstError_25 : decode cX5_firstError 25 = .ok (.iload_n 1, 1) := by decide +kernel
theorem dX5_firstError_26 : decode cX5_firstError 26 = .ok (.iload_n 2, 1) := by decide +kernel
theorem dX5_firstError_27 : decode cX5_firstError 27 = .ok (.ifCond .ne 7, 3) := by decide +kernel
theorem dX5_firstError_30 : decode cX5_firstError 30 = .ok (.iconst 1, 1) := by decide +kernel
theorem dX5_firstError_31 : decode cX5_firstError 31 = .ok (.goto 4, 3) := by decide +kernel
theorem dX5_firstError_34 : decode cX5_firstError 34 = .ok (.iconst 0, 1) := by decide +kernel
theorem dX5_firstError_35 : decode cX5_firstError 35 = .ok (.invokevirtual 36, 3) := by decide +kernel
theorem dX5_firstError_38 : decode cX5_firstError 38 = .ok (.istore_n 3, 1) := by decide +kernel
theorem dX5_firstError_39 : decode cX5_firstError 39 = .ok (.iload_n 3, 1) := by decide +kernel
theorem dX5_firstError_40 : decode cX5_firstError 40 = .ok (.iconst (-1), 1) := by decide +kernel
theorem dX5_firstError_41 : decode cX5_firstError 41 = .ok (.if_icmp .eq 5, 3) := by decide +kernel
theorem dX5_firstError_44 : decode cX5_firstError 44 = .ok (.iload_n 3, 1) := by decide +kernel
theorem dX5_firstError_45 : decode cX5_firstError 45 = .ok (.ireturn, 1) := by decide +kernel
theorem dX5_firstError_46 : decode cX5_firstError 46 = .ok (.aload_n 0, 1) := by decide +kernel
theorem dX5_firstError_47 : decode cX5_firstError 47 = .ok (.iload_n 1, 1) := by decide +kernel
theorem dX5_firstError_48 : decode cX5_firstError 48 = .ok (.invokevirtual 40, 3) := by decide +kernel
theorem dX5_firstError_51 : decode cX5_firstError 51 = .ok (.istore_n 1, 1) := by decide +kernel
theorem dX5_firstError_52 : decode cX5_firstError 52 = .ok (.iinc 2 1, 3) := by decide +kernel
theorem dX5_firstError_55 : decode cX5_firstError 55 = .ok (.goto (-51), 3) := by decide +kernel
theorem dX5_firstError_58 : decode cX5_firstError 58 = .ok (.iconst (-1), 1) := by decide +kernel
theorem dX5_firstError_59 : decode cX5_firstError 59 = .ok (.ireturn, 1) := by decide +kernel
theorem c_firstError (hn : 0 ≤ n ∧ n ≤ 120) (ht : ∀ i, 0 ≤ t i ∧ t i ≤ 255) : Cd l yX5_firstError cX5_firstError 4 (some .int) rmX5_firstError [.ref 0] (txM n t) (some (iv (eP t n))) (txM n t) := by
  refine Ct.of miX5_firstError (Nat.le_of_ble_eq_true rfl) ?_
  intro X hXl hN ok
  refine AW.cast (L2 := [some (.ref 0), none, none, none]) ?_ rfl rfl rfl
  have loop : ∀ k : Nat, (k ≤ 121 ∧ eP t n = eF t n (121 - k) k ∧ (0 < k → wS t n (k - 1) < n)) → ∀ u : Option Value, AW X 0 0 4 [some (.ref 0), some (iv (wS t n k)), some (iv k), u] [] (txM n t) := by
    refine wfl (fun k : Nat => 122 - k) _ _ ?_
    rintro k ⟨h1, h2, h3⟩ ih u
    have hw := wS_rg t n k
    have hw2 : 0 < k → wS t n k ≤ wS t n (k - 1) + 11 := fun z => by have := (wS_rg t n (k - 1)).2; rw [show k - 1 + 1 = k by omega] at this; exact this
    have hw3 : wS t n k ≤ 200 := by
      by_cases z : k = 0
      · subst z; show (0 : Int) ≤ 200; omega
      · have := hw2 (by omega); have := h3 (by omega); omega
    have hk : k ≤ 120 → eF t n (121 - k) k = if n ≤ wS t n k ∧ 0 < k then -1 else if wEr t n (wS t n k) (if k = 0 then 1 else 0) ≠ -1 then wEr t n (wS t n k) (if k = 0 then 1 else 0) else eF t n (121 - (k + 1)) (k + 1) := fun z => by
      rw [show 121 - k = (121 - (k + 1)) + 1 by omega]; rfl
    have er : -1 ≤ wEr t n (wS t n k) (if k = 0 then 1 else 0) ∧ wEr t n (wS t n k) (if k = 0 then 1 else 0) ≤ 1000 := by
      by_cases z : wOk t n (wS t n k) (if k = 0 then 1 else 0)
      · rw [wEr_ok z]
        have := fstK_rg (fun j => tr (¬ dOk t n (sg t n (wS t n k)) (wS t n k) j)) (2 * (nuO (sg t n (wS t n k))).toNat)
        have hu := nuO_rg (sg t n (wS t n k))
        have e : dBad t n (sg t n (wS t n k)) (wS t n k) (nuO (sg t n (wS t n k))).toNat = fstK (fun j => tr (¬ dOk t n (sg t n (wS t n k)) (wS t n k) j)) (2 * (nuO (sg t n (wS t n k))).toNat) := rfl
        split <;> omega
      · rw [wEr_no z]; omega
    have pos : wEr t n (wS t n k) (if k = 0 then 1 else 0) = -1 → wS t n k < n := fun z => by
      refine Classical.byContradiction fun y => ?_
      rw [wEr_no (fun q => y q.1)] at z
      omega
    have mid : ¬ (n ≤ wS t n k ∧ 0 < k) → ∀ z : Int, z = (if k = 0 then 1 else 0) → k ≤ 120 → AW X 0 0 35 [some (.ref 0), some (iv (wS t n k)), some (iv k), u] [iv z, iv (wS t n k), .ref 0] (txM n t) := by
      intro hq z hz hk120
      subst hz
      have hk2 := hk hk120
      rw [if_neg hq] at hk2
      refine a_callVp (pc := 35) ok [0, 1] dX5_firstError_35 mv5_36 miX5_errorInWord (c_errorInWord hn ht (by omega) (by split <;> omega)) ⟨by decide, by decide, rfl, rfl, Nat.zero_le _, Nat.zero_le _⟩ rfl rfl (Nat.le_of_ble_eq_true rfl) rfl (by decide) rfl rfl ?_
      refine a_istore_n (pc := 38) ok dX5_firstError_38 rfl (by rw [hN]; decide) ?_
      refine a_iload_n (pc := 39) ok dX5_firstError_39 rfl ?_
      refine a_iconst (pc := 40) ok dX5_firstError_40 ?_
      refine a_icmp_eq (pc := 41) (tgt := 46) ok dX5_firstError_41 (by decide) (by first | omega | (unfold rg; omega) | (simp only [rg] at *; omega) | exact bz_rg _ | grind [rg]) (by first | omega | (unfold rg; omega) | (simp only [rg] at *; omega) | exact bz_rg _ | grind [rg]) (fun c41 => ?_) (fun c41 => ?_)
      · rw [if_neg (fun y => y c41)] at hk2
        refine a_aload_n (pc := 46) ok dX5_firstError_46 rfl ?_
        refine a_iload_n (pc := 47) ok dX5_firstError_47 rfl ?_
        refine a_callVp (pc := 48) ok [0, 1] dX5_firstError_48 mv5_40 miX5_wordEnd (c_wordEnd hn ht (by omega)) ⟨by decide, by decide, rfl, rfl, Nat.zero_le _, Nat.zero_le _⟩ rfl rfl (Nat.le_of_ble_eq_true rfl) rfl (by decide) rfl rfl ?_
        refine a_istore_n (pc := 51) ok dX5_firstError_51 rfl (by rw [hN]; decide) ?_
        refine a_iinc (pc := 52) ok dX5_firstError_52 rfl rfl (by rw [hN]; decide) ?_
        refine a_goto (pc := 55) (tgt := 4) ok dX5_firstError_55 (by decide) ?_
        exact AW.cast (ih (k + 1) ⟨by omega, by rw [h2, hk2], fun _ => by rw [show k + 1 - 1 = k by omega]; exact pos c41⟩ (by omega) _) rfl rfl rfl
      · refine a_iload_n (pc := 44) ok dX5_firstError_44 rfl ?_
        exact a_iret (pc := 45) ok dX5_firstError_45 (⟨by rw [h2, hk2, if_pos c41], rfl⟩)
    refine a_iload_n (pc := 4) ok dX5_firstError_4 rfl ?_
    refine a_bipush (pc := 5) ok dX5_firstError_5 (by decide) ?_
    refine a_icmp_gt (pc := 7) (tgt := 58) ok dX5_firstError_7 (by decide) (by first | omega | (unfold rg; omega) | (simp only [rg] at *; omega) | exact bz_rg _ | grind [rg]) (by first | omega | (unfold rg; omega) | (simp only [rg] at *; omega) | exact bz_rg _ | grind [rg]) (fun c7 => ?_) (fun c7 => ?_)
    · have := h3 (by omega); have := (wS_rg t n (k - 1)).1; omega
    · refine a_iload_n (pc := 10) ok dX5_firstError_10 rfl ?_
      refine a_aload_n (pc := 11) ok dX5_firstError_11 rfl ?_
      refine a_getf (pc := 12) ok dX5_firstError_12 fl5_15 rfl rfl ?_
      refine a_icmp_lt (pc := 15) (tgt := 24) ok dX5_firstError_15 (by decide) (by first | omega | (unfold rg; omega) | (simp only [rg] at *; omega) | exact bz_rg _ | grind [rg]) (by first | omega | (unfold rg; omega) | (simp only [rg] at *; omega) | exact bz_rg _ | grind [rg]) (fun c15 => ?_) (fun c15 => ?_)
      · refine a_aload_n (pc := 24) ok dX5_firstError_24 rfl ?_
        refine a_iload_n (pc := 25) ok dX5_firstError_25 rfl ?_
        refine a_iload_n (pc := 26) ok dX5_firstError_26 rfl ?_
        refine a_if_ne (pc := 27) (tgt := 34) ok dX5_firstError_27 (by decide) (by first | omega | (unfold rg; omega) | (simp only [rg] at *; omega) | exact bz_rg _ | grind [rg]) (fun c27 => ?_) (fun c27 => ?_)
        · refine a_iconst (pc := 34) ok dX5_firstError_34 ?_
          exact mid (by omega) 0 (by rw [if_neg (by omega)]) (by omega)
        · refine a_iconst (pc := 30) ok dX5_firstError_30 ?_
          refine a_goto (pc := 31) (tgt := 35) ok dX5_firstError_31 (by decide) ?_
          exact mid (by omega) 1 (by rw [if_pos (by omega)]) (by omega)
      · refine a_iload_n (pc := 18) ok dX5_firstError_18 rfl ?_
        refine a_if_le (pc := 19) (tgt := 24) ok dX5_firstError_19 (by decide) (by first | omega | (unfold rg; omega) | (simp only [rg] at *; omega) | exact bz_rg _ | grind [rg]) (fun c19 => ?_) (fun c19 => ?_)
        · refine a_aload_n (pc := 24) ok dX5_firstError_24 rfl ?_
          refine a_iload_n (pc := 25) ok dX5_firstError_25 rfl ?_
          refine a_iload_n (pc := 26) ok dX5_firstError_26 rfl ?_
          refine a_if_ne (pc := 27) (tgt := 34) ok dX5_firstError_27 (by decide) (by first | omega | (unfold rg; omega) | (simp only [rg] at *; omega) | exact bz_rg _ | grind [rg]) (fun c27 => ?_) (fun c27 => ?_)
          · refine a_iconst (pc := 34) ok dX5_firstError_34 ?_
            exact mid (by omega) 0 (by rw [if_neg (by omega)]) (by omega)
          · refine a_iconst (pc := 30) ok dX5_firstError_30 ?_
            refine a_goto (pc := 31) (tgt := 35) ok dX5_firstError_31 (by decide) ?_
            exact mid (by omega) 1 (by rw [if_pos (by omega)]) (by omega)
        · refine a_iconst (pc := 22) ok dX5_firstError_22 ?_
          exact a_iret (pc := 23) ok dX5_firstError_23 (⟨by rw [h2, hk (by omega), if_pos ⟨by omega, by omega⟩], rfl⟩)
  refine a_iconst (pc := 0) ok dX5_firstError_0 ?_
  refine a_istore_n (pc := 1) ok dX5_firstError_1 rfl (by rw [hN]; decide) ?_
  refine a_iconst (pc := 2) ok dX5_firstError_2 ?_
  refine a_istore_n (pc := 3) ok dX5_firstError_3 rfl (by rw [hN]; decide) ?_
  exact AW.cast (loop 0 ⟨by omega, rfl, fun z => by omega⟩ none) rfl rfl rfl
end TX2
