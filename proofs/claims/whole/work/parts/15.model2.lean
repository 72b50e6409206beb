/-! MODEL's state: cells, boxes, thresholds. -/
section MD2
variable {l : Launch} {c r le li : Int} {G T Hh : Int → Int}
theorem dX7_cellOn_0 : decode cX7_cellOn 0 = .ok (.aload_n 0, 1) := by decide +kernel
theorem dX7_cellOn_1 : decode cX7_cellOn 1 = .ok (.bipush 16, 2) := by decide +kernel
theorem dX7_cellOn_3 : decode cX7_cellOn 3 = .ok (.iload_n 1, 1) := by decide +kernel
theorem dX7_cellOn_4 : decode cX7_cellOn 4 = .ok (.iadd, 1) := by decide +kernel
theorem dX7_cellOn_5 : decode cX7_cellOn 5 = .ok (.iaload, 1) := by decide +kernel
theorem dX7_cellOn_6 : decode cX7_cellOn 6 = .ok (.istore_n 3, 1) := by decide +kernel
theorem dX7_cellOn_7 : decode cX7_cellOn 7 = .ok (.aload_n 0, 1) := by decide +kernel
theorem dX7_cellOn_8 : decode cX7_cellOn 8 = .ok (.bipush 16, 2) := by decide +kernel
theorem dX7_cellOn_10 : decode cX7_cellOn 10 = .ok (.iload_n 1, 1) := by decide +kernel
theorem dX7_cellOn_11 : decode cX7_cellOn 11 = .ok (.iadd, 1) := by decide +kernel
theorem dX7_cellOn_12 : decode cX7_cellOn 12 = .ok (.iload_n 2, 1) := by decide +kernel
theorem dX7_cellOn_13 : decode cX7_cellOn 13 = .ok (.iastore, 1) := by decide +kernel
theorem dX7_cellOn_14 : decode cX7_cellOn 14 = .ok (.iload_n 3, 1) := by decide +kernel
theorem dX7_cellOn_15 : decode cX7_cellOn 15 = .ok (.ireturn, 1) := by decide +kernel
theorem c_cellOn {n k g : Int} (hk : 0 ≤ k ∧ k < 144) : Cd l yX7_cellOn cX7_cellOn 4 (some .int) rmX7_cellOn [.ref 0, iv k, iv g] (rwM c r G T n le Hh li) (some (iv (G k))) (rwM c r (up G k g) T n le Hh li) := by
  refine Ct.of miX7_cellOn (Nat.le_of_ble_eq_true rfl) ?_
  intro X hXl hN ok
  refine AW.cast (L2 := [some (.ref 0), some (iv k), some (iv g), none]) ?_ rfl rfl rfl
  refine a_aload_n (pc := 0) ok dX7_cellOn_0 rfl ?_
  refine a_bipush (pc := 1) ok dX7_cellOn_1 (by decide) ?_
  refine a_iload_n (pc := 3) ok dX7_cellOn_3 rfl ?_
  refine a_iadd (pc := 4) ok dX7_cellOn_4 ?_
  refine a_rldG (pc := 5) ok dX7_cellOn_5 rfl rfl (by first | omega | (unfold rg; omega) | (simp only [rg] at *; omega) | exact bz_rg _ | grind [rg]) ?_
  refine a_istore_n (pc := 6) ok dX7_cellOn_6 rfl (by rw [hN]; decide) ?_
  refine a_aload_n (pc := 7) ok dX7_cellOn_7 rfl ?_
  refine a_bipush (pc := 8) ok dX7_cellOn_8 (by decide) ?_
  refine a_iload_n (pc := 10) ok dX7_cellOn_10 rfl ?_
  refine a_iadd (pc := 11) ok dX7_cellOn_11 ?_
  refine a_iload_n (pc := 12) ok dX7_cellOn_12 rfl ?_
  refine a_rstG (pc := 13) ok dX7_cellOn_13 rfl rfl (by first | omega | (unfold rg; omega) | (simp only [rg] at *; omega) | exact bz_rg _ | grind [rg]) ?_
  refine a_iload_n (pc := 14) ok dX7_cellOn_14 rfl ?_
  exact a_iret (pc := 15) ok dX7_cellOn_15 (⟨rfl, rfl⟩)
theorem dX7_canBox_0 : decode cX7_canBox 0 = .ok (.aload_n 0, 1) := by decide +kernel
theorem dX7_canBox_1 : decode cX7_canBox 1 = .ok (.iload_n 1, 1) := by decide +kernel
theorem dX7_canBox_2 : decode cX7_canBox 2 = .ok (.invokestatic 122, 3) := by decide +kernel
theorem dX7_canBox_5 : decode cX7_canBox 5 = .ok (.ifCond .eq 43, 3) := by decide +kernel
theorem dX7_canBox_8 : decode cX7_canBox 8 = .ok (.aload_n 0, 1) := by decide +kernel
theorem dX7_canBox_9 : decode cX7_canBox 9 = .ok (.iload_n 2, 1) := by decide +kernel
theorem dX7_canBox_10 : decode cX7_canBox 10 = .ok (.invokestatic 122, 3) := by decide +kernel
theorem dX7_canBox_13 : decode cX7_canBox 13 = .ok (.ifCond .eq 35, 3) := by decide +kernel
theorem dX7_canBox_16 : decode cX7_canBox 16 = .ok (.aload_n 0, 1) := by decide +kernel
theorem dX7_canBox_17 : decode cX7_canBox 17 = .ok (.iload_n 3, 1) := by decide +kernel
theorem dX7_canBox_18 : decode cX7_canBox 18 = .ok (.invokestatic 126, 3) := by decide +kernel
theorem dX7_canBox_21 : decode cX7_canBox 21 = .ok (.ifCond .eq 27, 3) := by decide +kernel
theorem dX7_canBox_24 : decode cX7_canBox 24 = .ok (.aload_n 0, 1) := by decide +kernel
theorem dX7_canBox_25 : decode cX7_canBox 25 = .ok (.iload 4, 2) := by decide +kernel
theorem dX7_canBox_27 : decode cX7_canBox 27 = .ok (.invokestatic 126, 3) := by decide +kernel
theorem dX7_canBox_30 : decode cX7_canBox 30 = .ok (.ifCond .eq 18, 3) := by decide +kernel
theorem dX7_canBox_33 : decode cX7_canBox 33 = .ok (.iload_n 2, 1) := by decide +kernel
theorem dX7_canBox_34 : decode cX7_canBox 34 = .ok (.iload_n 1, 1) := by decide +kernel
theorem dX7_canBox_35 : decode cX7_canBox 35 = .ok (.if_icmp .lt 13, 3) := by decide +kernel
theorem dX7_canBox_38 : decode cX7_canBox 38 = .ok (.iload 4, 2) := by decide +kernel
theorem dX7_canBox_40 : decode cX7_canBox 40 = .ok (.iload_n 3, 1) := by decide +kernel
theorem dX7_canBox_41 : decode cX7_canBox 41 = .ok (.if_icmp .lt 7, 3) := by decide +kernel
theorem dX7_canBox_44 : decode cX7_canBox 44 = .ok (.iconst 1, 1) := by decide +kernel
theorem dX7_canBox_45 : decode cX7_canBox 45 = .ok (.goto 4, 3) := by decide +kernel
theorem dX7_canBox_48 : decode cX7_canBox 48 = .ok (.iconst 0, 1) := by decide +kernel
theorem dX7_canBox_49 : decode cX7_canBox 49 = .ok (.ireturn, 1) := by decide +kernel
theorem c_canBox {n x0 x1 y0 y1 : Int} (hd : dim c r) (hx0 : rg x0) (hx1 : rg x1) (hy0 : rg y0) (hy1 : rg y1) : Cd l yX7_canBox cX7_canBox 5 (some .boolean) rmX7_canBox [.ref 0, iv x0, iv x1, iv y0, iv y1] (rwM c r G T n le Hh li) (some (iv (bz (inP c r x0 y0 ∧ inP c r x1 y1 ∧ x0 ≤ x1 ∧ y0 ≤ y1)))) (rwM c r G T n le Hh li) := by
  refine Ct.of miX7_canBox (Nat.le_of_ble_eq_true rfl) ?_
  intro X hXl hN ok
  refine AW.cast (L2 := [some (.ref 0), some (iv x0), some (iv x1), some (iv y0), some (iv y1)]) ?_ rfl rfl rfl
  refine a_aload_n (pc := 0) ok dX7_canBox_0 rfl ?_
  refine a_iload_n (pc := 1) ok dX7_canBox_1 rfl ?_
  refine a_callSp (pc := 2) ok [0] dX7_canBox_2 mv7_122 miX7_isColumn (c_isColumn hd hx0) ⟨by decide, by decide, rfl, rfl, Nat.zero_le _, Nat.zero_le _⟩ rfl rfl (Nat.le_of_ble_eq_true rfl) rfl (by decide) ?_
  refine a_if_eq (pc := 5) (tgt := 48) ok dX7_canBox_5 (by decide) (by first | omega | (unfold rg; omega) | (simp only [rg] at *; omega) | exact bz_rg _ | grind [rg]) (fun c5 => ?_) (fun c5 => ?_)
  · refine a_iconst (pc := 48) ok dX7_canBox_48 ?_
    exact a_zret (pc := 49) ok dX7_canBox_49 (by first | rfl | exact nb_bz _ | decide) (⟨by simp only [bz_0] at *; first | exact congrArg (fun z => some (iv z)) (bz_pos (by omega)).symm | exact congrArg (fun z => some (iv z)) (bz_neg (by omega)).symm, rfl⟩)
  · refine a_aload_n (pc := 8) ok dX7_canBox_8 rfl ?_
    refine a_iload_n (pc := 9) ok dX7_canBox_9 rfl ?_
    refine a_callSp (pc := 10) ok [0] dX7_canBox_10 mv7_122 miX7_isColumn (c_isColumn hd hx1) ⟨by decide, by decide, rfl, rfl, Nat.zero_le _, Nat.zero_le _⟩ rfl rfl (Nat.le_of_ble_eq_true rfl) rfl (by decide) ?_
    refine a_if_eq (pc := 13) (tgt := 48) ok dX7_canBox_13 (by decide) (by first | omega | (unfold rg; omega) | (simp only [rg] at *; omega) | exact bz_rg _ | grind [rg]) (fun c13 => ?_) (fun c13 => ?_)
    · refine a_iconst (pc := 48) ok dX7_canBox_48 ?_
      exact a_zret (pc := 49) ok dX7_canBox_49 (by first | rfl | exact nb_bz _ | decide) (⟨by simp only [bz_0] at *; first | exact congrArg (fun z => some (iv z)) (bz_pos (by omega)).symm | exact congrArg (fun z => some (iv z)) (bz_neg (by omega)).symm, rfl⟩)
    · refine a_aload_n (pc := 16) ok dX7_canBox_16 rfl ?_
      refine a_iload_n (pc := 17) ok dX7_canBox_17 rfl ?_
      refine a_callSp (pc := 18) ok [0] dX7_canBox_18 mv7_126 miX7_isRow (c_isRow hd hy0) ⟨by decide, by decide, rfl, rfl, Nat.zero_le _, Nat.zero_le _⟩ rfl rfl (Nat.le_of_ble_eq_true rfl) rfl (by decide) ?_
      refine a_if_eq (pc := 21) (tgt := 48) ok dX7_canBox_21 (by decide) (by first | omega | (unfold rg; omega) | (simp only [rg] at *; omega) | exact bz_rg _ | grind [rg]) (fun c21 => ?_) (fun c21 => ?_)
      · refine a_iconst (pc := 48) ok dX7_canBox_48 ?_
        exact a_zret (pc := 49) ok dX7_canBox_49 (by first | rfl | exact nb_bz _ | decide) (⟨by simp only [bz_0] at *; first | exact congrArg (fun z => some (iv z)) (bz_pos (by omega)).symm | exact congrArg (fun z => some (iv z)) (bz_neg (by omega)).symm, rfl⟩)
      · refine a_aload_n (pc := 24) ok dX7_canBox_24 rfl ?_
        refine a_iload (pc := 25) ok dX7_canBox_25 rfl ?_
        refine a_callSp (pc := 27) ok [0] dX7_canBox_27 mv7_126 miX7_isRow (c_isRow hd hy1) ⟨by decide, by decide, rfl, rfl, Nat.zero_le _, Nat.zero_le _⟩ rfl rfl (Nat.le_of_ble_eq_true rfl) rfl (by decide) ?_
        refine a_if_eq (pc := 30) (tgt := 48) ok dX7_canBox_30 (by decide) (by first | omega | (unfold rg; omega) | (simp only [rg] at *; omega) | exact bz_rg _ | grind [rg]) (fun c30 => ?_) (fun c30 => ?_)
        · refine a_iconst (pc := 48) ok dX7_canBox_48 ?_
          exact a_zret (pc := 49) ok dX7_canBox_49 (by first | rfl | exact nb_bz _ | decide) (⟨by simp only [bz_0] at *; first | exact congrArg (fun z => some (iv z)) (bz_pos (by omega)).symm | exact congrArg (fun z => some (iv z)) (bz_neg (by omega)).symm, rfl⟩)
        · refine a_iload_n (pc := 33) ok dX7_canBox_33 rfl ?_
          refine a_iload_n (pc := 34) ok dX7_canBox_34 rfl ?_
          refine a_icmp_lt (pc := 35) (tgt := 48) ok dX7_canBox_35 (by decide) (by first | omega | (unfold rg; omega) | (simp only [rg] at *; omega) | exact bz_rg _ | grind [rg]) (by first | omega | (unfold rg; omega) | (simp only [rg] at *; omega) | exact bz_rg _ | grind [rg]) (fun c35 => ?_) (fun c35 => ?_)
          · refine a_iconst (pc := 48) ok dX7_canBox_48 ?_
            exact a_zret (pc := 49) ok dX7_canBox_49 (by first | rfl | exact nb_bz _ | decide) (⟨by simp only [bz_0] at *; first | exact congrArg (fun z => some (iv z)) (bz_pos (by omega)).symm | exact congrArg (fun z => some (iv z)) (bz_neg (by omega)).symm, rfl⟩)
          · refine a_iload (pc := 38) ok dX7_canBox_38 rfl ?_
            refine a_iload_n (pc := 40) ok dX7_canBox_40 rfl ?_
            refine a_icmp_lt (pc := 41) (tgt := 48) ok dX7_canBox_41 (by decide) (by first | omega | (unfold rg; omega) | (simp only [rg] at *; omega) | exact bz_rg _ | grind [rg]) (by first | omega | (unfold rg; omega) | (simp only [rg] at *; omega) | exact bz_rg _ | grind [rg]) (fun c41 => ?_) (fun c41 => ?_)
            · refine a_iconst (pc := 48) ok dX7_canBox_48 ?_
              exact a_zret (pc := 49) ok dX7_canBox_49 (by first | rfl | exact nb_bz _ | decide) (⟨by simp only [bz_0] at *; first | exact congrArg (fun z => some (iv z)) (bz_pos (by omega)).symm | exact congrArg (fun z => some (iv z)) (bz_neg (by omega)).symm, rfl⟩)
            · refine a_iconst (pc := 44) ok dX7_canBox_44 ?_
              refine a_goto (pc := 45) (tgt := 49) ok dX7_canBox_45 (by decide) ?_
              exact a_zret (pc := 49) ok dX7_canBox_49 (by first | rfl | exact nb_bz _ | decide) (⟨by simp only [bz_0] at *; first | exact congrArg (fun z => some (iv z)) (bz_pos (by omega)).symm | exact congrArg (fun z => some (iv z)) (bz_neg (by omega)).symm, rfl⟩)
theorem dX7_boxOn_0 : decode cX7_boxOn 0 = .ok (.iconst 0, 1) := by decide +kernel
theorem dX7_boxOn_1 : decode cX7_boxOn 1 = .ok (.istore 6, 2) := by decide +kernel
theorem dX7_boxOn_3 : decode cX7_boxOn 3 = .ok (.iload_n 3, 1) := by decide +kernel
theorem dX7_boxOn_4 : decode cX7_boxOn 4 = .ok (.istore 7, 2) := by decide +kernel
theorem dX7_boxOn_6 : decode cX7_boxOn 6 = .ok (.iload 7, 2) := by decide +kernel
theorem dX7_boxOn_8 : decode cX7_boxOn 8 = .ok (.iload 4, 2) := by decide +kernel
theorem dX7_boxOn_10 : decode cX7_boxOn 10 = .ok (.if_icmp .gt 53, 3) := by decide +kernel
theorem dX7_boxOn_13 : decode cX7_boxOn 13 = .ok (.iload_n 1, 1) := by decide +kernel
theorem dX7_boxOn_14 : decode cX7_boxOn 14 = .ok (.istore 8, 2) := by decide +kernel
theorem dX7_boxOn_16 : decode cX7_boxOn 16 = .ok (.iload 8, 2) := by decide +kernel
theorem dX7_boxOn_18 : decode cX7_boxOn 18 = .ok (.iload_n 2, 1) := by decide +kernel
theorem dX7_boxOn_19 : decode cX7_boxOn 19 = .ok (.if_icmp .gt 38, 3) := by decide +kernel
theorem dX7_boxOn_22 : decode cX7_boxOn 22 = .ok (.iload 6, 2) := by decide +kernel
theorem dX7_boxOn_24 : decode cX7_boxOn 24 = .ok (.aload_n 0, 1) := by decide +kernel
theorem dX7_boxOn_25 : decode cX7_boxOn 25 = .ok (.aload_n 0, 1) := by decide +kernel
theorem dX7_boxOn_26 : decode cX7_boxOn 26 = .ok (.iload 8, 2) := by decide +kernel
theorem dX7_boxOn_28 : decode cX7_boxOn 28 = .ok (.iload 7, 2) := by decide +kernel
theorem dX7_boxOn_30 : decode cX7_boxOn 30 = .ok (.invokestatic 129, 3) := by decide +kernel
theorem dX7_boxOn_33 : decode cX7_boxOn 33 = .ok (.iload 5, 2) := by decide +kernel
theorem dX7_boxOn_35 : decode cX7_boxOn 35 = .ok (.invokestatic 158, 3) := by decide +kernel
theorem dX7_boxOn_38 : decode cX7_boxOn 38 = .ok (.iload 5, 2) := by decide +kernel
theorem dX7_boxOn_40 : decode cX7_boxOn 40 = .ok (.if_icmp .ne 7, 3) := by decide +kernel
theorem dX7_boxOn_43 : decode cX7_boxOn 43 = .ok (.iconst 0, 1) := by decide +kernel
theorem dX7_boxOn_44 : decode cX7_boxOn 44 = .ok (.goto 4, 3) := by decide +kernel
theorem dX7_boxOn_47 : decode cX7_boxOn 47 = .ok (.iconst 1, 1) := by decide +kernel
theorem dX7_boxOn_48 : decode cX7_boxOn 48 = .ok (.iadd, 1) := by decide +kernel
theorem dX7_boxOn_49 : decode cX7_boxOn 49 = .ok (.istore 6, 2) := by decide +kernel
theorem dX7_boxOn_51 : decode cX7_boxOn 51 = .ok (.iinc 8 1, 3) := by decide +kernel
theorem dX7_boxOn_54 : decode cX7_boxOn 54 = .ok (.goto (-38), 3) := by decide +kernel
theorem dX7_boxOn_57 : decode cX7_boxOn 57 = .ok (.iinc 7 1, 3) := by decide +kernel
theorem dX7_boxOn_60 : decode cX7_boxOn 60 = .ok (.goto (-54), 3) := by decide +kernel
theorem dX7_boxOn_63 : decode cX7_boxOn 63 = .ok (.iload 6, 2) := by decide +kernel
theorem dX7_boxOn_65 : decode cX7_boxOn 65 = .ok (.ireturn, 1) := by decide +kernel
theorem c_boxOn {n x0 x1 y0 y1 g : Int} (hd : dim c r) (hx : 0 ≤ x0 ∧ x0 ≤ x1 ∧ x1 < c) (hy : 0 ≤ y0 ∧ y0 ≤ y1 ∧ y1 < r) (hG : ∀ i, rg (G i)) (hg : rg g) : Cd l yX7_boxOn cX7_boxOn 9 (some .int) rmX7_boxOn [.ref 0, iv x0, iv x1, iv y0, iv y1, iv g] (rwM c r G T n le Hh li)
    (some (iv (boxF c g x0 (x1 - x0 + 1).toNat y0 (y1 - y0 + 1).toNat (G, 0)).2)) (rwM c r (boxF c g x0 (x1 - x0 + 1).toNat y0 (y1 - y0 + 1).toNat (G, 0)).1 T n le Hh li) := by
  refine Ct.of miX7_boxOn (Nat.le_of_ble_eq_true rfl) ?_
  intro X hXl hN ok
  refine AW.cast (L2 := [some (.ref 0), some (iv x0), some (iv x1), some (iv y0), some (iv y1), some (iv g), none, none, none]) ?_ rfl rfl rfl
  obtain ⟨d1, d2, d3, d4⟩ := id hd
  have loop : ∀ q : Int × (Int → Int) × Int, (y0 ≤ q.1 ∧ q.1 ≤ y1 + 1 ∧ (∀ i, rg (q.2.1 i)) ∧ q.2 = boxF c g x0 (x1 - x0 + 1).toNat y0 (q.1 - y0).toNat (G, 0)) → AW X 0 0 6 [some (.ref 0), some (iv x0), some (iv x1), some (iv y0), some (iv y1), some (iv g), some (iv q.2.2), some (iv q.1), none] [] (rwM c r q.2.1 T n le Hh li) := by
    refine wfl (fun q : Int × (Int → Int) × Int => (y1 + 1 - q.1).toNat) _ _ ?_
    rintro ⟨y, G1, n1⟩ ⟨hy0, hy1, hG1, he⟩ ih
    dsimp only at hy0 hy1 hG1 he ih ⊢
    have inner : ∀ q : Int × (Int → Int) × Int, (x0 ≤ q.1 ∧ q.1 ≤ x1 + 1 ∧ y ≤ y1 ∧ (∀ i, rg (q.2.1 i)) ∧ q.2 = rowF c g y x0 (q.1 - x0).toNat (G1, n1)) → AW X 0 0 16 [some (.ref 0), some (iv x0), some (iv x1), some (iv y0), some (iv y1), some (iv g), some (iv q.2.2), some (iv y), some (iv q.1)] [] (rwM c r q.2.1 T n le Hh li) := by
      refine wfl (fun q : Int × (Int → Int) × Int => (x1 + 1 - q.1).toNat) _ _ ?_
      rintro ⟨x, G2, n2⟩ ⟨hx0, hx1, hyy, hG2, he2⟩ ih2
      dsimp only at hx0 hx1 hyy hG2 he2 ih2 ⊢
      have hu : ∀ i, rg (up G2 (y * c + x) g i) := fun i => by unfold up; split; exact hg; exact hG2 i
      have hen := rowF_end c g y (x - x0).toNat x0 (G1, n1)
      rw [← he2, show x0 + ((x - x0).toNat : Int) = x by omega, show (x - x0).toNat + 1 = (x + 1 - x0).toNat by omega] at hen
      dsimp only at hen
      have hG2i := hG2 (y * c + x)
      refine a_iload (pc := 16) ok dX7_boxOn_16 rfl ?_
      refine a_iload_n (pc := 18) ok dX7_boxOn_18 rfl ?_
      refine a_icmp_gt (pc := 19) (tgt := 57) ok dX7_boxOn_19 (by decide) (by first | omega | (unfold rg; omega) | (simp only [rg] at *; omega) | exact bz_rg _ | grind [rg]) (by first | omega | (unfold rg; omega) | (simp only [rg] at *; omega) | exact bz_rg _ | grind [rg]) (fun c19 => ?_) (fun c19 => ?_)
      · have hb := boxF_end c g x0 (x1 - x0 + 1).toNat (y - y0).toNat y0 (G, 0)
        rw [← he, show y0 + ((y - y0).toNat : Int) = y by omega, show (y - y0).toNat + 1 = (y + 1 - y0).toNat by omega, show x1 - x0 + 1 = x - x0 by omega, ← he2] at hb
        rw [show x - x0 = x1 - x0 + 1 by omega] at hb
        refine a_iinc (pc := 57) ok dX7_boxOn_57 rfl rfl (by rw [hN]; decide) ?_
        refine a_goto (pc := 60) (tgt := 6) ok dX7_boxOn_60 (by decide) ?_
        exact AW.forget (ih (y + 1, G2, n2) ⟨by dsimp only; omega, by dsimp only; omega, hG2, hb.symm⟩ (by dsimp only; omega)) (by repeat' (first | exact trivial | refine ⟨rfl, ?_⟩))
      · refine a_iload (pc := 22) ok dX7_boxOn_22 rfl ?_
        refine a_aload_n (pc := 24) ok dX7_boxOn_24 rfl ?_
        refine a_aload_n (pc := 25) ok dX7_boxOn_25 rfl ?_
        refine a_iload (pc := 26) ok dX7_boxOn_26 rfl ?_
        refine a_iload (pc := 28) ok dX7_boxOn_28 rfl ?_
        refine a_callSp (pc := 30) ok [0] dX7_boxOn_30 mv7_129 miX7_at (c_at) ⟨by decide, by decide, rfl, rfl, Nat.zero_le _, Nat.zero_le _⟩ rfl rfl (Nat.le_of_ble_eq_true rfl) rfl (by decide) ?_
        refine a_iload (pc := 33) ok dX7_boxOn_33 rfl ?_
        refine a_callSi (pc := 35) ok [0] dX7_boxOn_35 mv7_158 miX7_cellOn (c_cellOn (by have := dim_at hd (x := x) (y := y) (by omega) (by omega); omega)) ⟨by decide, by decide, rfl, rfl, Nat.zero_le _, Nat.zero_le _⟩ rfl rfl (Nat.le_of_ble_eq_true rfl) rfl (by decide) rfl ?_
        refine a_iload (pc := 38) ok dX7_boxOn_38 rfl ?_
        refine a_icmp_ne (pc := 40) (tgt := 47) ok dX7_boxOn_40 (by decide) (by first | omega | (unfold rg; omega) | (simp only [rg] at *; omega) | exact bz_rg _ | grind [rg]) (by first | omega | (unfold rg; omega) | (simp only [rg] at *; omega) | exact bz_rg _ | grind [rg]) (fun c40 => ?_) (fun c40 => ?_)
        · refine a_iconst (pc := 47) ok dX7_boxOn_47 ?_
          refine a_iadd (pc := 48) ok dX7_boxOn_48 ?_
          refine a_istore (pc := 49) ok dX7_boxOn_49 rfl (by rw [hN]; decide) ?_
          refine AW.cast (L2 := [some (.ref 0), some (iv x0), some (iv x1), some (iv y0), some (iv y1), some (iv g), some (iv (rowF c g y x0 (x + 1 - x0).toNat (G1, n1)).2), some (iv y), some (iv x)]) ?_ (by rw [hen]; simp [c40]) rfl rfl
          refine a_iinc (pc := 51) ok dX7_boxOn_51 rfl rfl (by rw [hN]; decide) ?_
          refine a_goto (pc := 54) (tgt := 16) ok dX7_boxOn_54 (by decide) ?_
          exact ih2 (x + 1, up G2 (y * c + x) g, (rowF c g y x0 (x + 1 - x0).toNat (G1, n1)).2) ⟨by dsimp only; omega, by dsimp only; omega, hyy, hu, by dsimp only; rw [hen]⟩ (by dsimp only; omega)
        · refine a_iconst (pc := 43) ok dX7_boxOn_43 ?_
          refine a_goto (pc := 44) (tgt := 48) ok dX7_boxOn_44 (by decide) ?_
          refine a_iadd (pc := 48) ok dX7_boxOn_48 ?_
          refine a_istore (pc := 49) ok dX7_boxOn_49 rfl (by rw [hN]; decide) ?_
          refine AW.cast (L2 := [some (.ref 0), some (iv x0), some (iv x1), some (iv y0), some (iv y1), some (iv g), some (iv (rowF c g y x0 (x + 1 - x0).toNat (G1, n1)).2), some (iv y), some (iv x)]) ?_ (by rw [hen]; simp [c40]) rfl rfl
          refine a_iinc (pc := 51) ok dX7_boxOn_51 rfl rfl (by rw [hN]; decide) ?_
          refine a_goto (pc := 54) (tgt := 16) ok dX7_boxOn_54 (by decide) ?_
          exact ih2 (x + 1, up G2 (y * c + x) g, (rowF c g y x0 (x + 1 - x0).toNat (G1, n1)).2) ⟨by dsimp only; omega, by dsimp only; omega, hyy, hu, by dsimp only; rw [hen]⟩ (by dsimp only; omega)
    refine a_iload (pc := 6) ok dX7_boxOn_6 rfl ?_
    refine a_iload (pc := 8) ok dX7_boxOn_8 rfl ?_
    refine a_icmp_gt (pc := 10) (tgt := 63) ok dX7_boxOn_10 (by decide) (by first | omega | (unfold rg; omega) | (simp only [rg] at *; omega) | exact bz_rg _ | grind [rg]) (by first | omega | (unfold rg; omega) | (simp only [rg] at *; omega) | exact bz_rg _ | grind [rg]) (fun c10 => ?_) (fun c10 => ?_)
    · refine a_iload (pc := 63) ok dX7_boxOn_63 rfl ?_
      exact a_iret (pc := 65) ok dX7_boxOn_65 (by rw [show y1 - y0 + 1 = y - y0 by omega, ← he]; exact ⟨rfl, rfl⟩)
    · refine a_iload_n (pc := 13) ok dX7_boxOn_13 rfl ?_
      refine a_istore (pc := 14) ok dX7_boxOn_14 rfl (by rw [hN]; decide) ?_
      exact inner (x0, G1, n1) ⟨by dsimp only; omega, by dsimp only; omega, by omega, hG1, by dsimp only; rw [show (x0 - x0).toNat = 0 by omega]; rfl⟩
  refine a_iconst (pc := 0) ok dX7_boxOn_0 ?_
  refine a_istore (pc := 1) ok dX7_boxOn_1 rfl (by rw [hN]; decide) ?_
  refine a_iload_n (pc := 3) ok dX7_boxOn_3 rfl ?_
  refine a_istore (pc := 4) ok dX7_boxOn_4 rfl (by rw [hN]; decide) ?_
  exact loop (y0, G, 0) ⟨by dsimp only; omega, by dsimp only; omega, hG, by dsimp only; rw [show (y0 - y0).toNat = 0 by omega]; rfl⟩
/-- where a threshold is, or would be -/
def plK (T : Int → Int) (n : Nat) (v : Int) : Int := cntK (fun k => decide (T k < v)) n
theorem plK_spec {n : Nat} {v : Int} (hs : srt T n) : 0 ≤ plK T n v ∧ plK T n v ≤ n ∧ (∀ j : Int, 0 ≤ j → j < plK T n v → T j < v) ∧ (∀ j : Int, plK T n v ≤ j → j < n → v ≤ T j) := by
  have hr := cntK_rg (fun k => decide (T k < v)) n
  have e : plK T n v = cntK (fun k => decide (T k ≤ v - 1)) n := cntK_congr n (fun j _ => by by_cases h : T j < v <;> simp [h] <;> omega)
  have hc := srt_cut (v := v - 1) hs
  rw [← e] at hc
  refine ⟨hr.1, hr.2, fun j h1 h2 => ?_, fun j h1 h2 => ?_⟩
  · have h3 : plK T n v ≤ n := hr.2
    have := (hc j.toNat (by omega)).mpr (by omega)
    rw [Int.toNat_of_nonneg h1] at this; omega
  · have h3 : 0 ≤ plK T n v := hr.1
    have := (hc j.toNat (by omega)).mp
    rw [Int.toNat_of_nonneg (show 0 ≤ j by omega)] at this
    exact Int.le_of_not_gt fun z => by have := this (by omega); omega
theorem plK_there {n : Nat} {v : Int} (hs : srt T n) : hasT T n v = true ↔ (plK T n v < n ∧ T (plK T n v) = v) := by
  obtain ⟨p1, p2, p3, p4⟩ := plK_spec (v := v) hs
  rw [hasT_iff]
  constructor
  · rintro ⟨j, h1, h2⟩
    have e : (j : Int) = plK T n v := by
      rcases Int.lt_trichotomy j (plK T n v) with z | z | z
      · have := p3 j (by omega) z; omega
      · exact z
      · have := hs (plK T n v) j p1 z (by omega); have := p4 (plK T n v) (by omega) (by omega); omega
    exact ⟨by omega, by rw [← e]; exact h2⟩
  · rintro ⟨h1, h2⟩
    exact ⟨(plK T n v).toNat, by omega, by rw [Int.toNat_of_nonneg p1]; exact h2⟩
theorem plK_fst {n : Nat} {v : Int} (hs : srt T n) (h : hasT T n v = true) : fstK (fun k => T k == v) n = plK T n v := by
  have h1 := hasT_at h
  have h2 := (plK_there hs).mp h
  have h3 := (plK_spec (v := v) hs).1
  rcases Int.lt_trichotomy (fstK (fun k => T k == v) n) (plK T n v) with z | z | z
  · have := hs _ _ h1.1 z h2.1; omega
  · exact z
  · have := hs _ _ h3 z h1.2.1; omega
theorem plK_ins {n : Nat} {v : Int} (hs : srt T n) (h : hasT T n v = false) : cntK (fun k => decide (T k ≤ v)) n = plK T n v := by
  refine cntK_congr n (fun j hj => ?_)
  have : T j ≠ v := fun e => by have := (hasT_iff (T := T)).mpr ⟨j, hj, e⟩; rw [h] at this; cases this
  by_cases h : T j < v <;> simp [h] <;> omega
theorem dX7_placeOf_0 : decode cX7_placeOf 0 = .ok (.iconst 0, 1) := by decide +kernel
theorem dX7_placeOf_1 : decode cX7_placeOf 1 = .ok (.istore_n 2, 1) := by decide +kernel
theorem dX7_placeOf_2 : decode cX7_placeOf 2 = .ok (.iload_n 2, 1) := by decide +kernel
theorem dX7_placeOf_3 : decode cX7_placeOf 3 = .ok (.aload_n 0, 1) := by decide +kernel
theorem dX7_placeOf_4 : decode cX7_placeOf 4 = .ok (.iconst 2, 1) := by decide +kernel
theorem dX7_placeOf_5 : decode cX7_placeOf 5 = .ok (.iaload, 1) := by decide +kernel
theorem dX7_placeOf_6 : decode cX7_placeOf 6 = .ok (.if_icmp .ge 18, 3) := by decide +kernel
theorem dX7_placeOf_9 : decode cX7_placeOf 9 = .ok (.aload_n 0, 1) := by decide +kernel
theorem dX7_placeOf_10 : decode cX7_placeOf 10 = .ok (.iconst 3, 1) := by decide +kernel
theorem dX7_placeOf_11 : decode cX7_placeOf 11 = .ok (.iload_n 2, 1) := by decide +kernel
theorem dX7_placeOf_12 : decode cX7_placeOf 12 = .ok (.iadd, 1) := by decide +kernel
theorem dX7_placeOf_13 : decode cX7_placeOf 13 = .ok (.iaload, 1) := by decide +kernel
theorem dX7_placeOf_14 : decode cX7_placeOf 14 = .ok (.iload_n 1, 1) := by decide +kernel
theorem dX7_placeOf_15 : decode cX7_placeOf 15 = .ok (.if_icmp .ge 9, 3) := by decide +kernel
theorem dX7_placeOf_18 : decode cX7_placeOf 18 = .ok (.iinc 2 1, 3) := by decide +kernel
theorem dX7_placeOf_21 : decode cX7_placeOf 21 = .ok (.goto (-19), 3) := by decide +kernel
theorem dX7_placeOf_24 : decode cX7_placeOf 24 = .ok (.iload_n 2, 1) := by decide +kernel
theorem dX7_placeOf_25 : decode cX7_placeOf 25 = .ok (.ireturn, 1) := by decide +kernel
theorem c_placeOf {n : Nat} {v : Int} (hn : n ≤ 5) (hT : ∀ i, 0 ≤ T i ∧ T i ≤ 99) (hs : srt T n) (hv : rg v) : Cd l yX7_placeOf cX7_placeOf 3 (some .int) rmX7_placeOf [.ref 0, iv v] (rwM c r G T n le Hh li) (some (iv (plK T n v))) (rwM c r G T n le Hh li) := by
  refine Ct.of miX7_placeOf (Nat.le_of_ble_eq_true rfl) ?_
  intro X hXl hN ok
  refine AW.cast (L2 := [some (.ref 0), some (iv v), none]) ?_ rfl rfl rfl
  have loop : ∀ k : Nat, (k ≤ n ∧ ∀ j : Nat, j < k → T j < v) → AW X 0 0 2 [some (.ref 0), some (iv v), some (iv k)] [] (rwM c r G T n le Hh li) := by
    refine wfl (fun k : Nat => n - k) _ _ ?_
    rintro k ⟨hk, hj⟩ ih
    have hTk := hT k
    have fin : (k = n ∨ v ≤ T k) → plK T n v = k := fun h => by
      refine cntK_cut n hk (fun j h1 => by simpa using hj j h1) (fun j h1 h2 => ?_)
      have : k < j → T k < T j := fun z => hs k j (by omega) (by omega) (by omega)
      rcases h with h | h
      · omega
      · rcases (show j = k ∨ k < j by omega) with z | z
        · subst z; simp; omega
        · have := this z; simp; omega
    refine a_iload_n (pc := 2) ok dX7_placeOf_2 rfl ?_
    refine a_aload_n (pc := 3) ok dX7_placeOf_3 rfl ?_
    refine a_iconst (pc := 4) ok dX7_placeOf_4 ?_
    refine a_rldN (pc := 5) ok dX7_placeOf_5 rfl ?_
    refine a_icmp_ge (pc := 6) (tgt := 24) ok dX7_placeOf_6 (by decide) (by first | omega | (unfold rg; omega) | (simp only [rg] at *; omega) | exact bz_rg _ | grind [rg]) (by first | omega | (unfold rg; omega) | (simp only [rg] at *; omega) | exact bz_rg _ | grind [rg]) (fun c6 => ?_) (fun c6 => ?_)
    · refine a_iload_n (pc := 24) ok dX7_placeOf_24 rfl ?_
      exact a_iret (pc := 25) ok dX7_placeOf_25 (by rw [fin (by omega)]; exact ⟨rfl, rfl⟩)
    · refine a_aload_n (pc := 9) ok dX7_placeOf_9 rfl ?_
      refine a_iconst (pc := 10) ok dX7_placeOf_10 ?_
      refine a_iload_n (pc := 11) ok dX7_placeOf_11 rfl ?_
      refine a_iadd (pc := 12) ok dX7_placeOf_12 ?_
      refine a_rldT (pc := 13) ok dX7_placeOf_13 rfl rfl (by first | omega | (unfold rg; omega) | (simp only [rg] at *; omega) | exact bz_rg _ | grind [rg]) ?_
      refine a_iload_n (pc := 14) ok dX7_placeOf_14 rfl ?_
      refine a_icmp_ge (pc := 15) (tgt := 24) ok dX7_placeOf_15 (by decide) (by first | omega | (unfold rg; omega) | (simp only [rg] at *; omega) | exact bz_rg _ | grind [rg]) (by first | omega | (unfold rg; omega) | (simp only [rg] at *; omega) | exact bz_rg _ | grind [rg]) (fun c15 => ?_) (fun c15 => ?_)
      · refine a_iload_n (pc := 24) ok dX7_placeOf_24 rfl ?_
        exact a_iret (pc := 25) ok dX7_placeOf_25 (by rw [fin (by omega)]; exact ⟨rfl, rfl⟩)
      · refine a_iinc (pc := 18) ok dX7_placeOf_18 rfl rfl (by rw [hN]; decide) ?_
        refine a_goto (pc := 21) (tgt := 2) ok dX7_placeOf_21 (by decide) ?_
        exact ih (k + 1) ⟨by omega, fun j h1 => by rcases (show j < k ∨ j = k by omega) with z | z; exact hj j z; subst z; omega⟩ (by omega)
  refine a_iconst (pc := 0) ok dX7_placeOf_0 ?_
  refine a_istore_n (pc := 1) ok dX7_placeOf_1 rfl (by rw [hN]; decide) ?_
  exact loop 0 ⟨by omega, fun j h => by omega⟩
theorem dX7_isThere_0 : decode cX7_isThere 0 = .ok (.aload_n 0, 1) := by decide +kernel
theorem dX7_isThere_1 : decode cX7_isThere 1 = .ok (.iload_n 1, 1) := by decide +kernel
theorem dX7_isThere_2 : decode cX7_isThere 2 = .ok (.invokestatic 161, 3) := by decide +kernel
theorem dX7_isThere_5 : decode cX7_isThere 5 = .ok (.istore_n 2, 1) := by decide +kernel
theorem dX7_isThere_6 : decode cX7_isThere 6 = .ok (.iload_n 2, 1) := by decide +kernel
theorem dX7_isThere_7 : decode cX7_isThere 7 = .ok (.aload_n 0, 1) := by decide +kernel
theorem dX7_isThere_8 : decode cX7_isThere 8 = .ok (.iconst 2, 1) := by decide +kernel
theorem dX7_isThere_9 : decode cX7_isThere 9 = .ok (.iaload, 1) := by decide +kernel
theorem dX7_isThere_10 : decode cX7_isThere 10 = .ok (.if_icmp .ge 16, 3) := by decide +kernel
theorem dX7_isThere_13 : decode cX7_isThere 13 = .ok (.aload_n 0, 1) := by decide +kernel
theorem dX7_isThere_14 : decode cX7_isThere 14 = .ok (.iconst 3, 1) := by decide +kernel
theorem dX7_isThere_15 : decode cX7_isThere 15 = .ok (.iload_n 2, 1) := by decide +kernel
theorem dX7_isThere_16 : decode cX7_isThere 16 = .ok (.iadd, 1) := by decide +kernel
theorem dX7_isThere_17 : decode cX7_isThere 17 = .ok (.iaload, 1) := by decide +kernel
theorem dX7_isThere_18 : decode cX7_isThere 18 = .ok (.iload_n 1, 1) := by decide +kernel
theorem dX7_isThere_19 : decode cX7_isThere 19 = .ok (.if_icmp .ne 7, 3) := by decide +kernel
theorem dX7_isThere_22 : decode cX7_isThere 22 = .ok (.iconst 1, 1) := by decide +kernel
theorem dX7_isThere_23 : decode cX7_isThere 23 = .ok (.goto 4, 3) := by decide +kernel
theorem dX7_isThere_26 : decode cX7_isThere 26 = .ok (.iconst 0, 1) := by decide +kernel
theorem dX7_isThere_27 : decode cX7_isThere 27 = .ok (.ireturn, 1) := by decide +kernel
theorem c_isThere {n : Nat} {v : Int} (hn : n ≤ 5) (hT : ∀ i, 0 ≤ T i ∧ T i ≤ 99) (hs : srt T n) (hv : rg v) : Cd l yX7_isThere cX7_isThere 3 (some .boolean) rmX7_isThere [.ref 0, iv v] (rwM c r G T n le Hh li) (some (iv (bz (hasT T n v = true)))) (rwM c r G T n le Hh li) := by
  refine Ct.of miX7_isThere (Nat.le_of_ble_eq_true rfl) ?_
  intro X hXl hN ok
  refine AW.cast (L2 := [some (.ref 0), some (iv v), none]) ?_ rfl rfl rfl
  have hp := plK_spec (v := v) hs
  have hw := plK_there (v := v) hs
  have hTp := hT (plK T n v)
  refine a_aload_n (pc := 0) ok dX7_isThere_0 rfl ?_
  refine a_iload_n (pc := 1) ok dX7_isThere_1 rfl ?_
  refine a_callSp (pc := 2) ok [0] dX7_isThere_2 mv7_161 miX7_placeOf (c_placeOf hn hT hs hv) ⟨by decide, by decide, rfl, rfl, Nat.zero_le _, Nat.zero_le _⟩ rfl rfl (Nat.le_of_ble_eq_true rfl) rfl (by decide) ?_
  refine a_istore_n (pc := 5) ok dX7_isThere_5 rfl (by rw [hN]; decide) ?_
  refine a_iload_n (pc := 6) ok dX7_isThere_6 rfl ?_
  refine a_aload_n (pc := 7) ok dX7_isThere_7 rfl ?_
  refine a_iconst (pc := 8) ok dX7_isThere_8 ?_
  refine a_rldN (pc := 9) ok dX7_isThere_9 rfl ?_
  refine a_icmp_ge (pc := 10) (tgt := 26) ok dX7_isThere_10 (by decide) (by first | omega | (unfold rg; omega) | (simp only [rg] at *; omega) | exact bz_rg _ | grind [rg]) (by first | omega | (unfold rg; omega) | (simp only [rg] at *; omega) | exact bz_rg _ | grind [rg]) (fun c10 => ?_) (fun c10 => ?_)
  · refine a_iconst (pc := 26) ok dX7_isThere_26 ?_
    exact a_zret (pc := 27) ok dX7_isThere_27 (by first | rfl | exact nb_bz _ | decide) (⟨by first | exact congrArg (fun z => some (iv z)) (bz_pos (hw.mpr ⟨by omega, by omega⟩)).symm | exact congrArg (fun z => some (iv z)) (bz_neg (fun z => by have := hw.mp z; omega)).symm, rfl⟩)
  · refine a_aload_n (pc := 13) ok dX7_isThere_13 rfl ?_
    refine a_iconst (pc := 14) ok dX7_isThere_14 ?_
    refine a_iload_n (pc := 15) ok dX7_isThere_15 rfl ?_
    refine a_iadd (pc := 16) ok dX7_isThere_16 ?_
    refine a_rldT (pc := 17) ok dX7_isThere_17 rfl rfl (by first | omega | (unfold rg; omega) | (simp only [rg] at *; omega) | exact bz_rg _ | grind [rg]) ?_
    refine a_iload_n (pc := 18) ok dX7_isThere_18 rfl ?_
    refine a_icmp_ne (pc := 19) (tgt := 26) ok dX7_isThere_19 (by decide) (by first | omega | (unfold rg; omega) | (simp only [rg] at *; omega) | exact bz_rg _ | grind [rg]) (by first | omega | (unfold rg; omega) | (simp only [rg] at *; omega) | exact bz_rg _ | grind [rg]) (fun c19 => ?_) (fun c19 => ?_)
    · refine a_iconst (pc := 26) ok dX7_isThere_26 ?_
      exact a_zret (pc := 27) ok dX7_isThere_27 (by first | rfl | exact nb_bz _ | decide) (⟨by first | exact congrArg (fun z => some (iv z)) (bz_pos (hw.mpr ⟨by omega, by omega⟩)).symm | exact congrArg (fun z => some (iv z)) (bz_neg (fun z => by have := hw.mp z; omega)).symm, rfl⟩)
    · refine a_iconst (pc := 22) ok dX7_isThere_22 ?_
      refine a_goto (pc := 23) (tgt := 27) ok dX7_isThere_23 (by decide) ?_
      exact a_zret (pc := 27) ok dX7_isThere_27 (by first | rfl | exact nb_bz _ | decide) (⟨by first | exact congrArg (fun z => some (iv z)) (bz_pos (hw.mpr ⟨by omega, by omega⟩)).symm | exact congrArg (fun z => some (iv z)) (bz_neg (fun z => by have := hw.mp z; omega)).symm, rfl⟩)
theorem dX7_canPart_0 : decode cX7_canPart 0 = .ok (.iload_n 2, 1) := by decide +kernel
theorem dX7_canPart_1 : decode cX7_canPart 1 = .ok (.ifCond .eq 26, 3) := by decide +kernel
theorem dX7_canPart_4 : decode cX7_canPart 4 = .ok (.aload_n 0, 1) := by decide +kernel
theorem dX7_canPart_5 : decode cX7_canPart 5 = .ok (.iload_n 1, 1) := by decide +kernel
theorem dX7_canPart_6 : decode cX7_canPart 6 = .ok (.invokestatic 164, 3) := by decide +kernel
theorem dX7_canPart_9 : decode cX7_canPart 9 = .ok (.ifCond .ne 14, 3) := by decide +kernel
theorem dX7_canPart_12 : decode cX7_canPart 12 = .ok (.aload_n 0, 1) := by decide +kernel
theorem dX7_canPart_13 : decode cX7_canPart 13 = .ok (.iconst 2, 1) := by decide +kernel
theorem dX7_canPart_14 : decode cX7_canPart 14 = .ok (.iaload, 1) := by decide +kernel
theorem dX7_canPart_15 : decode cX7_canPart 15 = .ok (.iconst 5, 1) := by decide +kernel
theorem dX7_canPart_16 : decode cX7_canPart 16 = .ok (.if_icmp .ge 7, 3) := by decide +kernel
theorem dX7_canPart_19 : decode cX7_canPart 19 = .ok (.iconst 1, 1) := by decide +kernel
theorem dX7_canPart_20 : decode cX7_canPart 20 = .ok (.goto 12, 3) := by decide +kernel
theorem dX7_canPart_23 : decode cX7_canPart 23 = .ok (.iconst 0, 1) := by decide +kernel
theorem dX7_canPart_24 : decode cX7_canPart 24 = .ok (.goto 8, 3) := by decide +kernel
theorem dX7_canPart_27 : decode cX7_canPart 27 = .ok (.aload_n 0, 1) := by decide +kernel
theorem dX7_canPart_28 : decode cX7_canPart 28 = .ok (.iload_n 1, 1) := by decide +kernel
theorem dX7_canPart_29 : decode cX7_canPart 29 = .ok (.invokestatic 164, 3) := by decide +kernel
theorem dX7_canPart_32 : decode cX7_canPart 32 = .ok (.ireturn, 1) := by decide +kernel
theorem c_canPart {n : Nat} {v b : Int} (hn : n ≤ 5) (hT : ∀ i, 0 ≤ T i ∧ T i ≤ 99) (hs : srt T n) (hv : rg v) (hb : rg b) : Cd l yX7_canPart cX7_canPart 3 (some .boolean) rmX7_canPart [.ref 0, iv v, iv b] (rwM c r G T n le Hh li) (some (iv (bz (canT T n v b = true)))) (rwM c r G T n le Hh li) := by
  refine Ct.of miX7_canPart (Nat.le_of_ble_eq_true rfl) ?_
  intro X hXl hN ok
  refine AW.cast (L2 := [some (.ref 0), some (iv v), some (iv b)]) ?_ rfl rfl rfl
  have h0 : b = 0 → bz (hasT T n v = true) = bz (canT T n v b = true) := fun h => by unfold canT; rw [if_pos h]
  have h1 : ¬ b = 0 → ¬ hasT T n v = true → (n : Int) < 5 → canT T n v b = true := fun h h2 h3 => by unfold canT; rw [if_neg h]; simp [h2]; omega
  have h2 : ¬ b = 0 → (hasT T n v = true ∨ ¬ (n : Int) < 5) → ¬ canT T n v b = true := fun h h2 => by
    unfold canT; rw [if_neg h]; simp; intro h3
    rcases h2 with h2 | h2
    · rw [h2] at h3; cases h3
    · omega
  refine a_iload_n (pc := 0) ok dX7_canPart_0 rfl ?_
  refine a_if_eq (pc := 1) (tgt := 27) ok dX7_canPart_1 (by decide) (by first | omega | (unfold rg; omega) | (simp only [rg] at *; omega) | exact bz_rg _ | grind [rg]) (fun c1 => ?_) (fun c1 => ?_)
  · refine a_aload_n (pc := 27) ok dX7_canPart_27 rfl ?_
    refine a_iload_n (pc := 28) ok dX7_canPart_28 rfl ?_
    refine a_callSp (pc := 29) ok [0] dX7_canPart_29 mv7_164 miX7_isThere (c_isThere hn hT hs hv) ⟨by decide, by decide, rfl, rfl, Nat.zero_le _, Nat.zero_le _⟩ rfl rfl (Nat.le_of_ble_eq_true rfl) rfl (by decide) ?_
    exact a_zret (pc := 32) ok dX7_canPart_32 (by first | rfl | exact nb_bz _ | decide) (⟨by first | exact congrArg (fun z => some (iv z)) (h0 (by omega)) | exact congrArg (fun z => some (iv z)) (bz_pos (h1 (by omega) (by rw [bz_0] at *; exact Decidable.not_not.mp (by assumption)) (by omega))).symm | exact congrArg (fun z => some (iv z)) (bz_pos (h1 (by omega) (by rw [bz_0] at *; assumption) (by omega))).symm | exact congrArg (fun z => some (iv z)) (bz_neg (h2 (by omega) (Or.inr (by omega)))).symm | exact congrArg (fun z => some (iv z)) (bz_neg (h2 (by omega) (Or.inl (by rw [bz_0] at *; exact Decidable.not_not.mp (by assumption))))).symm, rfl⟩)
  · refine a_aload_n (pc := 4) ok dX7_canPart_4 rfl ?_
    refine a_iload_n (pc := 5) ok dX7_canPart_5 rfl ?_
    refine a_callSp (pc := 6) ok [0] dX7_canPart_6 mv7_164 miX7_isThere (c_isThere hn hT hs hv) ⟨by decide, by decide, rfl, rfl, Nat.zero_le _, Nat.zero_le _⟩ rfl rfl (Nat.le_of_ble_eq_true rfl) rfl (by decide) ?_
    refine a_if_ne (pc := 9) (tgt := 23) ok dX7_canPart_9 (by decide) (by first | omega | (unfold rg; omega) | (simp only [rg] at *; omega) | exact bz_rg _ | grind [rg]) (fun c9 => ?_) (fun c9 => ?_)
    · refine a_iconst (pc := 23) ok dX7_canPart_23 ?_
      refine a_goto (pc := 24) (tgt := 32) ok dX7_canPart_24 (by decide) ?_
      exact a_zret (pc := 32) ok dX7_canPart_32 (by first | rfl | exact nb_bz _ | decide) (⟨by first | exact congrArg (fun z => some (iv z)) (h0 (by omega)) | exact congrArg (fun z => some (iv z)) (bz_pos (h1 (by omega) (by rw [bz_0] at *; exact Decidable.not_not.mp (by assumption)) (by omega))).symm | exact congrArg (fun z => some (iv z)) (bz_pos (h1 (by omega) (by rw [bz_0] at *; assumption) (by omega))).symm | exact congrArg (fun z => some (iv z)) (bz_neg (h2 (by omega) (Or.inr (by omega)))).symm | exact congrArg (fun z => some (iv z)) (bz_neg (h2 (by omega) (Or.inl (by rw [bz_0] at *; exact Decidable.not_not.mp (by assumption))))).symm, rfl⟩)
    · refine a_aload_n (pc := 12) ok dX7_canPart_12 rfl ?_
      refine a_iconst (pc := 13) ok dX7_canPart_13 ?_
      refine a_rldN (pc := 14) ok dX7_canPart_14 rfl ?_
      refine a_iconst (pc := 15) ok dX7_canPart_15 ?_
      refine a_icmp_ge (pc := 16) (tgt := 23) ok dX7_canPart_16 (by decide) (by first | omega | (unfold rg; omega) | (simp only [rg] at *; omega) | exact bz_rg _ | grind [rg]) (by first | omega | (unfold rg; omega) | (simp only [rg] at *; omega) | exact bz_rg _ | grind [rg]) (fun c16 => ?_) (fun c16 => ?_)
      · refine a_iconst (pc := 23) ok dX7_canPart_23 ?_
        refine a_goto (pc := 24) (tgt := 32) ok dX7_canPart_24 (by decide) ?_
        exact a_zret (pc := 32) ok dX7_canPart_32 (by first | rfl | exact nb_bz _ | decide) (⟨by first | exact congrArg (fun z => some (iv z)) (h0 (by omega)) | exact congrArg (fun z => some (iv z)) (bz_pos (h1 (by omega) (by rw [bz_0] at *; exact Decidable.not_not.mp (by assumption)) (by omega))).symm | exact congrArg (fun z => some (iv z)) (bz_pos (h1 (by omega) (by rw [bz_0] at *; assumption) (by omega))).symm | exact congrArg (fun z => some (iv z)) (bz_neg (h2 (by omega) (Or.inr (by omega)))).symm | exact congrArg (fun z => some (iv z)) (bz_neg (h2 (by omega) (Or.inl (by rw [bz_0] at *; exact Decidable.not_not.mp (by assumption))))).symm, rfl⟩)
      · refine a_iconst (pc := 19) ok dX7_canPart_19 ?_
        refine a_goto (pc := 20) (tgt := 32) ok dX7_canPart_20 (by decide) ?_
        exact a_zret (pc := 32) ok dX7_canPart_32 (by first | rfl | exact nb_bz _ | decide) (⟨by first | exact congrArg (fun z => some (iv z)) (h0 (by omega)) | exact congrArg (fun z => some (iv z)) (bz_pos (h1 (by omega) (by rw [bz_0] at *; exact Decidable.not_not.mp (by assumption)) (by omega))).symm | exact congrArg (fun z => some (iv z)) (bz_pos (h1 (by omega) (by rw [bz_0] at *; assumption) (by omega))).symm | exact congrArg (fun z => some (iv z)) (bz_neg (h2 (by omega) (Or.inr (by omega)))).symm | exact congrArg (fun z => some (iv z)) (bz_neg (h2 (by omega) (Or.inl (by rw [bz_0] at *; exact Decidable.not_not.mp (by assumption))))).symm, rfl⟩)
end MD2
