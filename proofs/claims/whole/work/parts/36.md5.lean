/-! MODEL: what is asked of the islands. -/
section MD7
variable {l : Launch} {rf sz c r : Int} {G T : Int → Int} {le : Int} {Hh : Int → Int} {li ac : Int} {B I : Int → Int} {m : Int} {Fi Co Br Wt mk gy : Int → Int} {sd rt lf wy sp ou : Int} {b : Int → Int}
theorem dX7_otherBands_0 : decode cX7_otherBands 0 = .ok (.iconst 0, 1) := by decide +kernel
theorem dX7_otherBands_1 : decode cX7_otherBands 1 = .ok (.istore_n 2, 1) := by decide +kernel
theorem dX7_otherBands_2 : decode cX7_otherBands 2 = .ok (.iconst 0, 1) := by decide +kernel
theorem dX7_otherBands_3 : decode cX7_otherBands 3 = .ok (.istore_n 3, 1) := by decide +kernel
theorem dX7_otherBands_4 : decode cX7_otherBands 4 = .ok (.iload_n 3, 1) := by decide +kernel
theorem dX7_otherBands_5 : decode cX7_otherBands 5 = .ok (.aload_n 1, 1) := by decide +kernel
theorem dX7_otherBands_6 : decode cX7_otherBands 6 = .ok (.invokestatic 74, 3) := by decide +kernel
theorem dX7_otherBands_9 : decode cX7_otherBands 9 = .ok (.if_icmp .ge 36, 3) := by decide +kernel
theorem dX7_otherBands_12 : decode cX7_otherBands 12 = .ok (.iload_n 2, 1) := by decide +kernel
theorem dX7_otherBands_13 : decode cX7_otherBands 13 = .ok (.aload_n 0, 1) := by decide +kernel
theorem dX7_otherBands_14 : decode cX7_otherBands 14 = .ok (.getfield 29, 3) := by decide +kernel
theorem dX7_otherBands_17 : decode cX7_otherBands 17 = .ok (.iload_n 3, 1) := by decide +kernel
theorem dX7_otherBands_18 : decode cX7_otherBands 18 = .ok (.iaload, 1) := by decide +kernel
theorem dX7_otherBands_19 : decode cX7_otherBands 19 = .ok (.aload_n 1, 1) := by decide +kernel
theorem dX7_otherBands_20 : decode cX7_otherBands 20 = .ok (.aload_n 1, 1) := by decide +kernel
theorem dX7_otherBands_21 : decode cX7_otherBands 21 = .ok (.bipush 16, 2) := by decide +kernel
theorem dX7_otherBands_23 : decode cX7_otherBands 23 = .ok (.iload_n 3, 1) := by decide +kernel
theorem dX7_otherBands_24 : decode cX7_otherBands 24 = .ok (.iadd, 1) := by decide +kernel
theorem dX7_otherBands_25 : decode cX7_otherBands 25 = .ok (.iaload, 1) := by decide +kernel
theorem dX7_otherBands_26 : decode cX7_otherBands 26 = .ok (.invokestatic 89, 3) := by decide +kernel
theorem dX7_otherBands_29 : decode cX7_otherBands 29 = .ok (.if_icmp .ne 7, 3) := by decide +kernel
theorem dX7_otherBands_32 : decode cX7_otherBands 32 = .ok (.iconst 0, 1) := by decide +kernel
theorem dX7_otherBands_33 : decode cX7_otherBands 33 = .ok (.goto 4, 3) := by decide +kernel
theorem dX7_otherBands_36 : decode cX7_otherBands 36 = .ok (.iconst 1, 1) := by decide +kernel
theorem dX7_otherBands_37 : decode cX7_otherBands 37 = .ok (.iadd, 1) := by decide +kernel
theorem dX7_otherBands_38 : decode cX7_otherBands 38 = .ok (.istore_n 2, 1) := by decide +kernel
theorem dX7_otherBands_39 : decode cX7_otherBands 39 = .ok (.iinc 3 1, 3) := by decide +kernel
theorem dX7_otherBands_42 : decode cX7_otherBands 42 = .ok (.goto (-38), 3) := by decide +kernel
theorem dX7_otherBands_45 : decode cX7_otherBands 45 = .ok (.iload_n 2, 1) := by decide +kernel
theorem dX7_otherBands_46 : decode cX7_otherBands 46 = .ok (.ireturn, 1) := by decide +kernel
theorem c_otherBands {n : Nat} (hd : dim c r) (hn : n ≤ 5) (hT : ∀ i, 0 ≤ T i ∧ T i ≤ 99) (hs : srt T n) (hG : ∀ i, rg (G i)) (hJ : JW c r b B I m Fi Co) : Cd l yX7_otherBands cX7_otherBands 4 (some .int) rmX7_otherBands [.ref 0, .ref 1] (mdM rf sz c r G T n le Hh li ac B I m Fi Co Br Wt mk gy sd rt lf wy sp ou) (some (iv (cntK (fun k => decide (b k ≠ bnd T n G k)) (c * r).toNat))) (mdM rf sz c r G T n le Hh li ac B I m Fi Co Br Wt mk gy sd rt lf wy sp ou) := by
  refine Ct.of miX7_otherBands (Nat.le_of_ble_eq_true rfl) ?_
  intro X hXl hN ok
  refine AW.cast (L2 := [some (.ref 0), some (.ref 1), none, none]) ?_ rfl rfl rfl
  have hc := dim_cells hd
  have loop : ∀ k : Nat, (k : Int) ≤ c * r → AW X 0 0 4 [some (.ref 0), some (.ref 1), some (iv (cntK (fun k => decide (b k ≠ bnd T n G k)) k)), some (iv k)] [] (mdM rf sz c r G T n le Hh li ac B I m Fi Co Br Wt mk gy sd rt lf wy sp ou) := by
    refine wfl (fun k : Nat => 145 - k) _ _ ?_
    intro k hk ih
    have hBk := hJ.1 k
    have eBk : (k : Int) < c * r → B k = b k := fun h => hJ.2.2.1 k ⟨by omega, h⟩
    have hbr := cntK_rg (fun j => decide (T j ≤ G k)) n
    have hbd : bandN T n (G k) = cntK (fun j => decide (T j ≤ G k)) n := rfl
    have hb2 : bnd T n G k = bandN T n (G k) := rfl
    have e1 : b k ≠ bnd T n G k → cntK (fun k => decide (b k ≠ bnd T n G k)) k + 1 = cntK (fun k => decide (b k ≠ bnd T n G k)) (k + 1) := fun h => (cntK_t (p := fun k => decide (b k ≠ bnd T n G k)) (decide_eq_true h)).symm
    have e2 : b k = bnd T n G k → cntK (fun k => decide (b k ≠ bnd T n G k)) k + 0 = cntK (fun k => decide (b k ≠ bnd T n G k)) (k + 1) := fun h => by rw [Int.add_zero]; exact (cntK_f (p := fun k => decide (b k ≠ bnd T n G k)) (decide_eq_false (fun z => z h))).symm
    refine a_iload_n (pc := 4) ok dX7_otherBands_4 rfl ?_
    refine a_aload_n (pc := 5) ok dX7_otherBands_5 rfl ?_
    refine a_callSp (pc := 6) ok [1] dX7_otherBands_6 mv7_74 miX7_cells (c_cells) ⟨by decide, by decide, rfl, rfl, Nat.zero_le _, Nat.zero_le _⟩ rfl rfl (Nat.le_of_ble_eq_true rfl) rfl (by decide) ?_
    refine a_icmp_ge (pc := 9) (tgt := 45) ok dX7_otherBands_9 (by decide) (by first | omega | (unfold rg; omega) | (simp only [rg] at *; omega) | exact bz_rg _ | grind [rg]) (by first | omega | (unfold rg; omega) | (simp only [rg] at *; omega) | exact bz_rg _ | grind [rg]) (fun c9 => ?_) (fun c9 => ?_)
    · refine a_iload_n (pc := 45) ok dX7_otherBands_45 rfl ?_
      exact a_iret (pc := 46) ok dX7_otherBands_46 (⟨by rw [show (c * r).toNat = k by omega], rfl⟩)
    · refine a_iload_n (pc := 12) ok dX7_otherBands_12 rfl ?_
      refine a_aload_n (pc := 13) ok dX7_otherBands_13 rfl ?_
      refine a_getf (pc := 14) ok dX7_otherBands_14 fl7_29 rfl rfl ?_
      refine a_iload_n (pc := 17) ok dX7_otherBands_17 rfl ?_
      refine a_iald (pc := 18) ok dX7_otherBands_18 rfl (by first | decide | omega) (by first | omega | (unfold rg; omega) | (simp only [rg] at *; omega) | exact bz_rg _ | grind [rg]) ?_
      refine a_aload_n (pc := 19) ok dX7_otherBands_19 rfl ?_
      refine a_aload_n (pc := 20) ok dX7_otherBands_20 rfl ?_
      refine a_bipush (pc := 21) ok dX7_otherBands_21 (by decide) ?_
      refine a_iload_n (pc := 23) ok dX7_otherBands_23 rfl ?_
      refine a_iadd (pc := 24) ok dX7_otherBands_24 ?_
      refine a_rldG (pc := 25) ok dX7_otherBands_25 rfl rfl (by first | omega | (unfold rg; omega) | (simp only [rg] at *; omega) | exact bz_rg _ | grind [rg]) ?_
      refine a_callSp (pc := 26) ok [1] dX7_otherBands_26 mv7_89 miX7_bandOf (c_bandOf hn hT hs (hG k)) ⟨by decide, by decide, rfl, rfl, Nat.zero_le _, Nat.zero_le _⟩ rfl rfl (Nat.le_of_ble_eq_true rfl) rfl (by decide) ?_
      refine a_icmp_ne (pc := 29) (tgt := 36) ok dX7_otherBands_29 (by decide) (by first | omega | (unfold rg; omega) | (simp only [rg] at *; omega) | exact bz_rg _ | grind [rg]) (by first | omega | (unfold rg; omega) | (simp only [rg] at *; omega) | exact bz_rg _ | grind [rg]) (fun c29 => ?_) (fun c29 => ?_)
      · refine a_iconst (pc := 36) ok dX7_otherBands_36 ?_
        refine a_iadd (pc := 37) ok dX7_otherBands_37 ?_
        refine a_istore_n (pc := 38) ok dX7_otherBands_38 rfl (by rw [hN]; decide) ?_
        refine a_iinc (pc := 39) ok dX7_otherBands_39 rfl rfl (by rw [hN]; decide) ?_
        refine a_goto (pc := 42) (tgt := 4) ok dX7_otherBands_42 (by decide) ?_
        have y := eBk (by omega)
        exact AW.cast (ih (k + 1) (by omega) (by omega)) (by rw [← e1 (by omega)]; rfl) rfl rfl
      · refine a_iconst (pc := 32) ok dX7_otherBands_32 ?_
        refine a_goto (pc := 33) (tgt := 37) ok dX7_otherBands_33 (by decide) ?_
        refine a_iadd (pc := 37) ok dX7_otherBands_37 ?_
        refine a_istore_n (pc := 38) ok dX7_otherBands_38 rfl (by rw [hN]; decide) ?_
        refine a_iinc (pc := 39) ok dX7_otherBands_39 rfl rfl (by rw [hN]; decide) ?_
        refine a_goto (pc := 42) (tgt := 4) ok dX7_otherBands_42 (by decide) ?_
        have y := eBk (by omega)
        exact AW.cast (ih (k + 1) (by omega) (by omega)) (by rw [← e2 (by omega)]; rfl) rfl rfl
  refine a_iconst (pc := 0) ok dX7_otherBands_0 ?_
  refine a_istore_n (pc := 1) ok dX7_otherBands_1 rfl (by rw [hN]; decide) ?_
  refine a_iconst (pc := 2) ok dX7_otherBands_2 ?_
  refine a_istore_n (pc := 3) ok dX7_otherBands_3 rfl (by rw [hN]; decide) ?_
  exact AW.cast (loop 0 (by omega)) rfl rfl rfl
theorem dX7_sidesOf_0 : decode cX7_sidesOf 0 = .ok (.iconst 0, 1) := by decide +kernel
theorem dX7_sidesOf_1 : decode cX7_sidesOf 1 = .ok (.istore_n 3, 1) := by decide +kernel
theorem dX7_sidesOf_2 : decode cX7_sidesOf 2 = .ok (.iconst 0, 1) := by decide +kernel
theorem dX7_sidesOf_3 : decode cX7_sidesOf 3 = .ok (.istore 4, 2) := by decide +kernel
theorem dX7_sidesOf_5 : decode cX7_sidesOf 5 = .ok (.iload 4, 2) := by decide +kernel
theorem dX7_sidesOf_7 : decode cX7_sidesOf 7 = .ok (.iconst 4, 1) := by decide +kernel
theorem dX7_sidesOf_8 : decode cX7_sidesOf 8 = .ok (.if_icmp .ge 48, 3) := by decide +kernel
theorem dX7_sidesOf_11 : decode cX7_sidesOf 11 = .ok (.aload_n 1, 1) := by decide +kernel
theorem dX7_sidesOf_12 : decode cX7_sidesOf 12 = .ok (.iload_n 2, 1) := by decide +kernel
theorem dX7_sidesOf_13 : decode cX7_sidesOf 13 = .ok (.iload 4, 2) := by decide +kernel
theorem dX7_sidesOf_15 : decode cX7_sidesOf 15 = .ok (.invokestatic 81, 3) := by decide +kernel
theorem dX7_sidesOf_18 : decode cX7_sidesOf 18 = .ok (.istore 5, 2) := by decide +kernel
theorem dX7_sidesOf_20 : decode cX7_sidesOf 20 = .ok (.iload_n 3, 1) := by decide +kernel
theorem dX7_sidesOf_21 : decode cX7_sidesOf 21 = .ok (.iload 5, 2) := by decide +kernel
theorem dX7_sidesOf_23 : decode cX7_sidesOf 23 = .ok (.iconst (-1), 1) := by decide +kernel
theorem dX7_sidesOf_24 : decode cX7_sidesOf 24 = .ok (.if_icmp .eq 23, 3) := by decide +kernel
theorem dX7_sidesOf_27 : decode cX7_sidesOf 27 = .ok (.aload_n 0, 1) := by decide +kernel
theorem dX7_sidesOf_28 : decode cX7_sidesOf 28 = .ok (.getfield 32, 3) := by decide +kernel
theorem dX7_sidesOf_31 : decode cX7_sidesOf 31 = .ok (.iload 5, 2) := by decide +kernel
theorem dX7_sidesOf_33 : decode cX7_sidesOf 33 = .ok (.iaload, 1) := by decide +kernel
theorem dX7_sidesOf_34 : decode cX7_sidesOf 34 = .ok (.aload_n 0, 1) := by decide +kernel
theorem dX7_sidesOf_35 : decode cX7_sidesOf 35 = .ok (.getfield 32, 3) := by decide +kernel
theorem dX7_sidesOf_38 : decode cX7_sidesOf 38 = .ok (.iload_n 2, 1) := by decide +kernel
theorem dX7_sidesOf_39 : decode cX7_sidesOf 39 = .ok (.iaload, 1) := by decide +kernel
theorem dX7_sidesOf_40 : decode cX7_sidesOf 40 = .ok (.if_icmp .eq 7, 3) := by decide +kernel
theorem dX7_sidesOf_43 : decode cX7_sidesOf 43 = .ok (.iconst 1, 1) := by decide +kernel
theorem dX7_sidesOf_44 : decode cX7_sidesOf 44 = .ok (.goto 4, 3) := by decide +kernel
theorem dX7_sidesOf_47 : decode cX7_sidesOf 47 = .ok (.iconst 0, 1) := by decide +kernel
theorem dX7_sidesOf_48 : decode cX7_sidesOf 48 = .ok (.iadd, 1) := by decide +kernel
theorem dX7_sidesOf_49 : decode cX7_sidesOf 49 = .ok (.istore_n 3, 1) := by decide +kernel
theorem dX7_sidesOf_50 : decode cX7_sidesOf 50 = .ok (.iinc 4 1, 3) := by decide +kernel
theorem dX7_sidesOf_53 : decode cX7_sidesOf 53 = .ok (.goto (-48), 3) := by decide +kernel
theorem dX7_sidesOf_56 : decode cX7_sidesOf 56 = .ok (.iload_n 3, 1) := by decide +kernel
theorem dX7_sidesOf_57 : decode cX7_sidesOf 57 = .ok (.ireturn, 1) := by decide +kernel
theorem c_sidesOf {n k : Int} (hd : dim c r) (hk : cel c r k) (hJ : JW c r b B I m Fi Co) : Cd l yX7_sidesOf cX7_sidesOf 6 (some .int) rmX7_sidesOf [.ref 0, .ref 1, iv k] (mdM rf sz c r G T n le Hh li ac B I m Fi Co Br Wt mk gy sd rt lf wy sp ou) (some (iv (osK c r b k 4))) (mdM rf sz c r G T n le Hh li ac B I m Fi Co Br Wt mk gy sd rt lf wy sp ou) := by
  refine Ct.of miX7_sidesOf (Nat.le_of_ble_eq_true rfl) ?_
  intro X hXl hN ok
  refine AW.cast (L2 := [some (.ref 0), some (.ref 1), some (iv k), none, none, none]) ?_ rfl rfl rfl
  obtain ⟨j1, j2, j3, j4, j5, j6⟩ := hJ
  have hc := dim_cells hd
  have a1 := hk.1
  have a2 := hk.2
  have h1 := j4 k hk
  have r1 := j2 k
  have hlk := lw_ok (B := b) hd hk
  have loop : ∀ w : Nat, w ≤ 4 → AW X 0 0 5 [some (.ref 0), some (.ref 1), some (iv k), some (iv (osK c r b k w)), some (iv w), none] [] (mdM rf sz c r G T n le Hh li ac B I m Fi Co Br Wt mk gy sd rt lf wy sp ou) := by
    refine wfl (fun w : Nat => 5 - w) _ _ ?_
    intro w hw ih
    have hn : w < 4 → nb c r k w ≠ -1 → cel c r (nb c r k w) := fun h h2 => (nb_back hd hk (by omega) h2).1
    have hnr : -1 ≤ nb c r k w ∧ nb c r k w < c * r := nb_rg (w := w) hd hk
    have r2 := j2 (nb c r k w)
    have hii : w < 4 → nb c r k w ≠ -1 → (I (nb c r k w) = I k ↔ lw c r b (nb c r k w) = lw c r b k) := fun h h2 => by
      have hx := hn h h2
      rw [j4 _ hx, h1]
      exact ⟨fun z => rk_inj (lw_ok hd hx).1 (lw_lw hd hx) hlk.1 (lw_lw hd hk) z, fun z => by rw [z]⟩
    have e1 : nb c r k w ≠ -1 ∧ lw c r b (nb c r k w) ≠ lw c r b k → osK c r b k w + 1 = osK c r b k (w + 1) := fun h => (cntK_t (p := fun w => decide (nb c r k w ≠ -1 ∧ lw c r b (nb c r k w) ≠ lw c r b k)) (decide_eq_true h)).symm
    have e2 : ¬ (nb c r k w ≠ -1 ∧ lw c r b (nb c r k w) ≠ lw c r b k) → osK c r b k w + 0 = osK c r b k (w + 1) := fun h => by rw [Int.add_zero]; exact (cntK_f (p := fun w => decide (nb c r k w ≠ -1 ∧ lw c r b (nb c r k w) ≠ lw c r b k)) (decide_eq_false h)).symm
    refine a_iload (pc := 5) ok dX7_sidesOf_5 rfl ?_
    refine a_iconst (pc := 7) ok dX7_sidesOf_7 ?_
    refine a_icmp_ge (pc := 8) (tgt := 56) ok dX7_sidesOf_8 (by decide) (by first | omega | (unfold rg; omega) | (simp only [rg] at *; omega) | exact bz_rg _ | grind [rg]) (by first | omega | (unfold rg; omega) | (simp only [rg] at *; omega) | exact bz_rg _ | grind [rg]) (fun c8 => ?_) (fun c8 => ?_)
    · refine a_iload_n (pc := 56) ok dX7_sidesOf_56 rfl ?_
      exact a_iret (pc := 57) ok dX7_sidesOf_57 (⟨by rw [show w = 4 by omega], rfl⟩)
    · refine a_aload_n (pc := 11) ok dX7_sidesOf_11 rfl ?_
      refine a_iload_n (pc := 12) ok dX7_sidesOf_12 rfl ?_
      refine a_iload (pc := 13) ok dX7_sidesOf_13 rfl ?_
      refine a_callSp (pc := 15) ok [1] dX7_sidesOf_15 mv7_81 miX7_next (c_next hd hk (by omega)) ⟨by decide, by decide, rfl, rfl, Nat.zero_le _, Nat.zero_le _⟩ rfl rfl (Nat.le_of_ble_eq_true rfl) rfl (by decide) ?_
      refine a_istore (pc := 18) ok dX7_sidesOf_18 rfl (by rw [hN]; decide) ?_
      refine a_iload_n (pc := 20) ok dX7_sidesOf_20 rfl ?_
      refine a_iload (pc := 21) ok dX7_sidesOf_21 rfl ?_
      refine a_iconst (pc := 23) ok dX7_sidesOf_23 ?_
      refine a_icmp_eq (pc := 24) (tgt := 47) ok dX7_sidesOf_24 (by decide) (by first | omega | (unfold rg; omega) | (simp only [rg] at *; omega) | exact bz_rg _ | grind [rg]) (by first | omega | (unfold rg; omega) | (simp only [rg] at *; omega) | exact bz_rg _ | grind [rg]) (fun c24 => ?_) (fun c24 => ?_)
      · refine a_iconst (pc := 47) ok dX7_sidesOf_47 ?_
        refine a_iadd (pc := 48) ok dX7_sidesOf_48 ?_
        refine a_istore_n (pc := 49) ok dX7_sidesOf_49 rfl (by rw [hN]; decide) ?_
        refine a_iinc (pc := 50) ok dX7_sidesOf_50 rfl rfl (by rw [hN]; decide) ?_
        refine a_goto (pc := 53) (tgt := 5) ok dX7_sidesOf_53 (by decide) ?_
        exact AW.forget (L2 := [some (.ref 0), some (.ref 1), some (iv k), some (iv (osK c r b k w + 0)), some (iv (w + 1)), none]) (AW.cast (ih (w + 1) (by omega) (by omega)) (by rw [← e2 (fun z => z.1 c24)]; rfl) rfl rfl) (by repeat' (first | exact trivial | refine ⟨rfl, ?_⟩))
      · refine a_aload_n (pc := 27) ok dX7_sidesOf_27 rfl ?_
        refine a_getf (pc := 28) ok dX7_sidesOf_28 fl7_32 rfl rfl ?_
        refine a_iload (pc := 31) ok dX7_sidesOf_31 rfl ?_
        refine a_iald (pc := 33) ok dX7_sidesOf_33 rfl (by first | decide | omega) (by first | omega | (unfold rg; omega) | (simp only [rg] at *; omega) | exact bz_rg _ | grind [rg]) ?_
        refine a_aload_n (pc := 34) ok dX7_sidesOf_34 rfl ?_
        refine a_getf (pc := 35) ok dX7_sidesOf_35 fl7_32 rfl rfl ?_
        refine a_iload_n (pc := 38) ok dX7_sidesOf_38 rfl ?_
        refine a_iald (pc := 39) ok dX7_sidesOf_39 rfl (by first | decide | omega) (by first | omega | (unfold rg; omega) | (simp only [rg] at *; omega) | exact bz_rg _ | grind [rg]) ?_
        refine a_icmp_eq (pc := 40) (tgt := 47) ok dX7_sidesOf_40 (by decide) (by first | omega | (unfold rg; omega) | (simp only [rg] at *; omega) | exact bz_rg _ | grind [rg]) (by first | omega | (unfold rg; omega) | (simp only [rg] at *; omega) | exact bz_rg _ | grind [rg]) (fun c40 => ?_) (fun c40 => ?_)
        · refine a_iconst (pc := 47) ok dX7_sidesOf_47 ?_
          refine a_iadd (pc := 48) ok dX7_sidesOf_48 ?_
          refine a_istore_n (pc := 49) ok dX7_sidesOf_49 rfl (by rw [hN]; decide) ?_
          refine a_iinc (pc := 50) ok dX7_sidesOf_50 rfl rfl (by rw [hN]; decide) ?_
          refine a_goto (pc := 53) (tgt := 5) ok dX7_sidesOf_53 (by decide) ?_
          exact AW.forget (L2 := [some (.ref 0), some (.ref 1), some (iv k), some (iv (osK c r b k w + 0)), some (iv (w + 1)), none]) (AW.cast (ih (w + 1) (by omega) (by omega)) (by rw [← e2 (fun z => z.2 ((hii (by omega) c24).mp c40))]; rfl) rfl rfl) (by repeat' (first | exact trivial | refine ⟨rfl, ?_⟩))
        · refine a_iconst (pc := 43) ok dX7_sidesOf_43 ?_
          refine a_goto (pc := 44) (tgt := 48) ok dX7_sidesOf_44 (by decide) ?_
          refine a_iadd (pc := 48) ok dX7_sidesOf_48 ?_
          refine a_istore_n (pc := 49) ok dX7_sidesOf_49 rfl (by rw [hN]; decide) ?_
          refine a_iinc (pc := 50) ok dX7_sidesOf_50 rfl rfl (by rw [hN]; decide) ?_
          refine a_goto (pc := 53) (tgt := 5) ok dX7_sidesOf_53 (by decide) ?_
          exact AW.forget (L2 := [some (.ref 0), some (.ref 1), some (iv k), some (iv (osK c r b k w + 1)), some (iv (w + 1)), none]) (AW.cast (ih (w + 1) (by omega) (by omega)) (by rw [← e1 ⟨c24, fun z => c40 ((hii (by omega) c24).mpr z)⟩]; rfl) rfl rfl) (by repeat' (first | exact trivial | refine ⟨rfl, ?_⟩))
  refine a_iconst (pc := 0) ok dX7_sidesOf_0 ?_
  refine a_istore_n (pc := 1) ok dX7_sidesOf_1 rfl (by rw [hN]; decide) ?_
  refine a_iconst (pc := 2) ok dX7_sidesOf_2 ?_
  refine a_istore (pc := 3) ok dX7_sidesOf_3 rfl (by rw [hN]; decide) ?_
  exact AW.cast (loop 0 (by omega)) rfl rfl rfl
theorem dX7_allSides_0 : decode cX7_allSides 0 = .ok (.iconst 0, 1) := by decide +kernel
theorem dX7_allSides_1 : decode cX7_allSides 1 = .ok (.istore_n 2, 1) := by decide +kernel
theorem dX7_allSides_2 : decode cX7_allSides 2 = .ok (.iconst 0, 1) := by decide +kernel
theorem dX7_allSides_3 : decode cX7_allSides 3 = .ok (.istore_n 3, 1) := by decide +kernel
theorem dX7_allSides_4 : decode cX7_allSides 4 = .ok (.iload_n 3, 1) := by decide +kernel
theorem dX7_allSides_5 : decode cX7_allSides 5 = .ok (.aload_n 1, 1) := by decide +kernel
theorem dX7_allSides_6 : decode cX7_allSides 6 = .ok (.invokestatic 74, 3) := by decide +kernel
theorem dX7_allSides_9 : decode cX7_allSides 9 = .ok (.if_icmp .ge 18, 3) := by decide +kernel
theorem dX7_allSides_12 : decode cX7_allSides 12 = .ok (.iload_n 2, 1) := by decide +kernel
theorem dX7_allSides_13 : decode cX7_allSides 13 = .ok (.aload_n 0, 1) := by decide +kernel
theorem dX7_allSides_14 : decode cX7_allSides 14 = .ok (.aload_n 1, 1) := by decide +kernel
theorem dX7_allSides_15 : decode cX7_allSides 15 = .ok (.iload_n 3, 1) := by decide +kernel
theorem dX7_allSides_16 : decode cX7_allSides 16 = .ok (.invokevirtual 116, 3) := by decide +kernel
theorem dX7_allSides_19 : decode cX7_allSides 19 = .ok (.iadd, 1) := by decide +kernel
theorem dX7_allSides_20 : decode cX7_allSides 20 = .ok (.istore_n 2, 1) := by decide +kernel
theorem dX7_allSides_21 : decode cX7_allSides 21 = .ok (.iinc 3 1, 3) := by decide +kernel
theorem dX7_allSides_24 : decode cX7_allSides 24 = .ok (.goto (-20), 3) := by decide +kernel
theorem dX7_allSides_27 : decode cX7_allSides 27 = .ok (.iload_n 2, 1) := by decide +kernel
theorem dX7_allSides_28 : decode cX7_allSides 28 = .ok (.iconst 2, 1) := by decide +kernel
theorem dX7_allSides_29 : decode cX7_allSides 29 = .ok (.idiv, 1) := by decide +kernel
theorem dX7_allSides_30 : decode cX7_allSides 30 = .ok (.ireturn, 1) := by decide +kernel
theorem c_mallSides {n : Int} (hd : dim c r) (hJ : JW c r b B I m Fi Co) : Cd l yX7_allSides cX7_allSides 4 (some .int) rmX7_allSides [.ref 0, .ref 1] (mdM rf sz c r G T n le Hh li ac B I m Fi Co Br Wt mk gy sd rt lf wy sp ou) (some (iv (asK c r b (c * r).toNat / 2))) (mdM rf sz c r G T n le Hh li ac B I m Fi Co Br Wt mk gy sd rt lf wy sp ou) := by
  refine Ct.of miX7_allSides (Nat.le_of_ble_eq_true rfl) ?_
  intro X hXl hN ok
  refine AW.cast (L2 := [some (.ref 0), some (.ref 1), none, none]) ?_ rfl rfl rfl
  have hc := dim_cells hd
  have loop : ∀ k : Nat, (k : Int) ≤ c * r → AW X 0 0 4 [some (.ref 0), some (.ref 1), some (iv (asK c r b k)), some (iv k)] [] (mdM rf sz c r G T n le Hh li ac B I m Fi Co Br Wt mk gy sd rt lf wy sp ou) := by
    refine wfl (fun k : Nat => 145 - k) _ _ ?_
    intro k hk ih
    have hr := asK_rg (c := c) (r := r) (b := b) k
    refine a_iload_n (pc := 4) ok dX7_allSides_4 rfl ?_
    refine a_aload_n (pc := 5) ok dX7_allSides_5 rfl ?_
    refine a_callSp (pc := 6) ok [1] dX7_allSides_6 mv7_74 miX7_cells (c_cells) ⟨by decide, by decide, rfl, rfl, Nat.zero_le _, Nat.zero_le _⟩ rfl rfl (Nat.le_of_ble_eq_true rfl) rfl (by decide) ?_
    refine a_icmp_ge (pc := 9) (tgt := 27) ok dX7_allSides_9 (by decide) (by first | omega | (unfold rg; omega) | (simp only [rg] at *; omega) | exact bz_rg _ | grind [rg]) (by first | omega | (unfold rg; omega) | (simp only [rg] at *; omega) | exact bz_rg _ | grind [rg]) (fun c9 => ?_) (fun c9 => ?_)
    · refine a_iload_n (pc := 27) ok dX7_allSides_27 rfl ?_
      refine a_iconst (pc := 28) ok dX7_allSides_28 ?_
      refine a_idiv (pc := 29) ok dX7_allSides_29 (by first | omega | (unfold rg; omega) | (simp only [rg] at *; omega) | exact bz_rg _ | grind [rg]) (by first | omega | (unfold rg; omega) | (simp only [rg] at *; omega) | exact bz_rg _ | grind [rg]) ?_
      exact a_iret (pc := 30) ok dX7_allSides_30 (⟨by rw [show (c * r).toNat = k by omega], rfl⟩)
    · refine a_iload_n (pc := 12) ok dX7_allSides_12 rfl ?_
      refine a_aload_n (pc := 13) ok dX7_allSides_13 rfl ?_
      refine a_aload_n (pc := 14) ok dX7_allSides_14 rfl ?_
      refine a_iload_n (pc := 15) ok dX7_allSides_15 rfl ?_
      refine x_callVp (pc := 16) ok [0, 1, 2, 3, 4, 5, 6, 7, 8, 9, 10, 11, 12, 13, 14, 15, 16] 10 dX7_allSides_16 mv7_116 miX7_sidesOf (c_sidesOf hd ⟨by omega, by omega⟩ hJ) ⟨by decide, by decide, rfl, rfl, Nat.zero_le _, Nat.zero_le _⟩ rfl rfl (Nat.le_of_ble_eq_true rfl) rfl rfl (by decide) rfl rfl ?_
      refine a_iadd (pc := 19) ok dX7_allSides_19 ?_
      refine a_istore_n (pc := 20) ok dX7_allSides_20 rfl (by rw [hN]; decide) ?_
      refine a_iinc (pc := 21) ok dX7_allSides_21 rfl rfl (by rw [hN]; decide) ?_
      refine a_goto (pc := 24) (tgt := 4) ok dX7_allSides_24 (by decide) ?_
      exact AW.cast (ih (k + 1) (by omega) (by omega)) rfl rfl rfl
  refine a_iconst (pc := 0) ok dX7_allSides_0 ?_
  refine a_istore_n (pc := 1) ok dX7_allSides_1 rfl (by rw [hN]; decide) ?_
  refine a_iconst (pc := 2) ok dX7_allSides_2 ?_
  refine a_istore_n (pc := 3) ok dX7_allSides_3 rfl (by rw [hN]; decide) ?_
  exact AW.cast (loop 0 (by omega)) rfl rfl rfl
theorem dX7_inkOf_0 : decode cX7_inkOf 0 = .ok (.aload_n 1, 1) := by decide +kernel
theorem dX7_inkOf_1 : decode cX7_inkOf 1 = .ok (.bipush 15, 2) := by decide +kernel
theorem dX7_inkOf_3 : decode cX7_inkOf 3 = .ok (.iaload, 1) := by decide +kernel
theorem dX7_inkOf_4 : decode cX7_inkOf 4 = .ok (.aload_n 0, 1) := by decide +kernel
theorem dX7_inkOf_5 : decode cX7_inkOf 5 = .ok (.aload_n 1, 1) := by decide +kernel
theorem dX7_inkOf_6 : decode cX7_inkOf 6 = .ok (.invokevirtual 119, 3) := by decide +kernel
theorem dX7_inkOf_9 : decode cX7_inkOf 9 = .ok (.imul, 1) := by decide +kernel
theorem dX7_inkOf_10 : decode cX7_inkOf 10 = .ok (.istore_n 2, 1) := by decide +kernel
theorem dX7_inkOf_11 : decode cX7_inkOf 11 = .ok (.iconst 0, 1) := by decide +kernel
theorem dX7_inkOf_12 : decode cX7_inkOf 12 = .ok (.istore_n 3, 1) := by decide +kernel
theorem dX7_inkOf_13 : decode cX7_inkOf 13 = .ok (.iload_n 3, 1) := by decide +kernel
theorem dX7_inkOf_14 : decode cX7_inkOf 14 = .ok (.aload_n 1, 1) := by decide +kernel
theorem dX7_inkOf_15 : decode cX7_inkOf 15 = .ok (.invokestatic 74, 3) := by decide +kernel
theorem dX7_inkOf_18 : decode cX7_inkOf 18 = .ok (.if_icmp .ge 23, 3) := by decide +kernel
theorem dX7_inkOf_21 : decode cX7_inkOf 21 = .ok (.iload_n 2, 1) := by decide +kernel
theorem dX7_inkOf_22 : decode cX7_inkOf 22 = .ok (.aload_n 1, 1) := by decide +kernel
theorem dX7_inkOf_23 : decode cX7_inkOf 23 = .ok (.bipush 9, 2) := by decide +kernel
theorem dX7_inkOf_25 : decode cX7_inkOf 25 = .ok (.aload_n 0, 1) := by decide +kernel
theorem dX7_inkOf_26 : decode cX7_inkOf 26 = .ok (.getfield 29, 3) := by decide +kernel
theorem dX7_inkOf_29 : decode cX7_inkOf 29 = .ok (.iload_n 3, 1) := by decide +kernel
theorem dX7_inkOf_30 : decode cX7_inkOf 30 = .ok (.iaload, 1) := by decide +kernel
theorem dX7_inkOf_31 : decode cX7_inkOf 31 = .ok (.iadd, 1) := by decide +kernel
theorem dX7_inkOf_32 : decode cX7_inkOf 32 = .ok (.iaload, 1) := by decide +kernel
theorem dX7_inkOf_33 : decode cX7_inkOf 33 = .ok (.iadd, 1) := by decide +kernel
theorem dX7_inkOf_34 : decode cX7_inkOf 34 = .ok (.istore_n 2, 1) := by decide +kernel
theorem dX7_inkOf_35 : decode cX7_inkOf 35 = .ok (.iinc 3 1, 3) := by decide +kernel
theorem dX7_inkOf_38 : decode cX7_inkOf 38 = .ok (.goto (-25), 3) := by decide +kernel
theorem dX7_inkOf_41 : decode cX7_inkOf 41 = .ok (.iload_n 2, 1) := by decide +kernel
theorem dX7_inkOf_42 : decode cX7_inkOf 42 = .ok (.ireturn, 1) := by decide +kernel
theorem c_inkOf {n : Int} (hd : dim c r) (hJ : JW c r b B I m Fi Co) : Cd l yX7_inkOf cX7_inkOf 4 (some .int) rmX7_inkOf [.ref 0, .ref 1] (mdM rf sz c r G T n le Hh li ac B I m Fi Co Br Wt mk gy sd rt lf wy sp ou) (some (iv (inkF c r b Hh li))) (mdM rf sz c r G T n le Hh li ac B I m Fi Co Br Wt mk gy sd rt lf wy sp ou) := by
  refine Ct.of miX7_inkOf (Nat.le_of_ble_eq_true rfl) ?_
  intro X hXl hN ok
  refine AW.cast (L2 := [some (.ref 0), some (.ref 1), none, none]) ?_ rfl rfl rfl
  have hc := dim_cells hd
  have loop : ∀ k : Nat, (k : Int) ≤ c * r → AW X 0 0 13 [some (.ref 0), some (.ref 1), some (iv (li * (asK c r b (c * r).toNat / 2) + sumK (fun k => Hh (b k)) k)), some (iv k)] [] (mdM rf sz c r G T n le Hh li ac B I m Fi Co Br Wt mk gy sd rt lf wy sp ou) := by
    refine wfl (fun k : Nat => 145 - k) _ _ ?_
    intro k hk ih
    have hBk := hJ.1 k
    have eBk : (k : Int) < c * r → B k = b k := fun h => hJ.2.2.1 k ⟨by omega, h⟩
    refine a_iload_n (pc := 13) ok dX7_inkOf_13 rfl ?_
    refine a_aload_n (pc := 14) ok dX7_inkOf_14 rfl ?_
    refine a_callSp (pc := 15) ok [1] dX7_inkOf_15 mv7_74 miX7_cells (c_cells) ⟨by decide, by decide, rfl, rfl, Nat.zero_le _, Nat.zero_le _⟩ rfl rfl (Nat.le_of_ble_eq_true rfl) rfl (by decide) ?_
    refine a_icmp_ge (pc := 18) (tgt := 41) ok dX7_inkOf_18 (by decide) (by first | omega | (unfold rg; omega) | (simp only [rg] at *; omega) | exact bz_rg _ | grind [rg]) (by first | omega | (unfold rg; omega) | (simp only [rg] at *; omega) | exact bz_rg _ | grind [rg]) (fun c18 => ?_) (fun c18 => ?_)
    · refine a_iload_n (pc := 41) ok dX7_inkOf_41 rfl ?_
      exact a_iret (pc := 42) ok dX7_inkOf_42 (⟨by unfold inkF; rw [show sumK (fun k => Hh (b k)) (c * r).toNat = sumK (fun k => Hh (b k)) k by rw [show (c * r).toNat = k by omega]], rfl⟩)
    · refine a_iload_n (pc := 21) ok dX7_inkOf_21 rfl ?_
      refine a_aload_n (pc := 22) ok dX7_inkOf_22 rfl ?_
      refine a_bipush (pc := 23) ok dX7_inkOf_23 (by decide) ?_
      refine a_aload_n (pc := 25) ok dX7_inkOf_25 rfl ?_
      refine a_getf (pc := 26) ok dX7_inkOf_26 fl7_29 rfl rfl ?_
      refine a_iload_n (pc := 29) ok dX7_inkOf_29 rfl ?_
      refine a_iald (pc := 30) ok dX7_inkOf_30 rfl (by first | decide | omega) (by first | omega | (unfold rg; omega) | (simp only [rg] at *; omega) | exact bz_rg _ | grind [rg]) ?_
      refine a_iadd (pc := 31) ok dX7_inkOf_31 ?_
      refine a_rldH (pc := 32) (b := B k) ok dX7_inkOf_32 rfl (by omega) (by first | omega | (unfold rg; omega) | (simp only [rg] at *; omega) | exact bz_rg _ | grind [rg]) ?_
      refine a_iadd (pc := 33) ok dX7_inkOf_33 ?_
      refine a_istore_n (pc := 34) ok dX7_inkOf_34 rfl (by rw [hN]; decide) ?_
      refine a_iinc (pc := 35) ok dX7_inkOf_35 rfl rfl (by rw [hN]; decide) ?_
      refine a_goto (pc := 38) (tgt := 13) ok dX7_inkOf_38 (by decide) ?_
      exact AW.cast (ih (k + 1) (by omega) (by omega)) (by rw [eBk (by omega), Int.add_assoc]; rfl) rfl rfl
  refine a_aload_n (pc := 0) ok dX7_inkOf_0 rfl ?_
  refine a_bipush (pc := 1) ok dX7_inkOf_1 (by decide) ?_
  refine a_rldL (pc := 3) ok dX7_inkOf_3 rfl ?_
  refine a_aload_n (pc := 4) ok dX7_inkOf_4 rfl ?_
  refine a_aload_n (pc := 5) ok dX7_inkOf_5 rfl ?_
  refine x_callVp (pc := 6) ok [0, 1, 2, 3, 4, 5, 6, 7, 8, 9, 10, 11, 12, 13, 14, 15, 16] 10 dX7_inkOf_6 mv7_119 miX7_allSides (c_mallSides hd hJ) ⟨by decide, by decide, rfl, rfl, Nat.zero_le _, Nat.zero_le _⟩ rfl rfl (Nat.le_of_ble_eq_true rfl) rfl rfl (by decide) rfl rfl ?_
  refine a_imul (pc := 9) ok dX7_inkOf_9 ?_
  refine a_istore_n (pc := 10) ok dX7_inkOf_10 rfl (by rw [hN]; decide) ?_
  refine a_iconst (pc := 11) ok dX7_inkOf_11 ?_
  refine a_istore_n (pc := 12) ok dX7_inkOf_12 rfl (by rw [hN]; decide) ?_
  exact AW.cast (loop 0 (by omega)) (by rw [show sumK (fun k => Hh (b k)) 0 = 0 from rfl, Int.add_zero]; rfl) rfl rfl
theorem dX7_noMarks_0 : decode cX7_noMarks 0 = .ok (.iconst 0, 1) := by decide +kernel
theorem dX7_noMarks_1 : decode cX7_noMarks 1 = .ok (.istore_n 1, 1) := by decide +kernel
theorem dX7_noMarks_2 : decode cX7_noMarks 2 = .ok (.iload_n 1, 1) := by decide +kernel
theorem dX7_noMarks_3 : decode cX7_noMarks 3 = .ok (.sipush 144, 3) := by decide +kernel
theorem dX7_noMarks_6 : decode cX7_noMarks 6 = .ok (.if_icmp .ge 16, 3) := by decide +kernel
theorem dX7_noMarks_9 : decode cX7_noMarks 9 = .ok (.aload_n 0, 1) := by decide +kernel
theorem dX7_noMarks_10 : decode cX7_noMarks 10 = .ok (.getfield 47, 3) := by decide +kernel
theorem dX7_noMarks_13 : decode cX7_noMarks 13 = .ok (.iload_n 1, 1) := by decide +kernel
theorem dX7_noMarks_14 : decode cX7_noMarks 14 = .ok (.iconst 0, 1) := by decide +kernel
theorem dX7_noMarks_15 : decode cX7_noMarks 15 = .ok (.iastore, 1) := by decide +kernel
theorem dX7_noMarks_16 : decode cX7_noMarks 16 = .ok (.iinc 1 1, 3) := by decide +kernel
theorem dX7_noMarks_19 : decode cX7_noMarks 19 = .ok (.goto (-17), 3) := by decide +kernel
theorem dX7_noMarks_22 : decode cX7_noMarks 22 = .ok (.return_, 1) := by decide +kernel
theorem c_noMarks {n : Int} : Cd l yX7_noMarks cX7_noMarks 2 none rmX7_noMarks [.ref 0] (mdM rf sz c r G T n le Hh li ac B I m Fi Co Br Wt mk gy sd rt lf wy sp ou) none (mdM rf sz c r G T n le Hh li ac B I m Fi Co Br Wt (fun _ => 0) gy sd rt lf wy sp ou) := by
  refine Ct.of miX7_noMarks (Nat.le_of_ble_eq_true rfl) ?_
  intro X hXl hN ok
  refine AW.cast (L2 := [some (.ref 0), none]) ?_ rfl rfl rfl
  have loop : ∀ k : Nat, k ≤ 144 → AW X 0 0 2 [some (.ref 0), some (iv k)] [] (mdM rf sz c r G T n le Hh li ac B I m Fi Co Br Wt (fun j => if j < k then 0 else mk j) gy sd rt lf wy sp ou) := by
    refine wfl (fun k : Nat => 145 - k) _ _ ?_
    intro k hk ih
    have e : up (fun j => if j < (k : Int) then 0 else mk j) k 0 = (fun j => if j < ((k + 1 : Nat) : Int) then 0 else mk j) := by
      funext j
      unfold up
      by_cases h : j = k
      · rw [if_pos h, if_pos (by omega)]
      · rw [if_neg h]
        dsimp only
        by_cases h2 : j < (k : Int)
        · rw [if_pos h2, if_pos (by omega)]
        · rw [if_neg h2, if_neg (by omega)]
    refine a_iload_n (pc := 2) ok dX7_noMarks_2 rfl ?_
    refine a_sipush (pc := 3) ok dX7_noMarks_3 (by decide) ?_
    refine a_icmp_ge (pc := 6) (tgt := 22) ok dX7_noMarks_6 (by decide) (by first | omega | (unfold rg; omega) | (simp only [rg] at *; omega) | exact bz_rg _ | grind [rg]) (by first | omega | (unfold rg; omega) | (simp only [rg] at *; omega) | exact bz_rg _ | grind [rg]) (fun c6 => ?_) (fun c6 => ?_)
    · refine AW.ext (q := 8) (g := fun _ => 0) rfl (fun j _ _ => if_pos (by omega)) ?_
      exact a_vret (pc := 22) ok dX7_noMarks_22 (⟨rfl, rfl⟩)
    · refine a_aload_n (pc := 9) ok dX7_noMarks_9 rfl ?_
      refine a_getf (pc := 10) ok dX7_noMarks_10 fl7_47 rfl rfl ?_
      refine a_iload_n (pc := 13) ok dX7_noMarks_13 rfl ?_
      refine a_iconst (pc := 14) ok dX7_noMarks_14 ?_
      refine a_iast (pc := 15) ok dX7_noMarks_15 rfl (by first | decide | omega) (by first | omega | (unfold rg; omega) | (simp only [rg] at *; omega) | exact bz_rg _ | grind [rg]) ?_
      refine a_iinc (pc := 16) ok dX7_noMarks_16 rfl rfl (by rw [hN]; decide) ?_
      refine a_goto (pc := 19) (tgt := 2) ok dX7_noMarks_19 (by decide) ?_
      exact AW.cast (ih (k + 1) (by omega) (by omega)) rfl rfl (congrArg (fun f => (mdM rf sz c r G T n le Hh li ac B I m Fi Co Br Wt (f) gy sd rt lf wy sp ou)) e)
  refine a_iconst (pc := 0) ok dX7_noMarks_0 ?_
  refine a_istore_n (pc := 1) ok dX7_noMarks_1 rfl (by rw [hN]; decide) ?_
  refine AW.ext (q := 8) (g := fun j => if j < ((0 : Nat) : Int) then 0 else mk j) rfl (fun j h _ => (if_neg (by omega)).symm) ?_
  exact loop 0 (by omega)
theorem dX7_floodHole_0 : decode cX7_floodHole 0 = .ok (.iconst 0, 1) := by decide +kernel
theorem dX7_floodHole_1 : decode cX7_floodHole 1 = .ok (.istore 4, 2) := by decide +kernel
theorem dX7_floodHole_3 : decode cX7_floodHole 3 = .ok (.iconst 1, 1) := by decide +kernel
theorem dX7_floodHole_4 : decode cX7_floodHole 4 = .ok (.istore 5, 2) := by decide +kernel
theorem dX7_floodHole_6 : decode cX7_floodHole 6 = .ok (.iconst 1, 1) := by decide +kernel
theorem dX7_floodHole_7 : decode cX7_floodHole 7 = .ok (.istore 6, 2) := by decide +kernel
theorem dX7_floodHole_9 : decode cX7_floodHole 9 = .ok (.aload_n 0, 1) := by decide +kernel
theorem dX7_floodHole_10 : decode cX7_floodHole 10 = .ok (.getfield 44, 3) := by decide +kernel
theorem dX7_floodHole_13 : decode cX7_floodHole 13 = .ok (.iconst 0, 1) := by decide +kernel
theorem dX7_floodHole_14 : decode cX7_floodHole 14 = .ok (.iload_n 3, 1) := by decide +kernel
theorem dX7_floodHole_15 : decode cX7_floodHole 15 = .ok (.iastore, 1) := by decide +kernel
theorem dX7_floodHole_16 : decode cX7_floodHole 16 = .ok (.aload_n 0, 1) := by decide +kernel
theorem dX7_floodHole_17 : decode cX7_floodHole 17 = .ok (.getfield 47, 3) := by decide +kernel
theorem dX7_floodHole_20 : decode cX7_floodHole 20 = .ok (.iload_n 3, 1) := by decide +kernel
theorem dX7_floodHole_21 : decode cX7_floodHole 21 = .ok (.iconst 1, 1) := by decide +kernel
theorem dX7_floodHole_22 : decode cX7_floodHole 22 = .ok (.iastore, 1) := by decide +kernel
theorem dX7_floodHole_23 : decode cX7_floodHole 23 = .ok (.iload 4, 2) := by decide +kernel
theorem dX7_floodHole_25 : decode cX7_floodHole 25 = .ok (.iload 5, 2) := by decide +kernel
theorem dX7_floodHole_27 : decode cX7_floodHole 27 = .ok (.if_icmp .ge 198, 3) := by decide +kernel
theorem dX7_floodHole_30 : decode cX7_floodHole 30 = .ok (.aload_n 0, 1) := by decide +kernel
theorem dX7_floodHole_31 : decode cX7_floodHole 31 = .ok (.getfield 44, 3) := by decide +kernel
theorem dX7_floodHole_34 : decode cX7_floodHole 34 = .ok (.iload 4, 2) := by decide +kernel
theorem dX7_floodHole_36 : decode cX7_floodHole 36 = .ok (.iaload, 1) := by decide +kernel
theorem dX7_floodHole_37 : decode cX7_floodHole 37 = .ok (.aload_n 1, 1) := by decide +kernel
theorem dX7_floodHole_38 : decode cX7_floodHole 38 = .ok (.iconst 0, 1) := by decide +kernel
theorem dX7_floodHole_39 : decode cX7_floodHole 39 = .ok (.iaload, 1) := by decide +kernel
theorem dX7_floodHole_40 : decode cX7_floodHole 40 = .ok (.irem, 1) := by decide +kernel
theorem dX7_floodHole_41 : decode cX7_floodHole 41 = .ok (.istore 7, 2) := by decide +kernel
theorem dX7_floodHole_43 : decode cX7_floodHole 43 = .ok (.aload_n 0, 1) := by decide +kernel
theorem dX7_floodHole_44 : decode cX7_floodHole 44 = .ok (.getfield 44, 3) := by decide +kernel
theorem dX7_floodHole_47 : decode cX7_floodHole 47 = .ok (.iload 4, 2) := by decide +kernel
theorem dX7_floodHole_49 : decode cX7_floodHole 49 = .ok (.iaload, 1) := by decide +kernel
theorem dX7_floodHole_50 : decode cX7_floodHole 50 = .ok (.aload_n 1, 1) := by decide +kernel
theorem dX7_floodHole_51 : decode cX7_floodHole 51 = .ok (.iconst 0, 1) := by decide +kernel
theorem dX7_floodHole_52 : decode cX7_floodHole 52 = .ok (.iaload, 1) := by decide +kernel
theorem dX7_floodHole_53 : decode cX7_floodHole 53 = .ok (.idiv, 1) := by decide +kernel
theorem dX7_floodHole_54 : decode cX7_floodHole 54 = .ok (.istore 8, 2) := by decide +kernel
theorem dX7_floodHole_56 : decode cX7_floodHole 56 = .ok (.iinc 4 1, 3) := by decide +kernel
theorem dX7_floodHole_59 : decode cX7_floodHole 59 = .ok (.iload 6, 2) := by decide +kernel
theorem dX7_floodHole_61 : decode cX7_floodHole 61 = .ok (.ifCond .eq 37, 3) := by decide +kernel
theorem dX7_floodHole_64 : decode cX7_floodHole 64 = .ok (.iload 7, 2) := by decide +kernel
theorem dX7_floodHole_66 : decode cX7_floodHole 66 = .ok (.ifCond .le 32, 3) := by decide +kernel
theorem dX7_floodHole_69 : decode cX7_floodHole 69 = .ok (.iload 8, 2) := by decide +kernel
theorem dX7_floodHole_71 : decode cX7_floodHole 71 = .ok (.ifCond .le 27, 3) := by decide +kernel
theorem dX7_floodHole_74 : decode cX7_floodHole 74 = .ok (.iload 7, 2) := by decide +kernel
theorem dX7_floodHole_76 : decode cX7_floodHole 76 = .ok (.aload_n 1, 1) := by decide +kernel
theorem dX7_floodHole_77 : decode cX7_floodHole 77 = .ok (.iconst 0, 1) := by decide +kernel
theorem dX7_floodHole_78 : decode cX7_floodHole 78 = .ok (.iaload, 1) := by decide +kernel
theorem dX7_floodHole_79 : decode cX7_floodHole 79 = .ok (.iconst 1, 1) := by decide +kernel
theorem dX7_floodHole_80 : decode cX7_floodHole 80 = .ok (.isub, 1) := by decide +kernel
theorem dX7_floodHole_81 : decode cX7_floodHole 81 = .ok (.if_icmp .ge 17, 3) := by decide +kernel
theorem dX7_floodHole_84 : decode cX7_floodHole 84 = .ok (.iload 8, 2) := by decide +kernel
theorem dX7_floodHole_86 : decode cX7_floodHole 86 = .ok (.aload_n 1, 1) := by decide +kernel
theorem dX7_floodHole_87 : decode cX7_floodHole 87 = .ok (.iconst 1, 1) := by decide +kernel
theorem dX7_floodHole_88 : decode cX7_floodHole 88 = .ok (.iaload, 1) := by decide +kernel
theorem dX7_floodHole_89 : decode cX7_floodHole 89 = .ok (.iconst 1, 1) := by decide +kernel
theorem dX7_floodHole_90 : decode cX7_floodHole 90 = .ok (.isub, 1) := by decide +kernel
theorem dX7_floodHole_91 : decode cX7_floodHole 91 = .ok (.if_icmp .ge 7, 3) := by decide +kernel
theorem dX7_floodHole_94 : decode cX7_floodHole 94 = .ok (.iconst 1, 1) := by decide +kernel
theorem dX7_floodHole_95 : decode cX7_floodHole 95 = .ok (.goto 4, 3) := by decide +kernel
theorem dX7_floodHole_98 : decode cX7_floodHole 98 = .ok (.iconst 0, 1) := by decide +kernel
theorem dX7_floodHole_99 : decode cX7_floodHole 99 = .ok (.istore 6, 2) := by decide +kernel
theorem dX7_floodHole_101 : decode cX7_floodHole 101 = .ok (.iconst 0, 1) := by decide +kernel
theorem dX7_floodHole_102 : decode cX7_floodHole 102 = .ok (.istore 9, 2) := by decide +kernel
theorem dX7_floodHole_104 : decode cX7_floodHole 104 = .ok (.iload 9, 2) := by decide +kernel
theorem dX7_floodHole_106 : decode cX7_floodHole 106 = .ok (.bipush 9, 2) := by decide +kernel
theorem dX7_floodHole_108 : decode cX7_floodHole 108 = .ok (.if_icmp .ge 114, 3) := by decide +kernel
theorem dX7_floodHole_111 : decode cX7_floodHole 111 = .ok (.iload 7, 2) := by decide +kernel
theorem dX7_floodHole_113 : decode cX7_floodHole 113 = .ok (.iload 9, 2) := by decide +kernel
theorem dX7_floodHole_115 : decode cX7_floodHole 115 = .ok (.iconst 3, 1) := by decide +kernel
theorem dX7_floodHole_116 : decode cX7_floodHole 116 = .ok (.irem, 1) := by decide +kernel
theorem dX7_floodHole_117 : decode cX7_floodHole 117 = .ok (.iadd, 1) := by decide +kernel
theorem dX7_floodHole_118 : decode cX7_floodHole 118 = .ok (.iconst 1, 1) := by decide +kernel
theorem dX7_floodHole_119 : decode cX7_floodHole 119 = .ok (.isub, 1) := by decide +kernel
theorem dX7_floodHole_120 : decode cX7_floodHole 120 = .ok (.istore 10, 2) := by decide +kernel
theorem dX7_floodHole_122 : decode cX7_floodHole 122 = .ok (.iload 8, 2) := by decide +kernel
theorem dX7_floodHole_124 : decode cX7_floodHole 124 = .ok (.iload 9, 2) := by decide +kernel
theorem dX7_floodHole_126 : decode cX7_floodHole 126 = .ok (.iconst 3, 1) := by decide +kernel
theorem dX7_floodHole_127 : decode cX7_floodHole 127 = .ok (.idiv, 1) := by decide +kernel
theorem dX7_floodHole_128 : decode cX7_floodHole 128 = .ok (.iadd, 1) := by decide +kernel
theorem dX7_floodHole_129 : decode cX7_floodHole 129 = .ok (.iconst 1, 1) := by decide +kernel
theorem dX7_floodHole_130 : decode cX7_floodHole 130 = .ok (.isub, 1) := by decide +kernel
theorem dX7_floodHole_131 : decode cX7_floodHole 131 = .ok (.istore 11, 2) := by decide +kernel
theorem dX7_floodHole_133 : decode cX7_floodHole 133 = .ok (.aload_n 1, 1) := by decide +kernel
theorem dX7_floodHole_134 : decode cX7_floodHole 134 = .ok (.iload 10, 2) := by decide +kernel
theorem dX7_floodHole_136 : decode cX7_floodHole 136 = .ok (.invokestatic 122, 3) := by decide +kernel
theorem dX7_floodHole_139 : decode cX7_floodHole 139 = .ok (.ifCond .eq 77, 3) := by decide +kernel
theorem dX7_floodHole_142 : decode cX7_floodHole 142 = .ok (.aload_n 1, 1) := by decide +kernel
theorem dX7_floodHole_143 : decode cX7_floodHole 143 = .ok (.iload 11, 2) := by decide +kernel
theorem dX7_floodHole_145 : decode cX7_floodHole 145 = .ok (.invokestatic 126, 3) := by decide +kernel
theorem dX7_floodHole_148 : decode cX7_floodHole 148 = .ok (.ifCond .eq 68, 3) := by decide +kernel
theorem dX7_floodHole_151 : decode cX7_floodHole 151 = .ok (.aload_n 0, 1) := by decide +kernel
theorem dX7_floodHole_152 : decode cX7_floodHole 152 = .ok (.getfield 47, 3) := by decide +kernel
theorem dX7_floodHole_155 : decode cX7_floodHole 155 = .ok (.aload_n 1, 1) := by decide +kernel
theorem dX7_floodHole_156 : decode cX7_floodHole 156 = .ok (.iload 10, 2) := by decide +kernel
theorem dX7_floodHole_158 : decode cX7_floodHole 158 = .ok (.iload 11, 2) := by decide +kernel
theorem dX7_floodHole_160 : decode cX7_floodHole 160 = .ok (.invokestatic 129, 3) := by decide +kernel
theorem dX7_floodHole_163 : decode cX7_floodHole 163 = .ok (.iaload, 1) := by decide +kernel
theorem dX7_floodHole_164 : decode cX7_floodHole 164 = .ok (.ifCond .ne 52, 3) := by decide +kernel
theorem dX7_floodHole_167 : decode cX7_floodHole 167 = .ok (.aload_n 0, 1) := by decide +kernel
theorem dX7_floodHole_168 : decode cX7_floodHole 168 = .ok (.getfield 32, 3) := by decide +kernel
theorem dX7_floodHole_171 : decode cX7_floodHole 171 = .ok (.aload_n 1, 1) := by decide +kernel
theorem dX7_floodHole_172 : decode cX7_floodHole 172 = .ok (.iload 10, 2) := by decide +kernel
theorem dX7_floodHole_174 : decode cX7_floodHole 174 = .ok (.iload 11, 2) := by decide +kernel
theorem dX7_floodHole_176 : decode cX7_floodHole 176 = .ok (.invokestatic 129, 3) := by decide +kernel
theorem dX7_floodHole_179 : decode cX7_floodHole 179 = .ok (.iaload, 1) := by decide +kernel
theorem dX7_floodHole_180 : decode cX7_floodHole 180 = .ok (.iload_n 2, 1) := by decide +kernel
theorem dX7_floodHole_181 : decode cX7_floodHole 181 = .ok (.if_icmp .eq 35, 3) := by decide +kernel
theorem dX7_floodHole_184 : decode cX7_floodHole 184 = .ok (.aload_n 0, 1) := by decide +kernel
theorem dX7_floodHole_185 : decode cX7_floodHole 185 = .ok (.getfield 47, 3) := by decide +kernel
theorem dX7_floodHole_188 : decode cX7_floodHole 188 = .ok (.aload_n 1, 1) := by decide +kernel
theorem dX7_floodHole_189 : decode cX7_floodHole 189 = .ok (.iload 10, 2) := by decide +kernel
theorem dX7_floodHole_191 : decode cX7_floodHole 191 = .ok (.iload 11, 2) := by decide +kernel
theorem dX7_floodHole_193 : decode cX7_floodHole 193 = .ok (.invokestatic 129, 3) := by decide +kernel
theorem dX7_floodHole_196 : decode cX7_floodHole 196 = .ok (.iconst 1, 1) := by decide +kernel
theorem dX7_floodHole_197 : decode cX7_floodHole 197 = .ok (.iastore, 1) := by decide +kernel
theorem dX7_floodHole_198 : decode cX7_floodHole 198 = .ok (.aload_n 0, 1) := by decide +kernel
theorem dX7_floodHole_199 : decode cX7_floodHole 199 = .ok (.getfield 44, 3) := by decide +kernel
theorem dX7_floodHole_202 : decode cX7_floodHole 202 = .ok (.iload 5, 2) := by decide +kernel
theorem dX7_floodHole_204 : decode cX7_floodHole 204 = .ok (.aload_n 1, 1) := by decide +kernel
theorem dX7_floodHole_205 : decode cX7_floodHole 205 = .ok (.iload 10, 2) := by decide +kernel
theorem dX7_floodHole_207 : decode cX7_floodHole 207 = .ok (.iload 11, 2) := by decide +kernel
theorem dX7_floodHole_209 : decode cX7_floodHole 209 = .ok (.invokestatic 129, 3) := by decide +kernel
theorem dX7_floodHole_212 : decode cX7_floodHole 212 = .ok (.iastore, 1) := by decide +kernel
theorem dX7_floodHole_213 : decode cX7_floodHole 213 = .ok (.iinc 5 1, 3) := by decide +kernel
theorem dX7_floodHole_216 : decode cX7_floodHole 216 = .ok (.iinc 9 1, 3) := by decide +kernel
theorem dX7_floodHole_219 : decode cX7_floodHole 219 = .ok (.goto (-115), 3) := by decide +kernel
theorem dX7_floodHole_222 : decode cX7_floodHole 222 = .ok (.goto (-199), 3) := by decide +kernel
theorem dX7_floodHole_225 : decode cX7_floodHole 225 = .ok (.iload 6, 2) := by decide +kernel
theorem dX7_floodHole_227 : decode cX7_floodHole 227 = .ok (.ireturn, 1) := by decide +kernel
theorem c_floodHole {n L s : Int} (hd : dim c r) (hs : cel c r s) (hsL : lw c r b s ≠ L) (hL : cel c r L) (hl : lw c r b L = L) (hJ : JW c r b B I m Fi Co) (hmk : ∀ j, mk j = 0 ∨ mk j = 1) (hm0 : ∀ j, con (EH c r b L) s j → mk j = 0) :
    Ct l yX7_floodHole cX7_floodHole 12 (some .boolean) rmX7_floodHole [.ref 0, .ref 1, iv (rk c r b L), iv s] (mdM rf sz c r G T n le Hh li ac B I m Fi Co Br Wt mk gy sd rt lf wy sp ou)
    (fun z M => z = some (iv (@bz (inr c r b L s) (Classical.propDecidable _))) ∧ ∃ Q' : Int → Int, M = (mdM rf sz c r G T n le Hh li ac B I m Fi Co Br (Q') (mkF mk (con (EH c r b L) s) 1) gy sd rt lf wy sp ou)) := by
  refine Ct.of miX7_floodHole (Nat.le_of_ble_eq_true rfl) ?_
  intro X hXl hN ok
  refine AW.cast (L2 := [some (.ref 0), some (.ref 1), some (iv (rk c r b L)), some (iv s), none, none, none, none, none, none, none, none]) ?_ rfl rfl rfl
  have hc := dim_cells hd
  have hs1 := hs.1
  have hs2 := hs.2
  have hd2 := id hd
  obtain ⟨d1, d2, d3, d4⟩ := hd2
  obtain ⟨j1, j2, j3, j4, j5, j6⟩ := id hJ
  have hcn : ∀ x, con (EH c r b L) s x → cel c r x ∧ lw c r b x ≠ L := fun x hx => EH_con ⟨hs, hsL⟩ hx
  have hrk := rk_mny hd hL hl
  have hm := mny_1 (B := b) hd
  have loop : ∀ q : (Int → Prop) × (Int → Int) × Int × Int, (BI (EH c r b L) (c * r).toNat s q.1 q.2.1 q.2.2.1 ∧ CL (EH c r b L) q.1 q.2.1 q.2.2.2 ∧ 0 ≤ q.2.2.2 ∧ q.2.2.2 ≤ q.2.2.1) →
      AW X 0 0 23 [some (.ref 0), some (.ref 1), some (iv (rk c r b L)), some (iv s), some (iv q.2.2.2), some (iv q.2.2.1), some (iv (@bz (∀ i, 0 ≤ i → i < q.2.2.2 → ¬ edg c r (q.2.1 i)) (Classical.propDecidable _))), none, none, none, none, none] [] (mdM rf sz c r G T n le Hh li ac B I m Fi Co Br (q.2.1) (mkF mk q.1 1) gy sd rt lf wy sp ou) := by
    refine wfl (fun q : (Int → Prop) × (Int → Int) × Int × Int => (145 - q.2.2.2).toNat) _ _ ?_
    rintro ⟨mq, Qf, had, got⟩ ⟨h1, h2, h3, h4⟩ ih
    dsimp only at h1 h2 h3 h4 ih ⊢
    have h0 := BI_0 h1
    by_cases hg : got < had
    · have hcur := hcn _ (h1.2.1 _ (h1.2.2.1 got h3 hg))
      have hcc := h1.2.1 _ (h1.2.2.1 got h3 hg)
      obtain ⟨cur, ecur⟩ : ∃ cur, cur = Qf got := ⟨_, rfl⟩
      rw [← ecur] at hcur hcc
      have hk := dim_k hd hcur.1
      have hcu1 := hcur.1.1
      have hcu2 := hcur.1.2
      have dloop : ∀ q : (Int → Prop) × (Int → Int) × Int × Int, (BI (EH c r b L) (c * r).toNat s q.1 q.2.1 q.2.2.1 ∧ CL (EH c r b L) q.1 q.2.1 got ∧ got < q.2.2.1 ∧ (∀ i, i ≤ got → q.2.1 i = Qf i) ∧ (0 ≤ q.2.2.2 ∧ q.2.2.2 ≤ 9) ∧ (∀ x y : Int, (cur % c - 1 ≤ x ∧ x ≤ cur % c + 1) → (cur / c - 1 ≤ y ∧ y ≤ cur / c + 1) → (x - (cur % c - 1)) + 3 * (y - (cur / c - 1)) < q.2.2.2 → inP c r x y → lw c r b (y * c + x) ≠ L → q.1 (y * c + x))) →
          AW X 0 0 104 [some (.ref 0), some (.ref 1), some (iv (rk c r b L)), some (iv s), some (iv (got + 1)), some (iv q.2.2.1), some (iv (@bz (∀ i, 0 ≤ i → i < got + 1 → ¬ edg c r (Qf i)) (Classical.propDecidable _))), some (iv (cur % c)), some (iv (cur / c)), some (iv q.2.2.2), none, none] [] (mdM rf sz c r G T n le Hh li ac B I m Fi Co Br (q.2.1) (mkF mk q.1 1) gy sd rt lf wy sp ou) := by
        refine wfl (fun q : (Int → Prop) × (Int → Int) × Int × Int => (9 - q.2.2.2).toNat) _ _ ?_
        rintro ⟨mq3, Q3, had3, d⟩ ⟨i1, i2, i3, i4, i5, i6⟩ ih3
        dsimp only at i1 i2 i3 i4 i5 i6 ih3 ⊢
        have j0 := BI_0 i1
        obtain ⟨x, ex⟩ : ∃ x, x = cur % c + d % 3 - 1 := ⟨_, rfl⟩
        obtain ⟨y, ey⟩ : ∃ y, y = cur / c + d / 3 - 1 := ⟨_, rfl⟩
        have hcl : inP c r x y → cel c r (y * c + x) ∧ (0 ≤ y * c + x ∧ y * c + x < 144) := fun h => by
          have := xy_cel hd (x := x) (y := y) (by omega) (by omega)
          have a := this.1; have e := this.2
          exact ⟨this, a, by omega⟩
        have hE : inP c r x y → lw c r b (y * c + x) ≠ L → d < 9 → EH c r b L cur (y * c + x) := fun h h' hx => by
          refine ⟨hcur, ⟨(hcl h).1, h'⟩, ?_⟩
          have := dm_xy (c := c) (x := x) (y := y) (by omega)
          unfold near8
          rw [this.1, this.2]
          omega
        have skip : ∀ u v : Option Value, d < 9 → (inP c r x y → lw c r b (y * c + x) ≠ L → mq3 (y * c + x)) → AW X 0 0 216 [some (.ref 0), some (.ref 1), some (iv (rk c r b L)), some (iv s), some (iv (got + 1)), some (iv had3), some (iv (@bz (∀ i, 0 ≤ i → i < got + 1 → ¬ edg c r (Qf i)) (Classical.propDecidable _))), some (iv (cur % c)), some (iv (cur / c)), some (iv d), u, v] [] (mdM rf sz c r G T n le Hh li ac B I m Fi Co Br (Q3) (mkF mk mq3 1) gy sd rt lf wy sp ou) := by
          intro u v hx hu
          have hi : ∀ u v : Int, (cur % c - 1 ≤ u ∧ u ≤ cur % c + 1) → (cur / c - 1 ≤ v ∧ v ≤ cur / c + 1) → (u - (cur % c - 1)) + 3 * (v - (cur / c - 1)) < d + 1 → inP c r u v → lw c r b (v * c + u) ≠ L → mq3 (v * c + u) := by
            intro u v a1 a2 a3 a4 a5
            by_cases e : v = y ∧ u = x
            · obtain ⟨rfl, rfl⟩ := e; exact hu a4 a5
            · exact i6 u v a1 a2 (by omega) a4 a5
          refine a_iinc (pc := 216) ok dX7_floodHole_216 rfl rfl (by rw [hN]; decide) ?_
          refine a_goto (pc := 219) (tgt := 104) ok dX7_floodHole_219 (by decide) ?_
          exact AW.forget (ih3 (mq3, Q3, had3, d + 1) ⟨i1, i2, i3, i4, by dsimp only; omega, hi⟩ (by dsimp only; omega)) (by repeat' (first | exact trivial | refine ⟨rfl, ?_⟩))
        have take : ∀ u v : Option Value, d < 9 → inP c r x y → lw c r b (y * c + x) ≠ L → ¬ mq3 (y * c + x) → AW X 0 0 216 [some (.ref 0), some (.ref 1), some (iv (rk c r b L)), some (iv s), some (iv (got + 1)), some (iv (had3 + 1)), some (iv (@bz (∀ i, 0 ≤ i → i < got + 1 → ¬ edg c r (Qf i)) (Classical.propDecidable _))), some (iv (cur % c)), some (iv (cur / c)), some (iv d), u, v] [] (mdM rf sz c r G T n le Hh li ac B I m Fi Co Br (up Q3 had3 (y * c + x)) (up (mkF mk mq3 1) (y * c + x) 1) gy sd rt lf wy sp ou) := by
          intro u v hx hp hn hm3
          rw [mkF_up]
          have hcel := hcl hp
          have hcon : con (EH c r b L) s (y * c + x) := con_step hcc (hE hp hn hx)
          have hi : ∀ u v : Int, (cur % c - 1 ≤ u ∧ u ≤ cur % c + 1) → (cur / c - 1 ≤ v ∧ v ≤ cur / c + 1) → (u - (cur % c - 1)) + 3 * (v - (cur / c - 1)) < d + 1 → inP c r u v → lw c r b (v * c + u) ≠ L → (v * c + u = y * c + x ∨ mq3 (v * c + u)) := by
            intro u v a1 a2 a3 a4 a5
            by_cases e : v = y ∧ u = x
            · obtain ⟨rfl, rfl⟩ := e; exact Or.inl rfl
            · exact Or.inr (i6 u v a1 a2 (by omega) a4 a5)
          have hi4 : ∀ i, i ≤ got → up Q3 had3 (y * c + x) i = Qf i := fun i hi => by unfold up; rw [if_neg (by omega)]; exact i4 i hi
          refine a_iinc (pc := 216) ok dX7_floodHole_216 rfl rfl (by rw [hN]; decide) ?_
          refine a_goto (pc := 219) (tgt := 104) ok dX7_floodHole_219 (by decide) ?_
          exact AW.forget (ih3 (fun j => j = y * c + x ∨ mq3 j, up Q3 had3 (y * c + x), had3 + 1, d + 1) ⟨BI_add i1 (cel_N hd hcel.1) hcon hm3, CL_add i2 (by omega), by dsimp only; omega, hi4, by dsimp only; omega, hi⟩ (by dsimp only; omega)) (by repeat' (first | exact trivial | refine ⟨rfl, ?_⟩))
        have hmk3 : inP c r x y → lw c r b (y * c + x) ≠ L → d < 9 → (mkF mk mq3 1 (y * c + x) = 0 ↔ ¬ mq3 (y * c + x)) := fun h h' hx => by
          by_cases z : mq3 (y * c + x)
          · rw [mkF_t z]; exact ⟨fun e => by omega, fun e => absurd z e⟩
          · rw [mkF_f z]; exact ⟨fun _ => z, fun _ => hm0 _ (con_step hcc (hE h h' hx))⟩
        have hmr : rg (mkF mk mq3 1 (y * c + x)) := by
          by_cases z : mq3 (y * c + x)
          · rw [mkF_t z]; unfold rg; omega
          · rw [mkF_f z]; have := hmk (y * c + x); unfold rg; omega
        have hir : inP c r x y → (I (y * c + x) = rk c r b L ↔ lw c r b (y * c + x) = L) := fun h => by
          have hh := lw_ok (B := b) hd (hcl h).1
          rw [j4 _ (hcl h).1]
          exact ⟨fun e => rk_inj hh.1 (lw_lw hd (hcl h).1) hL hl e, fun e => by rw [e]⟩
        have rI := j2 (y * c + x)
        have k1 : 0 ≤ d % 3 ∧ d % 3 < 3 := by omega
        have k2 : 0 ≤ d → d < 9 → 0 ≤ d / 3 ∧ d / 3 < 3 := by omega
        refine a_iload (pc := 104) ok dX7_floodHole_104 rfl ?_
        refine a_bipush (pc := 106) ok dX7_floodHole_106 (by decide) ?_
        refine a_icmp_ge (pc := 108) (tgt := 222) ok dX7_floodHole_108 (by decide) (by first | omega | (unfold rg; omega) | (simp only [rg] at *; omega) | exact bz_rg _ | grind [rg]) (by first | omega | (unfold rg; omega) | (simp only [rg] at *; omega) | exact bz_rg _ | grind [rg]) (fun c108 => ?_) (fun c108 => ?_)
        · refine a_goto (pc := 222) (tgt := 23) ok dX7_floodHole_222 (by decide) ?_
          have ef : (∀ i, 0 ≤ i → i < got + 1 → ¬ edg c r (Qf i)) ↔ (∀ i, 0 ≤ i → i < got + 1 → ¬ edg c r (Q3 i)) := ⟨fun z i a1 a2 => by rw [i4 i (by omega)]; exact z i a1 a2, fun z i a1 a2 => by have := z i a1 a2; rw [i4 i (by omega)] at this; exact this⟩
          rw [@bz_iff _ _ (Classical.propDecidable _) (Classical.propDecidable _) ef]
          refine AW.forget (ih (mq3, Q3, had3, got + 1) ⟨i1, fun i a1 a2 z hz => ?_, by dsimp only; omega, by dsimp only; omega⟩ (by dsimp only; omega)) (by repeat' (first | exact trivial | refine ⟨rfl, ?_⟩))
          rcases (show i < got ∨ i = got by dsimp only at a2; omega) with y | y
          · exact i2 i a1 y z hz
          · dsimp only at hz ⊢
            rw [y, i4 got (by omega), ← ecur] at hz
            have a := hz.2.1
            have q := hz.2.2
            have e := dim_k hd a.1
            have f := i6 (z % c) (z / c) q.1 q.2 (by have := q.1; have := q.2; omega) ⟨e.1, e.2.1, e.2.2.1, e.2.2.2.1⟩
            rw [← e.2.2.2.2] at f
            exact f a.2
        · refine a_iload (pc := 111) ok dX7_floodHole_111 rfl ?_
          refine a_iload (pc := 113) ok dX7_floodHole_113 rfl ?_
          refine a_iconst (pc := 115) ok dX7_floodHole_115 ?_
          refine a_irem (pc := 116) ok dX7_floodHole_116 (by first | omega | (unfold rg; omega) | (simp only [rg] at *; omega) | exact bz_rg _ | grind [rg]) (by first | omega | (unfold rg; omega) | (simp only [rg] at *; omega) | exact bz_rg _ | grind [rg]) ?_
          refine a_iadd (pc := 117) ok dX7_floodHole_117 ?_
          refine a_iconst (pc := 118) ok dX7_floodHole_118 ?_
          refine a_isub (pc := 119) ok dX7_floodHole_119 ?_
          rw [show cur % c + d % 3 - 1 = x from ex.symm]
          refine a_istore (pc := 120) ok dX7_floodHole_120 rfl (by rw [hN]; decide) ?_
          refine a_iload (pc := 122) ok dX7_floodHole_122 rfl ?_
          refine a_iload (pc := 124) ok dX7_floodHole_124 rfl ?_
          refine a_iconst (pc := 126) ok dX7_floodHole_126 ?_
          refine a_idiv (pc := 127) ok dX7_floodHole_127 (by first | omega | (unfold rg; omega) | (simp only [rg] at *; omega) | exact bz_rg _ | grind [rg]) (by first | omega | (unfold rg; omega) | (simp only [rg] at *; omega) | exact bz_rg _ | grind [rg]) ?_
          refine a_iadd (pc := 128) ok dX7_floodHole_128 ?_
          refine a_iconst (pc := 129) ok dX7_floodHole_129 ?_
          refine a_isub (pc := 130) ok dX7_floodHole_130 ?_
          rw [show cur / c + d / 3 - 1 = y from ey.symm]
          refine a_istore (pc := 131) ok dX7_floodHole_131 rfl (by rw [hN]; decide) ?_
          refine a_aload_n (pc := 133) ok dX7_floodHole_133 rfl ?_
          refine a_iload (pc := 134) ok dX7_floodHole_134 rfl ?_
          refine a_callSp (pc := 136) ok [1] dX7_floodHole_136 mv7_122 miX7_isColumn (c_isColumn hd (by unfold rg; omega)) ⟨by decide, by decide, rfl, rfl, Nat.zero_le _, Nat.zero_le _⟩ rfl rfl (Nat.le_of_ble_eq_true rfl) rfl (by decide) ?_
          refine a_if_eq (pc := 139) (tgt := 216) ok dX7_floodHole_139 (by decide) (by exact bz_rg _) (fun c139 => ?_) (fun c139 => ?_)
          · exact skip _ _ (by omega) (fun a => by rw [bz_pos ⟨a.1, a.2.1⟩] at c139; exact absurd c139 (by decide))
          · refine a_aload_n (pc := 142) ok dX7_floodHole_142 rfl ?_
            refine a_iload (pc := 143) ok dX7_floodHole_143 rfl ?_
            refine a_callSp (pc := 145) ok [1] dX7_floodHole_145 mv7_126 miX7_isRow (c_isRow hd (by unfold rg; omega)) ⟨by decide, by decide, rfl, rfl, Nat.zero_le _, Nat.zero_le _⟩ rfl rfl (Nat.le_of_ble_eq_true rfl) rfl (by decide) ?_
            refine a_if_eq (pc := 148) (tgt := 216) ok dX7_floodHole_148 (by decide) (by exact bz_rg _) (fun c148 => ?_) (fun c148 => ?_)
            · exact skip _ _ (by omega) (fun a => by rw [bz_pos ⟨a.2.2.1, a.2.2.2⟩] at c148; exact absurd c148 (by decide))
            · have hcol : 0 ≤ x ∧ x < c := Classical.byContradiction fun z => c139 (bz_neg z)
              have hrow : 0 ≤ y ∧ y < r := Classical.byContradiction fun z => c148 (bz_neg z)
              have hp : inP c r x y := ⟨hcol.1, hcol.2, hrow.1, hrow.2⟩
              have hcl2 := hcl hp
              refine a_aload_n (pc := 151) ok dX7_floodHole_151 rfl ?_
              refine a_getf (pc := 152) ok dX7_floodHole_152 fl7_47 rfl rfl ?_
              refine a_aload_n (pc := 155) ok dX7_floodHole_155 rfl ?_
              refine a_iload (pc := 156) ok dX7_floodHole_156 rfl ?_
              refine a_iload (pc := 158) ok dX7_floodHole_158 rfl ?_
              refine a_callSp (pc := 160) ok [1] dX7_floodHole_160 mv7_129 miX7_at (c_at) ⟨by decide, by decide, rfl, rfl, Nat.zero_le _, Nat.zero_le _⟩ rfl rfl (Nat.le_of_ble_eq_true rfl) rfl (by decide) ?_
              refine a_iald (pc := 163) ok dX7_floodHole_163 rfl (by first | decide | omega) (by first | omega | (unfold rg; omega) | (simp only [rg] at *; omega) | exact bz_rg _ | grind [rg]) ?_
              refine a_if_ne (pc := 164) (tgt := 216) ok dX7_floodHole_164 (by decide) (by exact hmr) (fun c164 => ?_) (fun c164 => ?_)
              · exact skip _ _ (by omega) (fun a e => Classical.byContradiction fun z => c164 ((hmk3 a e (by omega)).mpr z))
              · refine a_aload_n (pc := 167) ok dX7_floodHole_167 rfl ?_
                refine a_getf (pc := 168) ok dX7_floodHole_168 fl7_32 rfl rfl ?_
                refine a_aload_n (pc := 171) ok dX7_floodHole_171 rfl ?_
                refine a_iload (pc := 172) ok dX7_floodHole_172 rfl ?_
                refine a_iload (pc := 174) ok dX7_floodHole_174 rfl ?_
                refine a_callSp (pc := 176) ok [1] dX7_floodHole_176 mv7_129 miX7_at (c_at) ⟨by decide, by decide, rfl, rfl, Nat.zero_le _, Nat.zero_le _⟩ rfl rfl (Nat.le_of_ble_eq_true rfl) rfl (by decide) ?_
                refine a_iald (pc := 179) ok dX7_floodHole_179 rfl (by first | decide | omega) (by first | omega | (unfold rg; omega) | (simp only [rg] at *; omega) | exact bz_rg _ | grind [rg]) ?_
                refine a_iload_n (pc := 180) ok dX7_floodHole_180 rfl ?_
                refine a_icmp_eq (pc := 181) (tgt := 216) ok dX7_floodHole_181 (by decide) (by first | exact rI | (unfold rg; omega)) (by first | exact rI | (unfold rg; omega)) (fun c181 => ?_) (fun c181 => ?_)
                · exact skip _ _ (by omega) (fun a e => absurd ((hir a).mp c181) e)
                · refine a_aload_n (pc := 184) ok dX7_floodHole_184 rfl ?_
                  refine a_getf (pc := 185) ok dX7_floodHole_185 fl7_47 rfl rfl ?_
                  refine a_aload_n (pc := 188) ok dX7_floodHole_188 rfl ?_
                  refine a_iload (pc := 189) ok dX7_floodHole_189 rfl ?_
                  refine a_iload (pc := 191) ok dX7_floodHole_191 rfl ?_
                  refine a_callSp (pc := 193) ok [1] dX7_floodHole_193 mv7_129 miX7_at (c_at) ⟨by decide, by decide, rfl, rfl, Nat.zero_le _, Nat.zero_le _⟩ rfl rfl (Nat.le_of_ble_eq_true rfl) rfl (by decide) ?_
                  refine a_iconst (pc := 196) ok dX7_floodHole_196 ?_
                  have hnL : lw c r b (y * c + x) ≠ L := fun z => c181 ((hir hp).mpr z)
                  have hnm := (hmk3 hp hnL (by omega)).mp c164
                  have hhad := BI_lt i1 (cel_N hd hcl2.1) hnm
                  refine a_iast (pc := 197) ok dX7_floodHole_197 rfl (by first | decide | omega) (by first | omega | (unfold rg; omega) | (simp only [rg] at *; omega) | exact bz_rg _ | grind [rg]) ?_
                  refine a_aload_n (pc := 198) ok dX7_floodHole_198 rfl ?_
                  refine a_getf (pc := 199) ok dX7_floodHole_199 fl7_44 rfl rfl ?_
                  refine a_iload (pc := 202) ok dX7_floodHole_202 rfl ?_
                  refine a_aload_n (pc := 204) ok dX7_floodHole_204 rfl ?_
                  refine a_iload (pc := 205) ok dX7_floodHole_205 rfl ?_
                  refine a_iload (pc := 207) ok dX7_floodHole_207 rfl ?_
                  refine a_callSp (pc := 209) ok [1] dX7_floodHole_209 mv7_129 miX7_at (c_at) ⟨by decide, by decide, rfl, rfl, Nat.zero_le _, Nat.zero_le _⟩ rfl rfl (Nat.le_of_ble_eq_true rfl) rfl (by decide) ?_
                  refine a_iast (pc := 212) ok dX7_floodHole_212 rfl (by first | decide | omega) (by first | omega | (unfold rg; omega) | (simp only [rg] at *; omega) | exact bz_rg _ | grind [rg]) ?_
                  refine a_iinc (pc := 213) ok dX7_floodHole_213 rfl rfl (by rw [hN]; decide) ?_
                  exact take _ _ (by omega) hp hnL hnm
      have flag : ∀ z : Int, z = (@bz (∀ i, 0 ≤ i → i < got + 1 → ¬ edg c r (Qf i)) (Classical.propDecidable _)) → AW X 0 0 99 [some (.ref 0), some (.ref 1), some (iv (rk c r b L)), some (iv s), some (iv (got + 1)), some (iv had), some (iv (@bz (∀ i, 0 ≤ i → i < got → ¬ edg c r (Qf i)) (Classical.propDecidable _))), some (iv (cur % c)), some (iv (cur / c)), none, none, none] [iv z] (mdM rf sz c r G T n le Hh li ac B I m Fi Co Br (Qf) (mkF mk mq 1) gy sd rt lf wy sp ou) := by
        intro z hz
        subst hz
        refine a_istore (pc := 99) ok dX7_floodHole_99 rfl (by rw [hN]; decide) ?_
        refine a_iconst (pc := 101) ok dX7_floodHole_101 ?_
        refine a_istore (pc := 102) ok dX7_floodHole_102 rfl (by rw [hN]; decide) ?_
        exact AW.cast (dloop (mq, Qf, had, 0) ⟨h1, h2, by dsimp only; omega, fun i _ => rfl, by dsimp only; omega, fun x y a1 a2 a3 => by dsimp only at a3; omega⟩) rfl rfl rfl
      have hedge : edg c r cur ↔ (cur % c = 0 ∨ cur % c = c - 1 ∨ cur / c = 0 ∨ cur / c = r - 1) := Iff.rfl
      have fno : edg c r cur → (0 : Int) = (@bz (∀ i, 0 ≤ i → i < got + 1 → ¬ edg c r (Qf i)) (Classical.propDecidable _)) := fun h => (@bz_neg _ (Classical.propDecidable _) (fun z => z got (by omega) (by omega) (by rw [← ecur]; exact h))).symm
      have fno2 : (@bz (∀ i, 0 ≤ i → i < got → ¬ edg c r (Qf i)) (Classical.propDecidable _)) = 0 → (0 : Int) = (@bz (∀ i, 0 ≤ i → i < got + 1 → ¬ edg c r (Qf i)) (Classical.propDecidable _)) := fun h => (@bz_neg _ (Classical.propDecidable _) (fun z => by
        rw [@bz_pos _ (Classical.propDecidable _) (show ∀ i, 0 ≤ i → i < got → ¬ edg c r (Qf i) from fun i a1 a2 => z i a1 (by omega))] at h
        exact absurd h (by decide))).symm
      have fyes : ¬ (@bz (∀ i, 0 ≤ i → i < got → ¬ edg c r (Qf i)) (Classical.propDecidable _)) = 0 → ¬ edg c r cur → (1 : Int) = (@bz (∀ i, 0 ≤ i → i < got + 1 → ¬ edg c r (Qf i)) (Classical.propDecidable _)) := fun h h' => (@bz_pos _ (Classical.propDecidable _) (fun i a1 a2 => by
        by_cases e : i = got
        · rw [e, ← ecur]; exact h'
        · exact (Classical.byContradiction fun z => h (@bz_neg _ (Classical.propDecidable _) z) : ∀ i, 0 ≤ i → i < got → ¬ edg c r (Qf i)) i a1 (by omega))).symm
      refine a_iload (pc := 23) ok dX7_floodHole_23 rfl ?_
      refine a_iload (pc := 25) ok dX7_floodHole_25 rfl ?_
      refine a_icmp_ge (pc := 27) (tgt := 225) ok dX7_floodHole_27 (by decide) (by first | omega | (unfold rg; omega) | (simp only [rg] at *; omega) | exact bz_rg _ | grind [rg]) (by first | omega | (unfold rg; omega) | (simp only [rg] at *; omega) | exact bz_rg _ | grind [rg]) (fun c27 => ?_) (fun c27 => ?_)
      · exfalso; first | omega | grind
      · refine a_aload_n (pc := 30) ok dX7_floodHole_30 rfl ?_
        refine a_getf (pc := 31) ok dX7_floodHole_31 fl7_44 rfl rfl ?_
        refine a_iload (pc := 34) ok dX7_floodHole_34 rfl ?_
        refine a_iald (pc := 36) ok dX7_floodHole_36 rfl (by first | decide | omega) (by first | omega | (unfold rg; omega) | (simp only [rg] at *; omega) | exact bz_rg _ | grind [rg]) ?_
        rw [← ecur]
        refine a_aload_n (pc := 37) ok dX7_floodHole_37 rfl ?_
        refine a_iconst (pc := 38) ok dX7_floodHole_38 ?_
        refine a_rldC (pc := 39) ok dX7_floodHole_39 rfl ?_
        refine a_irem (pc := 40) ok dX7_floodHole_40 (by first | omega | (unfold rg; omega) | (simp only [rg] at *; omega) | exact bz_rg _ | grind [rg]) (by first | omega | (unfold rg; omega) | (simp only [rg] at *; omega) | exact bz_rg _ | grind [rg]) ?_
        refine a_istore (pc := 41) ok dX7_floodHole_41 rfl (by rw [hN]; decide) ?_
        refine a_aload_n (pc := 43) ok dX7_floodHole_43 rfl ?_
        refine a_getf (pc := 44) ok dX7_floodHole_44 fl7_44 rfl rfl ?_
        refine a_iload (pc := 47) ok dX7_floodHole_47 rfl ?_
        refine a_iald (pc := 49) ok dX7_floodHole_49 rfl (by first | decide | omega) (by first | omega | (unfold rg; omega) | (simp only [rg] at *; omega) | exact bz_rg _ | grind [rg]) ?_
        rw [← ecur]
        refine a_aload_n (pc := 50) ok dX7_floodHole_50 rfl ?_
        refine a_iconst (pc := 51) ok dX7_floodHole_51 ?_
        refine a_rldC (pc := 52) ok dX7_floodHole_52 rfl ?_
        refine a_idiv (pc := 53) ok dX7_floodHole_53 (by first | omega | (unfold rg; omega) | (simp only [rg] at *; omega) | exact bz_rg _ | grind [rg]) (by first | omega | (unfold rg; omega) | (simp only [rg] at *; omega) | exact bz_rg _ | grind [rg]) ?_
        refine a_istore (pc := 54) ok dX7_floodHole_54 rfl (by rw [hN]; decide) ?_
        refine a_iinc (pc := 56) ok dX7_floodHole_56 rfl rfl (by rw [hN]; decide) ?_
        refine a_iload (pc := 59) ok dX7_floodHole_59 rfl ?_
        refine a_if_eq (pc := 61) (tgt := 98) ok dX7_floodHole_61 (by decide) (by exact @bz_rg _ (Classical.propDecidable _)) (fun c61 => ?_) (fun c61 => ?_)
        · refine a_iconst (pc := 98) ok dX7_floodHole_98 ?_
          exact flag 0 (fno2 c61)
        · refine a_iload (pc := 64) ok dX7_floodHole_64 rfl ?_
          refine a_if_le (pc := 66) (tgt := 98) ok dX7_floodHole_66 (by decide) (by first | omega | (unfold rg; omega) | (simp only [rg] at *; omega) | exact bz_rg _ | grind [rg]) (fun c66 => ?_) (fun c66 => ?_)
          · refine a_iconst (pc := 98) ok dX7_floodHole_98 ?_
            exact flag 0 (fno (by rw [hedge]; omega))
          · refine a_iload (pc := 69) ok dX7_floodHole_69 rfl ?_
            refine a_if_le (pc := 71) (tgt := 98) ok dX7_floodHole_71 (by decide) (by first | omega | (unfold rg; omega) | (simp only [rg] at *; omega) | exact bz_rg _ | grind [rg]) (fun c71 => ?_) (fun c71 => ?_)
            · refine a_iconst (pc := 98) ok dX7_floodHole_98 ?_
              exact flag 0 (fno (by rw [hedge]; omega))
            · refine a_iload (pc := 74) ok dX7_floodHole_74 rfl ?_
              refine a_aload_n (pc := 76) ok dX7_floodHole_76 rfl ?_
              refine a_iconst (pc := 77) ok dX7_floodHole_77 ?_
              refine a_rldC (pc := 78) ok dX7_floodHole_78 rfl ?_
              refine a_iconst (pc := 79) ok dX7_floodHole_79 ?_
              refine a_isub (pc := 80) ok dX7_floodHole_80 ?_
              refine a_icmp_ge (pc := 81) (tgt := 98) ok dX7_floodHole_81 (by decide) (by first | omega | (unfold rg; omega) | (simp only [rg] at *; omega) | exact bz_rg _ | grind [rg]) (by first | omega | (unfold rg; omega) | (simp only [rg] at *; omega) | exact bz_rg _ | grind [rg]) (fun c81 => ?_) (fun c81 => ?_)
              · refine a_iconst (pc := 98) ok dX7_floodHole_98 ?_
                exact flag 0 (fno (by rw [hedge]; omega))
              · refine a_iload (pc := 84) ok dX7_floodHole_84 rfl ?_
                refine a_aload_n (pc := 86) ok dX7_floodHole_86 rfl ?_
                refine a_iconst (pc := 87) ok dX7_floodHole_87 ?_
                refine a_rldR (pc := 88) ok dX7_floodHole_88 rfl ?_
                refine a_iconst (pc := 89) ok dX7_floodHole_89 ?_
                refine a_isub (pc := 90) ok dX7_floodHole_90 ?_
                refine a_icmp_ge (pc := 91) (tgt := 98) ok dX7_floodHole_91 (by decide) (by first | omega | (unfold rg; omega) | (simp only [rg] at *; omega) | exact bz_rg _ | grind [rg]) (by first | omega | (unfold rg; omega) | (simp only [rg] at *; omega) | exact bz_rg _ | grind [rg]) (fun c91 => ?_) (fun c91 => ?_)
                · refine a_iconst (pc := 98) ok dX7_floodHole_98 ?_
                  exact flag 0 (fno (by rw [hedge]; omega))
                · refine a_iconst (pc := 94) ok dX7_floodHole_94 ?_
                  refine a_goto (pc := 95) (tgt := 99) ok dX7_floodHole_95 (by decide) ?_
                  exact flag 1 (fyes c61 (by rw [hedge]; omega))
    · have e : got = had := by omega
      subst e
      have hdone := BI_done h1 h2
      have ef : (∀ i, 0 ≤ i → i < got → ¬ edg c r (Qf i)) ↔ inr c r b L s := ⟨fun z i hi => by obtain ⟨a, a1, a2, a3⟩ := h1.2.2.2.1 i ((hdone i).mpr hi); rw [← a3]; exact z a a1 a2, fun z i a1 a2 => z _ ((hdone _).mp (h1.2.2.1 i a1 a2))⟩
      rw [@bz_iff _ _ (Classical.propDecidable _) (Classical.propDecidable _) ef, mkF_congr hdone]
      refine a_iload (pc := 23) ok dX7_floodHole_23 rfl ?_
      refine a_iload (pc := 25) ok dX7_floodHole_25 rfl ?_
      refine a_icmp_ge (pc := 27) (tgt := 225) ok dX7_floodHole_27 (by decide) (by first | omega | (unfold rg; omega) | (simp only [rg] at *; omega) | exact bz_rg _ | grind [rg]) (by first | omega | (unfold rg; omega) | (simp only [rg] at *; omega) | exact bz_rg _ | grind [rg]) (fun c27 => ?_) (fun c27 => ?_)
      · refine a_iload (pc := 225) ok dX7_floodHole_225 rfl ?_
        exact a_zret (pc := 227) ok dX7_floodHole_227 (by first | rfl | exact nb_bz _ | exact @nb_bz _ (Classical.propDecidable _) | decide) (⟨rfl, Qf, rfl⟩)
      · exfalso; first | omega | grind
  refine a_iconst (pc := 0) ok dX7_floodHole_0 ?_
  refine a_istore (pc := 1) ok dX7_floodHole_1 rfl (by rw [hN]; decide) ?_
  refine a_iconst (pc := 3) ok dX7_floodHole_3 ?_
  refine a_istore (pc := 4) ok dX7_floodHole_4 rfl (by rw [hN]; decide) ?_
  refine a_iconst (pc := 6) ok dX7_floodHole_6 ?_
  refine a_istore (pc := 7) ok dX7_floodHole_7 rfl (by rw [hN]; decide) ?_
  refine a_aload_n (pc := 9) ok dX7_floodHole_9 rfl ?_
  refine a_getf (pc := 10) ok dX7_floodHole_10 fl7_44 rfl rfl ?_
  refine a_iconst (pc := 13) ok dX7_floodHole_13 ?_
  refine a_iload_n (pc := 14) ok dX7_floodHole_14 rfl ?_
  refine a_iast (pc := 15) ok dX7_floodHole_15 rfl (by first | decide | omega) (by first | omega | (unfold rg; omega) | (simp only [rg] at *; omega) | exact bz_rg _ | grind [rg]) ?_
  refine a_aload_n (pc := 16) ok dX7_floodHole_16 rfl ?_
  refine a_getf (pc := 17) ok dX7_floodHole_17 fl7_47 rfl rfl ?_
  refine a_iload_n (pc := 20) ok dX7_floodHole_20 rfl ?_
  refine a_iconst (pc := 21) ok dX7_floodHole_21 ?_
  refine a_iast (pc := 22) ok dX7_floodHole_22 rfl (by first | decide | omega) (by first | omega | (unfold rg; omega) | (simp only [rg] at *; omega) | exact bz_rg _ | grind [rg]) ?_
  refine AW.cast (loop (fun j => j = s, up Wt 0 s, 1, 0) ⟨BI_start (cel_N hd hs) (show up Wt 0 s 0 = s from if_pos rfl), fun i a1 a2 => by dsimp only at a2; omega, by dsimp only; omega, by dsimp only; omega⟩) ?_ rfl ?_
  · rw [@bz_pos _ (Classical.propDecidable _) (show ∀ i, 0 ≤ i → i < ((fun j => j = s, up Wt 0 s, 1, 0) : (Int → Prop) × (Int → Int) × Int × Int).2.2.2 → ¬ edg c r (((fun j => j = s, up Wt 0 s, 1, 0) : (Int → Prop) × (Int → Int) × Int × Int).2.1 i) from fun i a1 a2 => by dsimp only at a2; omega)]
    rfl
  · rw [← mkF_one]; rfl
end MD7
