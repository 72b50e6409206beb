/-! MODEL: commands on the trial. -/
section MP9
variable {l : Launch} {rf sz : Int} {S : St} {ac : Int} {B I : Int → Int} {m : Int} {Fi Co Br Wt mk gy : Int → Int} {S2 : St} {tx di ke ik ea : Int → Int} {sd rt lf wy sp ou : Int}
theorem dX7_paints_0 : decode cX7_paints 0 = .ok (.aload_n 0, 1) := by decide +kernel
theorem dX7_paints_1 : decode cX7_paints 1 = .ok (.getfield 16, 3) := by decide +kernel
theorem dX7_paints_4 : decode cX7_paints 4 = .ok (.iload_n 1, 1) := by decide +kernel
theorem dX7_paints_5 : decode cX7_paints 5 = .ok (.invokestatic 122, 3) := by decide +kernel
theorem dX7_paints_8 : decode cX7_paints 8 = .ok (.ifCond .eq 45, 3) := by decide +kernel
theorem dX7_paints_11 : decode cX7_paints 11 = .ok (.aload_n 0, 1) := by decide +kernel
theorem dX7_paints_12 : decode cX7_paints 12 = .ok (.getfield 16, 3) := by decide +kernel
theorem dX7_paints_15 : decode cX7_paints 15 = .ok (.iload_n 2, 1) := by decide +kernel
theorem dX7_paints_16 : decode cX7_paints 16 = .ok (.invokestatic 126, 3) := by decide +kernel
theorem dX7_paints_19 : decode cX7_paints 19 = .ok (.ifCond .eq 34, 3) := by decide +kernel
theorem dX7_paints_22 : decode cX7_paints 22 = .ok (.iload_n 3, 1) := by decide +kernel
theorem dX7_paints_23 : decode cX7_paints 23 = .ok (.invokestatic 302, 3) := by decide +kernel
theorem dX7_paints_26 : decode cX7_paints 26 = .ok (.ifCond .eq 27, 3) := by decide +kernel
theorem dX7_paints_29 : decode cX7_paints 29 = .ok (.aload_n 0, 1) := by decide +kernel
theorem dX7_paints_30 : decode cX7_paints 30 = .ok (.getfield 16, 3) := by decide +kernel
theorem dX7_paints_33 : decode cX7_paints 33 = .ok (.aload_n 0, 1) := by decide +kernel
theorem dX7_paints_34 : decode cX7_paints 34 = .ok (.getfield 16, 3) := by decide +kernel
theorem dX7_paints_37 : decode cX7_paints 37 = .ok (.iload_n 1, 1) := by decide +kernel
theorem dX7_paints_38 : decode cX7_paints 38 = .ok (.iload_n 2, 1) := by decide +kernel
theorem dX7_paints_39 : decode cX7_paints 39 = .ok (.invokestatic 129, 3) := by decide +kernel
theorem dX7_paints_42 : decode cX7_paints 42 = .ok (.iload_n 3, 1) := by decide +kernel
theorem dX7_paints_43 : decode cX7_paints 43 = .ok (.invokestatic 158, 3) := by decide +kernel
theorem dX7_paints_46 : decode cX7_paints 46 = .ok (.ifCond .lt 7, 3) := by decide +kernel
theorem dX7_paints_49 : decode cX7_paints 49 = .ok (.iconst 1, 1) := by decide +kernel
theorem dX7_paints_50 : decode cX7_paints 50 = .ok (.goto 4, 3) := by decide +kernel
theorem dX7_paints_53 : decode cX7_paints 53 = .ok (.iconst 0, 1) := by decide +kernel
theorem dX7_paints_54 : decode cX7_paints 54 = .ok (.ireturn, 1) := by decide +kernel
theorem c_mpaints {x y g : Int} (hS : SV S2) (hx : rg x) (hy : rg y) (hg : rg g) : Cd l yX7_paints cX7_paints 4 (some .boolean) rmX7_paints [.ref 0, iv x, iv y, iv g] (mdW rf sz S ac B I m Fi Co Br Wt mk gy S2 tx di ke ik ea sd rt lf wy sp ou) (some (iv (bz (kP S2 x y g)))) (mdW rf sz S ac B I m Fi Co Br Wt mk gy (stP S2 x y g) tx di ke ik ea sd rt lf wy sp ou) := by
  refine Ct.of miX7_paints (Nat.le_of_ble_eq_true rfl) ?_
  intro X hXl hN ok
  refine AW.cast (L2 := [some (.ref 0), some (iv x), some (iv y), some (iv g)]) ?_ rfl rfl rfl
  have hd := hS.1
  by_cases hk : kP S2 x y g
  · rw [bz_pos hk, show stP S2 x y g = gP S2 x y g from if_pos hk] at ok
    obtain ⟨⟨k1, k2, k3, k4⟩, k5⟩ := hk
    have hcel := xy_cel hd ⟨k1, k2⟩ ⟨k3, k4⟩
    have hc := dim_cells hd
    have hc1 := hcel.1
    have hc2 := hcel.2
    have hGk := hS.2.1 (y * sC S2 + x)
    refine a_aload_n (pc := 0) ok dX7_paints_0 rfl ?_
    refine a_getf (pc := 1) ok dX7_paints_1 fl7_16 rfl rfl ?_
    refine a_iload_n (pc := 4) ok dX7_paints_4 rfl ?_
    refine a_callSp (pc := 5) ok [10] dX7_paints_5 mv7_122 miX7_isColumn (c_isColumn hd hx) ⟨by decide, by decide, rfl, rfl, Nat.zero_le _, Nat.zero_le _⟩ rfl rfl (Nat.le_of_ble_eq_true rfl) rfl (by decide) ?_
    refine a_if_eq (pc := 8) (tgt := 53) ok dX7_paints_8 (by decide) (by exact bz_rg _) (fun c8 => ?_) (fun c8 => ?_)
    · exact False.elim (bz_0.mp c8 ⟨k1, k2⟩)
    · refine a_aload_n (pc := 11) ok dX7_paints_11 rfl ?_
      refine a_getf (pc := 12) ok dX7_paints_12 fl7_16 rfl rfl ?_
      refine a_iload_n (pc := 15) ok dX7_paints_15 rfl ?_
      refine a_callSp (pc := 16) ok [10] dX7_paints_16 mv7_126 miX7_isRow (c_isRow hd hy) ⟨by decide, by decide, rfl, rfl, Nat.zero_le _, Nat.zero_le _⟩ rfl rfl (Nat.le_of_ble_eq_true rfl) rfl (by decide) ?_
      refine a_if_eq (pc := 19) (tgt := 53) ok dX7_paints_19 (by decide) (by exact bz_rg _) (fun c19 => ?_) (fun c19 => ?_)
      · exact False.elim (bz_0.mp c19 ⟨k3, k4⟩)
      · refine a_iload_n (pc := 22) ok dX7_paints_22 rfl ?_
        refine a_callSp (pc := 23) ok [] dX7_paints_23 mv7_302 miX7_isGrey (c_isGrey hg) ⟨by decide, by decide, rfl, rfl, Nat.zero_le _, Nat.zero_le _⟩ rfl rfl (Nat.le_of_ble_eq_true rfl) rfl (by decide) ?_
        refine a_if_eq (pc := 26) (tgt := 53) ok dX7_paints_26 (by decide) (by exact bz_rg _) (fun c26 => ?_) (fun c26 => ?_)
        · exact False.elim (bz_0.mp c26 k5)
        · refine a_aload_n (pc := 29) ok dX7_paints_29 rfl ?_
          refine a_getf (pc := 30) ok dX7_paints_30 fl7_16 rfl rfl ?_
          refine a_aload_n (pc := 33) ok dX7_paints_33 rfl ?_
          refine a_getf (pc := 34) ok dX7_paints_34 fl7_16 rfl rfl ?_
          refine a_iload_n (pc := 37) ok dX7_paints_37 rfl ?_
          refine a_iload_n (pc := 38) ok dX7_paints_38 rfl ?_
          refine a_callSp (pc := 39) ok [10] dX7_paints_39 mv7_129 miX7_at (c_at) ⟨by decide, by decide, rfl, rfl, Nat.zero_le _, Nat.zero_le _⟩ rfl rfl (Nat.le_of_ble_eq_true rfl) rfl (by decide) ?_
          refine a_iload_n (pc := 42) ok dX7_paints_42 rfl ?_
          refine a_callSi (pc := 43) ok [10] dX7_paints_43 mv7_158 miX7_cellOn (c_cellOn (by omega)) ⟨by decide, by decide, rfl, rfl, Nat.zero_le _, Nat.zero_le _⟩ rfl rfl (Nat.le_of_ble_eq_true rfl) rfl (by decide) rfl ?_
          refine a_if_lt (pc := 46) (tgt := 53) ok dX7_paints_46 (by decide) (by first | omega | (unfold rg; omega) | (simp only [rg] at *; omega) | exact bz_rg _ | grind [rg]) (fun c46 => ?_) (fun c46 => ?_)
          · omega
          · refine a_iconst (pc := 49) ok dX7_paints_49 ?_
            refine a_goto (pc := 50) (tgt := 54) ok dX7_paints_50 (by decide) ?_
            exact a_zret (pc := 54) ok dX7_paints_54 (by first | rfl | exact nb_bz _ | exact @nb_bz _ (Classical.propDecidable _) | decide) (⟨rfl, rfl⟩)
  · rw [bz_neg hk, show stP S2 x y g = S2 from if_neg hk] at ok
    refine a_aload_n (pc := 0) ok dX7_paints_0 rfl ?_
    refine a_getf (pc := 1) ok dX7_paints_1 fl7_16 rfl rfl ?_
    refine a_iload_n (pc := 4) ok dX7_paints_4 rfl ?_
    refine a_callSp (pc := 5) ok [10] dX7_paints_5 mv7_122 miX7_isColumn (c_isColumn hd hx) ⟨by decide, by decide, rfl, rfl, Nat.zero_le _, Nat.zero_le _⟩ rfl rfl (Nat.le_of_ble_eq_true rfl) rfl (by decide) ?_
    refine a_if_eq (pc := 8) (tgt := 53) ok dX7_paints_8 (by decide) (by exact bz_rg _) (fun c8 => ?_) (fun c8 => ?_)
    · refine a_iconst (pc := 53) ok dX7_paints_53 ?_
      exact a_zret (pc := 54) ok dX7_paints_54 (by first | rfl | exact nb_bz _ | exact @nb_bz _ (Classical.propDecidable _) | decide) (⟨rfl, rfl⟩)
    · refine a_aload_n (pc := 11) ok dX7_paints_11 rfl ?_
      refine a_getf (pc := 12) ok dX7_paints_12 fl7_16 rfl rfl ?_
      refine a_iload_n (pc := 15) ok dX7_paints_15 rfl ?_
      refine a_callSp (pc := 16) ok [10] dX7_paints_16 mv7_126 miX7_isRow (c_isRow hd hy) ⟨by decide, by decide, rfl, rfl, Nat.zero_le _, Nat.zero_le _⟩ rfl rfl (Nat.le_of_ble_eq_true rfl) rfl (by decide) ?_
      refine a_if_eq (pc := 19) (tgt := 53) ok dX7_paints_19 (by decide) (by exact bz_rg _) (fun c19 => ?_) (fun c19 => ?_)
      · refine a_iconst (pc := 53) ok dX7_paints_53 ?_
        exact a_zret (pc := 54) ok dX7_paints_54 (by first | rfl | exact nb_bz _ | exact @nb_bz _ (Classical.propDecidable _) | decide) (⟨rfl, rfl⟩)
      · refine a_iload_n (pc := 22) ok dX7_paints_22 rfl ?_
        refine a_callSp (pc := 23) ok [] dX7_paints_23 mv7_302 miX7_isGrey (c_isGrey hg) ⟨by decide, by decide, rfl, rfl, Nat.zero_le _, Nat.zero_le _⟩ rfl rfl (Nat.le_of_ble_eq_true rfl) rfl (by decide) ?_
        refine a_if_eq (pc := 26) (tgt := 53) ok dX7_paints_26 (by decide) (by exact bz_rg _) (fun c26 => ?_) (fun c26 => ?_)
        · refine a_iconst (pc := 53) ok dX7_paints_53 ?_
          exact a_zret (pc := 54) ok dX7_paints_54 (by first | rfl | exact nb_bz _ | exact @nb_bz _ (Classical.propDecidable _) | decide) (⟨rfl, rfl⟩)
        · exact False.elim (hk ⟨⟨(bz_y c8).1, (bz_y c8).2, (bz_y c19).1, (bz_y c19).2⟩, bz_y c26⟩)
theorem dX7_setsLeast_0 : decode cX7_setsLeast 0 = .ok (.iload_n 1, 1) := by decide +kernel
theorem dX7_setsLeast_1 : decode cX7_setsLeast 1 = .ok (.i2l, 1) := by decide +kernel
theorem dX7_setsLeast_2 : decode cX7_setsLeast 2 = .ok (.lconst 1, 1) := by decide +kernel
theorem dX7_setsLeast_3 : decode cX7_setsLeast 3 = .ok (.ldc2_w 311, 3) := by decide +kernel
theorem dX7_setsLeast_6 : decode cX7_setsLeast 6 = .ok (.invokestatic 68, 3) := by decide +kernel
theorem dX7_setsLeast_9 : decode cX7_setsLeast 9 = .ok (.istore_n 2, 1) := by decide +kernel
theorem dX7_setsLeast_10 : decode cX7_setsLeast 10 = .ok (.aload_n 0, 1) := by decide +kernel
theorem dX7_setsLeast_11 : decode cX7_setsLeast 11 = .ok (.getfield 16, 3) := by decide +kernel
theorem dX7_setsLeast_14 : decode cX7_setsLeast 14 = .ok (.bipush 8, 2) := by decide +kernel
theorem dX7_setsLeast_16 : decode cX7_setsLeast 16 = .ok (.iload_n 2, 1) := by decide +kernel
theorem dX7_setsLeast_17 : decode cX7_setsLeast 17 = .ok (.ifCond .eq 7, 3) := by decide +kernel
theorem dX7_setsLeast_20 : decode cX7_setsLeast 20 = .ok (.iload_n 1, 1) := by decide +kernel
theorem dX7_setsLeast_21 : decode cX7_setsLeast 21 = .ok (.goto 10, 3) := by decide +kernel
theorem dX7_setsLeast_24 : decode cX7_setsLeast 24 = .ok (.aload_n 0, 1) := by decide +kernel
theorem dX7_setsLeast_25 : decode cX7_setsLeast 25 = .ok (.getfield 16, 3) := by decide +kernel
theorem dX7_setsLeast_28 : decode cX7_setsLeast 28 = .ok (.bipush 8, 2) := by decide +kernel
theorem dX7_setsLeast_30 : decode cX7_setsLeast 30 = .ok (.iaload, 1) := by decide +kernel
theorem dX7_setsLeast_31 : decode cX7_setsLeast 31 = .ok (.iastore, 1) := by decide +kernel
theorem dX7_setsLeast_32 : decode cX7_setsLeast 32 = .ok (.iload_n 2, 1) := by decide +kernel
theorem dX7_setsLeast_33 : decode cX7_setsLeast 33 = .ok (.ireturn, 1) := by decide +kernel
theorem c_msetsLeast {v : Int} (hv : rg v) : Cd l yX7_setsLeast cX7_setsLeast 3 (some .boolean) rmX7_setsLeast [.ref 0, iv v] (mdW rf sz S ac B I m Fi Co Br Wt mk gy S2 tx di ke ik ea sd rt lf wy sp ou) (some (iv (bz (1 ≤ v ∧ v ≤ 30)))) (mdW rf sz S ac B I m Fi Co Br Wt mk gy (stL S2 v) tx di ke ik ea sd rt lf wy sp ou) := by
  refine Ct.of miX7_setsLeast (Nat.le_of_ble_eq_true rfl) ?_
  intro X hXl hN ok
  refine AW.cast (L2 := [some (.ref 0), some (iv v), none]) ?_ rfl rfl rfl
  by_cases hk : 1 ≤ v ∧ v ≤ 30
  · rw [show stL S2 v = setE S2 v from if_pos hk] at ok
    refine a_iload_n (pc := 0) ok dX7_setsLeast_0 rfl ?_
    refine a_i2l (pc := 1) ok dX7_setsLeast_1 (by first | omega | (unfold rg; omega) | (simp only [rg] at *; omega) | exact bz_rg _ | grind [rg]) ?_
    refine a_lconst (pc := 2) (z := 1) ok dX7_setsLeast_2 rfl ?_
    refine a_ldc2 (pc := 3) (z := 30) (v := Int64.ofInt 30) ok dX7_setsLeast_3 (ug6 201 (by decide +kernel) rfl) rfl ?_
    refine a_callSp (pc := 6) ok [] dX7_setsLeast_6 mv7_68 miX7_in (c_in (by unfold rgL; unfold rg at hv; omega) (by unfold rgL; omega) (by unfold rgL; omega)) ⟨by decide, by decide, rfl, rfl, Nat.zero_le _, Nat.zero_le _⟩ rfl rfl (Nat.le_of_ble_eq_true rfl) rfl (by decide) ?_
    refine a_istore_n (pc := 9) ok dX7_setsLeast_9 rfl (by rw [hN]; decide) ?_
    refine a_aload_n (pc := 10) ok dX7_setsLeast_10 rfl ?_
    refine a_getf (pc := 11) ok dX7_setsLeast_11 fl7_16 rfl rfl ?_
    refine a_bipush (pc := 14) ok dX7_setsLeast_14 (by decide) ?_
    refine a_iload_n (pc := 16) ok dX7_setsLeast_16 rfl ?_
    refine a_if_eq (pc := 17) (tgt := 24) ok dX7_setsLeast_17 (by decide) (by exact bz_rg _) (fun c17 => ?_) (fun c17 => ?_)
    · exact False.elim (bz_0.mp c17 hk)
    · refine a_iload_n (pc := 20) ok dX7_setsLeast_20 rfl ?_
      refine a_goto (pc := 21) (tgt := 31) ok dX7_setsLeast_21 (by decide) ?_
      refine a_rstS (pc := 31) ok dX7_setsLeast_31 rfl ?_
      refine a_iload_n (pc := 32) ok dX7_setsLeast_32 rfl ?_
      exact a_zret (pc := 33) ok dX7_setsLeast_33 (by first | rfl | exact nb_bz _ | exact @nb_bz _ (Classical.propDecidable _) | decide) (⟨rfl, rfl⟩)
  · rw [show stL S2 v = S2 from if_neg hk] at ok
    refine a_iload_n (pc := 0) ok dX7_setsLeast_0 rfl ?_
    refine a_i2l (pc := 1) ok dX7_setsLeast_1 (by first | omega | (unfold rg; omega) | (simp only [rg] at *; omega) | exact bz_rg _ | grind [rg]) ?_
    refine a_lconst (pc := 2) (z := 1) ok dX7_setsLeast_2 rfl ?_
    refine a_ldc2 (pc := 3) (z := 30) (v := Int64.ofInt 30) ok dX7_setsLeast_3 (ug6 201 (by decide +kernel) rfl) rfl ?_
    refine a_callSp (pc := 6) ok [] dX7_setsLeast_6 mv7_68 miX7_in (c_in (by unfold rgL; unfold rg at hv; omega) (by unfold rgL; omega) (by unfold rgL; omega)) ⟨by decide, by decide, rfl, rfl, Nat.zero_le _, Nat.zero_le _⟩ rfl rfl (Nat.le_of_ble_eq_true rfl) rfl (by decide) ?_
    refine a_istore_n (pc := 9) ok dX7_setsLeast_9 rfl (by rw [hN]; decide) ?_
    refine a_aload_n (pc := 10) ok dX7_setsLeast_10 rfl ?_
    refine a_getf (pc := 11) ok dX7_setsLeast_11 fl7_16 rfl rfl ?_
    refine a_bipush (pc := 14) ok dX7_setsLeast_14 (by decide) ?_
    refine a_iload_n (pc := 16) ok dX7_setsLeast_16 rfl ?_
    refine a_if_eq (pc := 17) (tgt := 24) ok dX7_setsLeast_17 (by decide) (by exact bz_rg _) (fun c17 => ?_) (fun c17 => ?_)
    · refine a_aload_n (pc := 24) ok dX7_setsLeast_24 rfl ?_
      refine a_getf (pc := 25) ok dX7_setsLeast_25 fl7_16 rfl rfl ?_
      refine a_bipush (pc := 28) ok dX7_setsLeast_28 (by decide) ?_
      refine a_rldS (pc := 30) ok dX7_setsLeast_30 rfl ?_
      refine a_rstS (pc := 31) ok dX7_setsLeast_31 rfl ?_
      refine a_iload_n (pc := 32) ok dX7_setsLeast_32 rfl ?_
      exact a_zret (pc := 33) ok dX7_setsLeast_33 (by first | rfl | exact nb_bz _ | exact @nb_bz _ (Classical.propDecidable _) | decide) (⟨rfl, rfl⟩)
    · exact False.elim (hk (bz_y c17))
theorem dX7_parts_0 : decode cX7_parts 0 = .ok (.iload_n 1, 1) := by decide +kernel
theorem dX7_parts_1 : decode cX7_parts 1 = .ok (.invokestatic 305, 3) := by decide +kernel
theorem dX7_parts_4 : decode cX7_parts 4 = .ok (.ifCond .eq 31, 3) := by decide +kernel
theorem dX7_parts_7 : decode cX7_parts 7 = .ok (.aload_n 0, 1) := by decide +kernel
theorem dX7_parts_8 : decode cX7_parts 8 = .ok (.getfield 16, 3) := by decide +kernel
theorem dX7_parts_11 : decode cX7_parts 11 = .ok (.iload_n 1, 1) := by decide +kernel
theorem dX7_parts_12 : decode cX7_parts 12 = .ok (.iload_n 2, 1) := by decide +kernel
theorem dX7_parts_13 : decode cX7_parts 13 = .ok (.invokestatic 227, 3) := by decide +kernel
theorem dX7_parts_16 : decode cX7_parts 16 = .ok (.ifCond .eq 19, 3) := by decide +kernel
theorem dX7_parts_19 : decode cX7_parts 19 = .ok (.aload_n 0, 1) := by decide +kernel
theorem dX7_parts_20 : decode cX7_parts 20 = .ok (.getfield 16, 3) := by decide +kernel
theorem dX7_parts_23 : decode cX7_parts 23 = .ok (.iload_n 1, 1) := by decide +kernel
theorem dX7_parts_24 : decode cX7_parts 24 = .ok (.iload_n 2, 1) := by decide +kernel
theorem dX7_parts_25 : decode cX7_parts 25 = .ok (.invokestatic 170, 3) := by decide +kernel
theorem dX7_parts_28 : decode cX7_parts 28 = .ok (.ifCond .lt 7, 3) := by decide +kernel
theorem dX7_parts_31 : decode cX7_parts 31 = .ok (.iconst 1, 1) := by decide +kernel
theorem dX7_parts_32 : decode cX7_parts 32 = .ok (.goto 4, 3) := by decide +kernel
theorem dX7_parts_35 : decode cX7_parts 35 = .ok (.iconst 0, 1) := by decide +kernel
theorem dX7_parts_36 : decode cX7_parts 36 = .ok (.ireturn, 1) := by decide +kernel
theorem c_mparts {v b : Int} (hS : SV S2) (hv : rg v) (hb : rg b) : Cd l yX7_parts cX7_parts 3 (some .boolean) rmX7_parts [.ref 0, iv v, iv b] (mdW rf sz S ac B I m Fi Co Br Wt mk gy S2 tx di ke ik ea sd rt lf wy sp ou) (some (iv (bz (kT S2 v b)))) (mdW rf sz S ac B I m Fi Co Br Wt mk gy (stT S2 v b) tx di ke ik ea sd rt lf wy sp ou) := by
  refine Ct.of miX7_parts (Nat.le_of_ble_eq_true rfl) ?_
  intro X hXl hN ok
  refine AW.cast (L2 := [some (.ref 0), some (iv v), some (iv b)]) ?_ rfl rfl rfl
  by_cases hk : kT S2 v b
  · rw [bz_pos hk, show stT S2 v b = gT S2 v b from if_pos hk] at ok
    obtain ⟨k1, k2, k3⟩ := hk
    have hn5 := hS.2.2.2.2.1
    have hcn : chN (sN S2) b ≤ 6 := by unfold chN; split <;> omega
    refine a_iload_n (pc := 0) ok dX7_parts_0 rfl ?_
    refine a_callSp (pc := 1) ok [] dX7_parts_1 mv7_305 miX7_isPart (c_isPart hv) ⟨by decide, by decide, rfl, rfl, Nat.zero_le _, Nat.zero_le _⟩ rfl rfl (Nat.le_of_ble_eq_true rfl) rfl (by decide) ?_
    refine a_if_eq (pc := 4) (tgt := 35) ok dX7_parts_4 (by decide) (by exact bz_rg _) (fun c4 => ?_) (fun c4 => ?_)
    · exact False.elim (bz_0.mp c4 ⟨k1, k2⟩)
    · refine a_aload_n (pc := 7) ok dX7_parts_7 rfl ?_
      refine a_getf (pc := 8) ok dX7_parts_8 fl7_16 rfl rfl ?_
      refine a_iload_n (pc := 11) ok dX7_parts_11 rfl ?_
      refine a_iload_n (pc := 12) ok dX7_parts_12 rfl ?_
      refine a_callSp (pc := 13) ok [10] dX7_parts_13 mv7_227 miX7_canPart (c_canPart hS.2.2.2.2.1 hS.2.2.1 hS.2.2.2.1 hv hb) ⟨by decide, by decide, rfl, rfl, Nat.zero_le _, Nat.zero_le _⟩ rfl rfl (Nat.le_of_ble_eq_true rfl) rfl (by decide) ?_
      refine a_if_eq (pc := 16) (tgt := 35) ok dX7_parts_16 (by decide) (by exact bz_rg _) (fun c16 => ?_) (fun c16 => ?_)
      · exact False.elim (bz_0.mp c16 k3)
      · refine a_aload_n (pc := 19) ok dX7_parts_19 rfl ?_
        refine a_getf (pc := 20) ok dX7_parts_20 fl7_16 rfl rfl ?_
        refine a_iload_n (pc := 23) ok dX7_parts_23 rfl ?_
        refine a_iload_n (pc := 24) ok dX7_parts_24 rfl ?_
        refine a_callSi (pc := 25) ok [10] dX7_parts_25 mv7_170 miX7_partOn (c_partOn hS.2.2.2.2.1 hS.2.2.1 hS.2.2.2.1 hv hb k3) ⟨by decide, by decide, rfl, rfl, Nat.zero_le _, Nat.zero_le _⟩ rfl rfl (Nat.le_of_ble_eq_true rfl) rfl (by decide) rfl ?_
        refine a_if_lt (pc := 28) (tgt := 35) ok dX7_parts_28 (by decide) (by unfold rg; omega) (fun c28 => ?_) (fun c28 => ?_)
        · omega
        · refine a_iconst (pc := 31) ok dX7_parts_31 ?_
          refine a_goto (pc := 32) (tgt := 36) ok dX7_parts_32 (by decide) ?_
          exact a_zret (pc := 36) ok dX7_parts_36 (by first | rfl | exact nb_bz _ | exact @nb_bz _ (Classical.propDecidable _) | decide) (⟨rfl, rfl⟩)
  · rw [bz_neg hk, show stT S2 v b = S2 from if_neg hk] at ok
    refine a_iload_n (pc := 0) ok dX7_parts_0 rfl ?_
    refine a_callSp (pc := 1) ok [] dX7_parts_1 mv7_305 miX7_isPart (c_isPart hv) ⟨by decide, by decide, rfl, rfl, Nat.zero_le _, Nat.zero_le _⟩ rfl rfl (Nat.le_of_ble_eq_true rfl) rfl (by decide) ?_
    refine a_if_eq (pc := 4) (tgt := 35) ok dX7_parts_4 (by decide) (by exact bz_rg _) (fun c4 => ?_) (fun c4 => ?_)
    · refine a_iconst (pc := 35) ok dX7_parts_35 ?_
      exact a_zret (pc := 36) ok dX7_parts_36 (by first | rfl | exact nb_bz _ | exact @nb_bz _ (Classical.propDecidable _) | decide) (⟨rfl, rfl⟩)
    · refine a_aload_n (pc := 7) ok dX7_parts_7 rfl ?_
      refine a_getf (pc := 8) ok dX7_parts_8 fl7_16 rfl rfl ?_
      refine a_iload_n (pc := 11) ok dX7_parts_11 rfl ?_
      refine a_iload_n (pc := 12) ok dX7_parts_12 rfl ?_
      refine a_callSp (pc := 13) ok [10] dX7_parts_13 mv7_227 miX7_canPart (c_canPart hS.2.2.2.2.1 hS.2.2.1 hS.2.2.2.1 hv hb) ⟨by decide, by decide, rfl, rfl, Nat.zero_le _, Nat.zero_le _⟩ rfl rfl (Nat.le_of_ble_eq_true rfl) rfl (by decide) ?_
      refine a_if_eq (pc := 16) (tgt := 35) ok dX7_parts_16 (by decide) (by exact bz_rg _) (fun c16 => ?_) (fun c16 => ?_)
      · refine a_iconst (pc := 35) ok dX7_parts_35 ?_
        exact a_zret (pc := 36) ok dX7_parts_36 (by first | rfl | exact nb_bz _ | exact @nb_bz _ (Classical.propDecidable _) | decide) (⟨rfl, rfl⟩)
      · exact False.elim (hk ⟨(bz_y c4).1, (bz_y c4).2, bz_y c16⟩)
end MP9
