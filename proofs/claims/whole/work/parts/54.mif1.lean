/-! MODEL's face: ifLeast, leastFor, ifCell. -/
section MP6
variable {l : Launch} {rf sz : Int} {S : St} {ac : Int} {B I : Int → Int} {m : Int} {Fi Co Br Wt mk gy : Int → Int} {S2 : St} {tx di ke ik ea : Int → Int} {sd rt lf wy sp ou : Int}
noncomputable def aIfL (S : St) (v w : Int) : Int := if w = 0 then mS (setE S v) else if w = 1 then cntK (fun k => decide (bS (setE S v) k ≠ bnd (sT S) (sN S) (sG S) k)) (sC S * sR S).toNat else inkF (sC S) (sR S) (bS (setE S v)) (sH S) (sI S)
def kIfL (v w : Int) : Int := if (1 ≤ v ∧ v ≤ 30) ∧ 0 ≤ w ∧ w ≤ 2 then 0 else 1
theorem kIfL_rg {v w : Int} : 0 ≤ kIfL v w ∧ kIfL v w ≤ 2 := by
  unfold kIfL
  repeat' split
  all_goals omega
theorem kIfL_0 {v w : Int} (e : kIfL v w = 0) : (1 ≤ v ∧ v ≤ 30) ∧ 0 ≤ w ∧ w ≤ 2 := by
  unfold kIfL at e
  repeat' split at e
  all_goals omega
/-- find, told by the state with another least size -/
theorem c_findL {v : Int} (hS : SV S) (hv : rg v) (hB : ∀ i, 0 ≤ B i ∧ B i ≤ 5) (hI : ∀ i, rg (I i)) : Ct l yX7_find cX7_find 7 none rmX7_find [.ref 0, .ref 1, iv v] (mdM rf sz (sC S) (sR S) (sG S) (sT S) (sN S) (sE S) (sH S) (sI S) ac B I m Fi Co Br Wt mk gy sd rt lf wy sp ou)
    (fun z M => z = none ∧ ∃ B' I' Fi' Co' Br' Q' : Int → Int, M = mdM rf sz (sC S) (sR S) (sG S) (sT S) (sN S) (sE S) (sH S) (sI S) ac B' I' (mS (setE S v)) Fi' Co' Br' Q' mk gy sd rt lf wy sp ou ∧ JS (setE S v) B' I' Fi' Co') :=
  c_find hS.1 hS.2.2.2.2.1 hS.2.2.1 hS.2.2.2.1 (SV_rg hS).1 hv hB hI
theorem dX7_ifLeast_0 : decode cX7_ifLeast 0 = .ok (.aload_n 0, 1) := by decide +kernel
theorem dX7_ifLeast_1 : decode cX7_ifLeast 1 = .ok (.iload_n 1, 1) := by decide +kernel
theorem dX7_ifLeast_2 : decode cX7_ifLeast 2 = .ok (.i2l, 1) := by decide +kernel
theorem dX7_ifLeast_3 : decode cX7_ifLeast 3 = .ok (.lconst 1, 1) := by decide +kernel
theorem dX7_ifLeast_4 : decode cX7_ifLeast 4 = .ok (.ldc2_w 311, 3) := by decide +kernel
theorem dX7_ifLeast_7 : decode cX7_ifLeast 7 = .ok (.invokestatic 68, 3) := by decide +kernel
theorem dX7_ifLeast_10 : decode cX7_ifLeast 10 = .ok (.ifCond .eq 19, 3) := by decide +kernel
theorem dX7_ifLeast_13 : decode cX7_ifLeast 13 = .ok (.iload_n 2, 1) := by decide +kernel
theorem dX7_ifLeast_14 : decode cX7_ifLeast 14 = .ok (.i2l, 1) := by decide +kernel
theorem dX7_ifLeast_15 : decode cX7_ifLeast 15 = .ok (.lconst 0, 1) := by decide +kernel
theorem dX7_ifLeast_16 : decode cX7_ifLeast 16 = .ok (.ldc2_w 287, 3) := by decide +kernel
theorem dX7_ifLeast_19 : decode cX7_ifLeast 19 = .ok (.invokestatic 68, 3) := by decide +kernel
theorem dX7_ifLeast_22 : decode cX7_ifLeast 22 = .ok (.ifCond .eq 7, 3) := by decide +kernel
theorem dX7_ifLeast_25 : decode cX7_ifLeast 25 = .ok (.iconst 0, 1) := by decide +kernel
theorem dX7_ifLeast_26 : decode cX7_ifLeast 26 = .ok (.goto 4, 3) := by decide +kernel
theorem dX7_ifLeast_29 : decode cX7_ifLeast 29 = .ok (.iconst 1, 1) := by decide +kernel
theorem dX7_ifLeast_30 : decode cX7_ifLeast 30 = .ok (.invokevirtual 192, 3) := by decide +kernel
theorem dX7_ifLeast_33 : decode cX7_ifLeast 33 = .ok (.ifCond .eq 5, 3) := by decide +kernel
theorem dX7_ifLeast_36 : decode cX7_ifLeast 36 = .ok (.iconst 0, 1) := by decide +kernel
theorem dX7_ifLeast_37 : decode cX7_ifLeast 37 = .ok (.ireturn, 1) := by decide +kernel
theorem dX7_ifLeast_38 : decode cX7_ifLeast 38 = .ok (.aload_n 0, 1) := by decide +kernel
theorem dX7_ifLeast_39 : decode cX7_ifLeast 39 = .ok (.aload_n 0, 1) := by decide +kernel
theorem dX7_ifLeast_40 : decode cX7_ifLeast 40 = .ok (.getfield 13, 3) := by decide +kernel
theorem dX7_ifLeast_43 : decode cX7_ifLeast 43 = .ok (.iload_n 1, 1) := by decide +kernel
theorem dX7_ifLeast_44 : decode cX7_ifLeast 44 = .ok (.invokevirtual 113, 3) := by decide +kernel
theorem dX7_ifLeast_47 : decode cX7_ifLeast 47 = .ok (.iload_n 2, 1) := by decide +kernel
theorem dX7_ifLeast_48 : decode cX7_ifLeast 48 = .ok (.ifCond .ne 10, 3) := by decide +kernel
theorem dX7_ifLeast_51 : decode cX7_ifLeast 51 = .ok (.aload_n 0, 1) := by decide +kernel
theorem dX7_ifLeast_52 : decode cX7_ifLeast 52 = .ok (.getfield 78, 3) := by decide +kernel
theorem dX7_ifLeast_55 : decode cX7_ifLeast 55 = .ok (.goto 27, 3) := by decide +kernel
theorem dX7_ifLeast_58 : decode cX7_ifLeast 58 = .ok (.iload_n 2, 1) := by decide +kernel
theorem dX7_ifLeast_59 : decode cX7_ifLeast 59 = .ok (.iconst 1, 1) := by decide +kernel
theorem dX7_ifLeast_60 : decode cX7_ifLeast 60 = .ok (.if_icmp .ne 14, 3) := by decide +kernel
theorem dX7_ifLeast_63 : decode cX7_ifLeast 63 = .ok (.aload_n 0, 1) := by decide +kernel
theorem dX7_ifLeast_64 : decode cX7_ifLeast 64 = .ok (.aload_n 0, 1) := by decide +kernel
theorem dX7_ifLeast_65 : decode cX7_ifLeast 65 = .ok (.getfield 13, 3) := by decide +kernel
theorem dX7_ifLeast_68 : decode cX7_ifLeast 68 = .ok (.invokevirtual 258, 3) := by decide +kernel
theorem dX7_ifLeast_71 : decode cX7_ifLeast 71 = .ok (.goto 11, 3) := by decide +kernel
theorem dX7_ifLeast_74 : decode cX7_ifLeast 74 = .ok (.aload_n 0, 1) := by decide +kernel
theorem dX7_ifLeast_75 : decode cX7_ifLeast 75 = .ok (.aload_n 0, 1) := by decide +kernel
theorem dX7_ifLeast_76 : decode cX7_ifLeast 76 = .ok (.getfield 13, 3) := by decide +kernel
theorem dX7_ifLeast_79 : decode cX7_ifLeast 79 = .ok (.invokevirtual 294, 3) := by decide +kernel
theorem dX7_ifLeast_82 : decode cX7_ifLeast 82 = .ok (.ireturn, 1) := by decide +kernel
theorem c_mifLeast {v w : Int} (hS : SV S) (hB : ∀ i, 0 ≤ B i ∧ B i ≤ 5) (hI : ∀ i, rg (I i)) (hv : rg v) (hw : rg w) : Ct l yX7_ifLeast cX7_ifLeast 3 (some .int) rmX7_ifLeast [.ref 0, iv v, iv w] (mdW rf sz S ac B I m Fi Co Br Wt mk gy S2 tx di ke ik ea sd rt lf wy sp ou)
    (fun z M => z = some (iv (if kIfL v w = 0 then aIfL S v w else 0)) ∧ WM (kIfL v w) sz S ac tx di ke ik M) := by
  refine Ct.of miX7_ifLeast (Nat.le_of_ble_eq_true rfl) ?_
  intro X hXl hN ok
  refine AW.cast (L2 := [some (.ref 0), some (iv v), some (iv w)]) ?_ rfl rfl rfl
  have hd := hS.1
  have hzr := kIfL_rg (v := v) (w := w)
  have sj : ∀ z : Int, z = kIfL v w → AW X 0 0 30 [some (.ref 0), some (iv v), some (iv w)] [iv z, .ref 0] (mdW rf sz S ac B I m Fi Co Br Wt mk gy S2 tx di ke ik ea sd rt lf wy sp ou) := by
    intro z hz
    rw [← hz] at hzr
    by_cases k0 : kIfL v w = 0
    · rw [if_pos k0] at ok
      rw [k0] at ok hz
      subst hz
      have hw2 := kIfL_0 k0
      refine x_callVi (pc := 30) ok [0, 11, 1, 10, 12, 13, 14, 2, 3, 4, 5, 6, 7, 8, 9, 15] 1 dX7_ifLeast_30 mv7_192 miX7_refused (c_refused (by unfold rg; omega)) ⟨by decide, by decide, rfl, rfl, Nat.zero_le _, Nat.zero_le _⟩ rfl rfl (Nat.le_of_ble_eq_true rfl) rfl rfl (by decide) rfl rfl rfl ?_
      refine a_if_eq (pc := 33) (tgt := 38) ok dX7_ifLeast_33 (by decide) (by first | omega | (unfold rg; omega) | (simp only [rg] at *; omega) | exact bz_rg _ | grind [rg]) (fun c33 => ?_) (fun c33 => ?_)
      · refine AW.cast (M2 := (mdW (0) sz S ac B I m Fi Co Br Wt mk gy S2 tx di ke ik ea sd rt lf wy sp ou)) ?_ rfl rfl rfl
        refine a_aload_n (pc := 38) ok dX7_ifLeast_38 rfl ?_
        refine a_aload_n (pc := 39) ok dX7_ifLeast_39 rfl ?_
        refine a_getf (pc := 40) ok dX7_ifLeast_40 fl7_13 rfl rfl ?_
        refine a_iload_n (pc := 43) ok dX7_ifLeast_43 rfl ?_
        refine x_callV (pc := 44) ok [0, 1, 2, 3, 4, 5, 6, 7, 8, 9, 1, 10, 11, 12, 13, 14, 15] 10 dX7_ifLeast_44 mv7_113 miX7_find (c_findL hS hv hB hI) ⟨by decide, by decide, rfl, rfl, Nat.zero_le _, Nat.zero_le _⟩ rfl rfl (Nat.le_of_ble_eq_true rfl) rfl rfl (by decide) rfl rfl (fun v M' h => by obtain ⟨_, _, _, _, _, _, _, h, _⟩ := h; rw [h]; rfl) ?_
        rintro _ M' ⟨rfl, B', I', Fi', Co', Br', Q', rfl, hJ⟩
        refine AW.cast (st2 := []) (M2 := (mdW (0) sz S ac (B') (I') (mS (setE S v)) (Fi') (Co') (Br') (Q') mk gy S2 tx di ke ik ea sd rt lf wy sp ou)) ?_ rfl rfl rfl
        refine a_iload_n (pc := 47) ok dX7_ifLeast_47 rfl ?_
        refine a_if_ne (pc := 48) (tgt := 58) ok dX7_ifLeast_48 (by decide) (by first | omega | (unfold rg; omega) | (simp only [rg] at *; omega) | exact bz_rg _ | grind [rg]) (fun c48 => ?_) (fun c48 => ?_)
        · refine a_iload_n (pc := 58) ok dX7_ifLeast_58 rfl ?_
          refine a_iconst (pc := 59) ok dX7_ifLeast_59 ?_
          refine a_icmp_ne (pc := 60) (tgt := 74) ok dX7_ifLeast_60 (by decide) (by first | omega | (unfold rg; omega) | (simp only [rg] at *; omega) | exact bz_rg _ | grind [rg]) (by first | omega | (unfold rg; omega) | (simp only [rg] at *; omega) | exact bz_rg _ | grind [rg]) (fun c60 => ?_) (fun c60 => ?_)
          · refine a_aload_n (pc := 74) ok dX7_ifLeast_74 rfl ?_
            refine a_aload_n (pc := 75) ok dX7_ifLeast_75 rfl ?_
            refine a_getf (pc := 76) ok dX7_ifLeast_76 fl7_13 rfl rfl ?_
            refine x_callVp (pc := 79) ok [0, 1, 2, 3, 4, 5, 6, 7, 8, 9, 1, 10, 11, 12, 13, 14, 15] 10 dX7_ifLeast_79 mv7_294 miX7_inkOf (c_inkOf hd hJ) ⟨by decide, by decide, rfl, rfl, Nat.zero_le _, Nat.zero_le _⟩ rfl rfl (Nat.le_of_ble_eq_true rfl) rfl rfl (by decide) rfl rfl ?_
            exact a_iret (pc := 82) ok dX7_ifLeast_82 (⟨by rw [show w = 2 by omega]; rfl, WM_mk hJ.1 hJ.2.1⟩)
          · refine a_aload_n (pc := 63) ok dX7_ifLeast_63 rfl ?_
            refine a_aload_n (pc := 64) ok dX7_ifLeast_64 rfl ?_
            refine a_getf (pc := 65) ok dX7_ifLeast_65 fl7_13 rfl rfl ?_
            refine x_callVp (pc := 68) ok [0, 1, 2, 3, 4, 5, 6, 7, 8, 9, 1, 10, 11, 12, 13, 14, 15] 10 dX7_ifLeast_68 mv7_258 miX7_otherBands (c_otherBands hd hS.2.2.2.2.1 hS.2.2.1 hS.2.2.2.1 (SV_rg hS).1 hJ) ⟨by decide, by decide, rfl, rfl, Nat.zero_le _, Nat.zero_le _⟩ rfl rfl (Nat.le_of_ble_eq_true rfl) rfl rfl (by decide) rfl rfl ?_
            refine a_goto (pc := 71) (tgt := 82) ok dX7_ifLeast_71 (by decide) ?_
            exact a_iret (pc := 82) ok dX7_ifLeast_82 (⟨by rw [show w = 1 by omega]; rfl, WM_mk hJ.1 hJ.2.1⟩)
        · refine a_aload_n (pc := 51) ok dX7_ifLeast_51 rfl ?_
          refine a_getf (pc := 52) ok dX7_ifLeast_52 fl7_78 rfl rfl ?_
          refine a_goto (pc := 55) (tgt := 82) ok dX7_ifLeast_55 (by decide) ?_
          exact a_iret (pc := 82) ok dX7_ifLeast_82 (⟨by rw [show w = 0 by omega]; rfl, WM_mk hJ.1 hJ.2.1⟩)
      · exact absurd rfl c33
    · rw [if_neg k0, ← hz] at ok
      refine x_callVi (pc := 30) ok [0, 11, 1, 10, 12, 13, 14, 2, 3, 4, 5, 6, 7, 8, 9, 15] 1 dX7_ifLeast_30 mv7_192 miX7_refused (c_refused (by unfold rg; omega)) ⟨by decide, by decide, rfl, rfl, Nat.zero_le _, Nat.zero_le _⟩ rfl rfl (Nat.le_of_ble_eq_true rfl) rfl rfl (by decide) rfl rfl rfl ?_
      refine a_if_eq (pc := 33) (tgt := 38) ok dX7_ifLeast_33 (by decide) (by exact bz_rg _) (fun c33 => ?_) (fun c33 => ?_)
      · exact absurd c33 (by rw [bz_pos (show 0 < z by omega)]; decide)
      · refine a_iconst (pc := 36) ok dX7_ifLeast_36 ?_
        exact a_iret (pc := 37) ok dX7_ifLeast_37 (⟨rfl, WM_mk hB hI⟩)
  refine a_aload_n (pc := 0) ok dX7_ifLeast_0 rfl ?_
  refine a_iload_n (pc := 1) ok dX7_ifLeast_1 rfl ?_
  refine a_i2l (pc := 2) ok dX7_ifLeast_2 (by first | omega | (unfold rg; omega) | (simp only [rg] at *; omega) | exact bz_rg _ | grind [rg]) ?_
  refine a_lconst (pc := 3) (z := 1) ok dX7_ifLeast_3 rfl ?_
  refine a_ldc2 (pc := 4) (z := 30) (v := Int64.ofInt 30) ok dX7_ifLeast_4 (ug6 201 (by decide +kernel) rfl) rfl ?_
  refine a_callSp (pc := 7) ok [] dX7_ifLeast_7 mv7_68 miX7_in (c_in (by unfold rgL; unfold rg at hv; omega) (by unfold rgL; omega) (by unfold rgL; omega)) ⟨by decide, by decide, rfl, rfl, Nat.zero_le _, Nat.zero_le _⟩ rfl rfl (Nat.le_of_ble_eq_true rfl) rfl (by decide) ?_
  refine a_if_eq (pc := 10) (tgt := 29) ok dX7_ifLeast_10 (by decide) (by exact bz_rg _) (fun c10 => ?_) (fun c10 => ?_)
  · refine a_iconst (pc := 29) ok dX7_ifLeast_29 ?_
    exact sj 1 (by unfold kIfL; rw [if_neg (fun z => bz_0.mp c10 z.1)])
  · refine a_iload_n (pc := 13) ok dX7_ifLeast_13 rfl ?_
    refine a_i2l (pc := 14) ok dX7_ifLeast_14 (by first | omega | (unfold rg; omega) | (simp only [rg] at *; omega) | exact bz_rg _ | grind [rg]) ?_
    refine a_lconst (pc := 15) (z := 0) ok dX7_ifLeast_15 rfl ?_
    refine a_ldc2 (pc := 16) (z := 2) (v := Int64.ofInt 2) ok dX7_ifLeast_16 (ug6 133 (by decide +kernel) rfl) rfl ?_
    refine a_callSp (pc := 19) ok [] dX7_ifLeast_19 mv7_68 miX7_in (c_in (by unfold rgL; unfold rg at hw; omega) (by unfold rgL; omega) (by unfold rgL; omega)) ⟨by decide, by decide, rfl, rfl, Nat.zero_le _, Nat.zero_le _⟩ rfl rfl (Nat.le_of_ble_eq_true rfl) rfl (by decide) ?_
    refine a_if_eq (pc := 22) (tgt := 29) ok dX7_ifLeast_22 (by decide) (by exact bz_rg _) (fun c22 => ?_) (fun c22 => ?_)
    · refine a_iconst (pc := 29) ok dX7_ifLeast_29 ?_
      exact sj 1 (by unfold kIfL; rw [if_neg (fun z => bz_0.mp c22 z.2)])
    · refine a_iconst (pc := 25) ok dX7_ifLeast_25 ?_
      refine a_goto (pc := 26) (tgt := 30) ok dX7_ifLeast_26 (by decide) ?_
      exact sj 0 (by unfold kIfL; rw [if_pos ⟨bz_y c10, bz_y c22⟩])
/-- the first least size from v on, of f, with at most n islands -/
noncomputable def lfK (S : St) (n : Int) : Nat → Int → Int
  | 0, _ => -1
  | f + 1, v => if mS (setE S v) ≤ n then v else lfK S n f (v + 1)
theorem dX7_leastFor_0 : decode cX7_leastFor 0 = .ok (.aload_n 0, 1) := by decide +kernel
theorem dX7_leastFor_1 : decode cX7_leastFor 1 = .ok (.iload_n 1, 1) := by decide +kernel
theorem dX7_leastFor_2 : decode cX7_leastFor 2 = .ok (.i2l, 1) := by decide +kernel
theorem dX7_leastFor_3 : decode cX7_leastFor 3 = .ok (.lconst 1, 1) := by decide +kernel
theorem dX7_leastFor_4 : decode cX7_leastFor 4 = .ok (.ldc2_w 325, 3) := by decide +kernel
theorem dX7_leastFor_7 : decode cX7_leastFor 7 = .ok (.invokestatic 68, 3) := by decide +kernel
theorem dX7_leastFor_10 : decode cX7_leastFor 10 = .ok (.ifCond .eq 7, 3) := by decide +kernel
theorem dX7_leastFor_13 : decode cX7_leastFor 13 = .ok (.iconst 0, 1) := by decide +kernel
theorem dX7_leastFor_14 : decode cX7_leastFor 14 = .ok (.goto 4, 3) := by decide +kernel
theorem dX7_leastFor_17 : decode cX7_leastFor 17 = .ok (.iconst 1, 1) := by decide +kernel
theorem dX7_leastFor_18 : decode cX7_leastFor 18 = .ok (.invokevirtual 192, 3) := by decide +kernel
theorem dX7_leastFor_21 : decode cX7_leastFor 21 = .ok (.ifCond .eq 5, 3) := by decide +kernel
theorem dX7_leastFor_24 : decode cX7_leastFor 24 = .ok (.iconst 0, 1) := by decide +kernel
theorem dX7_leastFor_25 : decode cX7_leastFor 25 = .ok (.ireturn, 1) := by decide +kernel
theorem dX7_leastFor_26 : decode cX7_leastFor 26 = .ok (.iconst 1, 1) := by decide +kernel
theorem dX7_leastFor_27 : decode cX7_leastFor 27 = .ok (.istore_n 2, 1) := by decide +kernel
theorem dX7_leastFor_28 : decode cX7_leastFor 28 = .ok (.iload_n 2, 1) := by decide +kernel
theorem dX7_leastFor_29 : decode cX7_leastFor 29 = .ok (.bipush 30, 2) := by decide +kernel
theorem dX7_leastFor_31 : decode cX7_leastFor 31 = .ok (.if_icmp .gt 28, 3) := by decide +kernel
theorem dX7_leastFor_34 : decode cX7_leastFor 34 = .ok (.aload_n 0, 1) := by decide +kernel
theorem dX7_leastFor_35 : decode cX7_leastFor 35 = .ok (.aload_n 0, 1) := by decide +kernel
theorem dX7_leastFor_36 : decode cX7_leastFor 36 = .ok (.getfield 13, 3) := by decide +kernel
theorem dX7_leastFor_39 : decode cX7_leastFor 39 = .ok (.iload_n 2, 1) := by decide +kernel
theorem dX7_leastFor_40 : decode cX7_leastFor 40 = .ok (.invokevirtual 113, 3) := by decide +kernel
theorem dX7_leastFor_43 : decode cX7_leastFor 43 = .ok (.aload_n 0, 1) := by decide +kernel
theorem dX7_leastFor_44 : decode cX7_leastFor 44 = .ok (.getfield 78, 3) := by decide +kernel
theorem dX7_leastFor_47 : decode cX7_leastFor 47 = .ok (.iload_n 1, 1) := by decide +kernel
theorem dX7_leastFor_48 : decode cX7_leastFor 48 = .ok (.if_icmp .gt 5, 3) := by decide +kernel
theorem dX7_leastFor_51 : decode cX7_leastFor 51 = .ok (.iload_n 2, 1) := by decide +kernel
theorem dX7_leastFor_52 : decode cX7_leastFor 52 = .ok (.ireturn, 1) := by decide +kernel
theorem dX7_leastFor_53 : decode cX7_leastFor 53 = .ok (.iinc 2 1, 3) := by decide +kernel
theorem dX7_leastFor_56 : decode cX7_leastFor 56 = .ok (.goto (-28), 3) := by decide +kernel
theorem dX7_leastFor_59 : decode cX7_leastFor 59 = .ok (.iconst (-1), 1) := by decide +kernel
theorem dX7_leastFor_60 : decode cX7_leastFor 60 = .ok (.ireturn, 1) := by decide +kernel
theorem c_mleastFor {n : Int} (hS : SV S) (hB : ∀ i, 0 ≤ B i ∧ B i ≤ 5) (hI : ∀ i, rg (I i)) (hn : rg n) : Ct l yX7_leastFor cX7_leastFor 3 (some .int) rmX7_leastFor [.ref 0, iv n] (mdW rf sz S ac B I m Fi Co Br Wt mk gy S2 tx di ke ik ea sd rt lf wy sp ou)
    (fun z M => z = some (iv (if kIn n 1 144 = 0 then lfK S n 30 1 else 0)) ∧ WM (kIn n 1 144) sz S ac tx di ke ik M) := by
  refine Ct.of miX7_leastFor (Nat.le_of_ble_eq_true rfl) ?_
  intro X hXl hN ok
  refine AW.cast (L2 := [some (.ref 0), some (iv n), none]) ?_ rfl rfl rfl
  have hd := hS.1
  have hzr := kIn_rg (v := n) (lo := 1) (hi := 144)
  have sj : ∀ z : Int, z = kIn n 1 144 → AW X 0 0 18 [some (.ref 0), some (iv n), none] [iv z, .ref 0] (mdW rf sz S ac B I m Fi Co Br Wt mk gy S2 tx di ke ik ea sd rt lf wy sp ou) := by
    intro z hz
    rw [← hz] at hzr
    by_cases k0 : kIn n 1 144 = 0
    · rw [if_pos k0] at ok
      rw [k0] at ok hz
      subst hz
      have hw2 := kIn_0 k0
      have loop : ∀ q : Nat × Int × (Int → Int) × (Int → Int) × (Int → Int) × (Int → Int) × (Int → Int) × (Int → Int), (q.1 ≤ 30 ∧ (∀ i, 0 ≤ q.2.2.1 i ∧ q.2.2.1 i ≤ 5) ∧ (∀ i, rg (q.2.2.2.1 i)) ∧ lfK S n (30 - q.1) (1 + q.1) = lfK S n 30 1) → AW X 0 0 28 [some (.ref 0), some (iv n), some (iv (1 + q.1))] [] (mdW (0) sz S ac (q.2.2.1) (q.2.2.2.1) (q.2.1) (q.2.2.2.2.1) (q.2.2.2.2.2.1) (q.2.2.2.2.2.2.1) (q.2.2.2.2.2.2.2) mk gy S2 tx di ke ik ea sd rt lf wy sp ou) := by
        refine wfl (fun q : Nat × Int × (Int → Int) × (Int → Int) × (Int → Int) × (Int → Int) × (Int → Int) × (Int → Int) => 31 - q.1) _ _ ?_
        rintro ⟨k, m, B, I, Fi, Co, Br, Wt⟩ ⟨h1, hB, hI, h4⟩ ih
        dsimp only at h1 hB hI h4 ih ⊢
        by_cases h30 : k = 30
        · subst h30
          have e : lfK S n 30 1 = -1 := h4.symm
          refine a_iload_n (pc := 28) ok dX7_leastFor_28 rfl ?_
          refine a_bipush (pc := 29) ok dX7_leastFor_29 (by decide) ?_
          refine a_icmp_gt (pc := 31) (tgt := 59) ok dX7_leastFor_31 (by decide) (by first | omega | (unfold rg; omega) | (simp only [rg] at *; omega) | exact bz_rg _ | grind [rg]) (by first | omega | (unfold rg; omega) | (simp only [rg] at *; omega) | exact bz_rg _ | grind [rg]) (fun c31 => ?_) (fun c31 => ?_)
          · refine a_iconst (pc := 59) ok dX7_leastFor_59 ?_
            exact a_iret (pc := 60) ok dX7_leastFor_60 (⟨by rw [e], WM_mk hB hI⟩)
          · omega
        · have e : 30 - k = (30 - (k + 1)) + 1 := by omega
          have e2 : lfK S n (30 - k) (1 + k) = if mS (setE S (1 + k)) ≤ n then 1 + (k : Int) else lfK S n (30 - (k + 1)) (1 + k + 1) := by rw [e]; rfl
          rw [e2] at h4
          have hm : 1 ≤ mS (setE S (1 + k)) ∧ mS (setE S (1 + k)) ≤ 144 := mny_1 hd
          refine a_iload_n (pc := 28) ok dX7_leastFor_28 rfl ?_
          refine a_bipush (pc := 29) ok dX7_leastFor_29 (by decide) ?_
          refine a_icmp_gt (pc := 31) (tgt := 59) ok dX7_leastFor_31 (by decide) (by first | omega | (unfold rg; omega) | (simp only [rg] at *; omega) | exact bz_rg _ | grind [rg]) (by first | omega | (unfold rg; omega) | (simp only [rg] at *; omega) | exact bz_rg _ | grind [rg]) (fun c31 => ?_) (fun c31 => ?_)
          · omega
          · refine a_aload_n (pc := 34) ok dX7_leastFor_34 rfl ?_
            refine a_aload_n (pc := 35) ok dX7_leastFor_35 rfl ?_
            refine a_getf (pc := 36) ok dX7_leastFor_36 fl7_13 rfl rfl ?_
            refine a_iload_n (pc := 39) ok dX7_leastFor_39 rfl ?_
            refine x_callV (pc := 40) ok [0, 1, 2, 3, 4, 5, 6, 7, 8, 9, 1, 10, 11, 12, 13, 14, 15] 10 dX7_leastFor_40 mv7_113 miX7_find (c_findL (v := 1 + k) hS (by unfold rg; omega) hB hI) ⟨by decide, by decide, rfl, rfl, Nat.zero_le _, Nat.zero_le _⟩ rfl rfl (Nat.le_of_ble_eq_true rfl) rfl rfl (by decide) rfl rfl (fun v M' h => by obtain ⟨_, _, _, _, _, _, _, h, _⟩ := h; rw [h]; rfl) ?_
            rintro _ M' ⟨rfl, B', I', Fi', Co', Br', Q', rfl, hJ⟩
            refine AW.cast (st2 := []) (M2 := (mdW (0) sz S ac (B') (I') (mS (setE S (1 + k))) (Fi') (Co') (Br') (Q') mk gy S2 tx di ke ik ea sd rt lf wy sp ou)) ?_ rfl rfl rfl
            refine a_aload_n (pc := 43) ok dX7_leastFor_43 rfl ?_
            refine a_getf (pc := 44) ok dX7_leastFor_44 fl7_78 rfl rfl ?_
            refine a_iload_n (pc := 47) ok dX7_leastFor_47 rfl ?_
            refine a_icmp_gt (pc := 48) (tgt := 53) ok dX7_leastFor_48 (by decide) (by first | omega | (unfold rg; omega) | (simp only [rg] at *; omega) | exact bz_rg _ | grind [rg]) (by first | omega | (unfold rg; omega) | (simp only [rg] at *; omega) | exact bz_rg _ | grind [rg]) (fun c48 => ?_) (fun c48 => ?_)
            · refine a_iinc (pc := 53) ok dX7_leastFor_53 rfl rfl (by rw [hN]; decide) ?_
              refine a_goto (pc := 56) (tgt := 28) ok dX7_leastFor_56 (by decide) ?_
              exact AW.cast (ih (k + 1, mS (setE S (1 + k)), B', I', Fi', Co', Br', Q') ⟨by dsimp only; omega, hJ.1, hJ.2.1, by rw [if_neg (by omega)] at h4; dsimp only; rw [← h4]; congr 1⟩ (by dsimp only; omega)) (by dsimp only; rw [show (1 : Int) + ((k + 1 : Nat) : Int) = 1 + (k : Int) + 1 by omega]; rfl) rfl rfl
            · refine a_iload_n (pc := 51) ok dX7_leastFor_51 rfl ?_
              exact a_iret (pc := 52) ok dX7_leastFor_52 (⟨by rw [← h4, if_pos (by omega)], WM_mk hJ.1 hJ.2.1⟩)
      refine x_callVi (pc := 18) ok [0, 11, 1, 10, 12, 13, 14, 2, 3, 4, 5, 6, 7, 8, 9, 15] 1 dX7_leastFor_18 mv7_192 miX7_refused (c_refused (by unfold rg; omega)) ⟨by decide, by decide, rfl, rfl, Nat.zero_le _, Nat.zero_le _⟩ rfl rfl (Nat.le_of_ble_eq_true rfl) rfl rfl (by decide) rfl rfl rfl ?_
      refine a_if_eq (pc := 21) (tgt := 26) ok dX7_leastFor_21 (by decide) (by first | omega | (unfold rg; omega) | (simp only [rg] at *; omega) | exact bz_rg _ | grind [rg]) (fun c21 => ?_) (fun c21 => ?_)
      · refine a_iconst (pc := 26) ok dX7_leastFor_26 ?_
        refine a_istore_n (pc := 27) ok dX7_leastFor_27 rfl (by rw [hN]; decide) ?_
        exact AW.cast (loop (0, m, B, I, Fi, Co, Br, Wt) ⟨by dsimp only; omega, hB, hI, rfl⟩) rfl rfl rfl
      · exact absurd rfl c21
    · rw [if_neg k0, ← hz] at ok
      refine x_callVi (pc := 18) ok [0, 11, 1, 10, 12, 13, 14, 2, 3, 4, 5, 6, 7, 8, 9, 15] 1 dX7_leastFor_18 mv7_192 miX7_refused (c_refused (by unfold rg; omega)) ⟨by decide, by decide, rfl, rfl, Nat.zero_le _, Nat.zero_le _⟩ rfl rfl (Nat.le_of_ble_eq_true rfl) rfl rfl (by decide) rfl rfl rfl ?_
      refine a_if_eq (pc := 21) (tgt := 26) ok dX7_leastFor_21 (by decide) (by exact bz_rg _) (fun c21 => ?_) (fun c21 => ?_)
      · exact absurd c21 (by rw [bz_pos (show 0 < z by omega)]; decide)
      · refine a_iconst (pc := 24) ok dX7_leastFor_24 ?_
        exact a_iret (pc := 25) ok dX7_leastFor_25 (⟨rfl, WM_mk hB hI⟩)
  refine a_aload_n (pc := 0) ok dX7_leastFor_0 rfl ?_
  refine a_iload_n (pc := 1) ok dX7_leastFor_1 rfl ?_
  refine a_i2l (pc := 2) ok dX7_leastFor_2 (by first | omega | (unfold rg; omega) | (simp only [rg] at *; omega) | exact bz_rg _ | grind [rg]) ?_
  refine a_lconst (pc := 3) (z := 1) ok dX7_leastFor_3 rfl ?_
  refine a_ldc2 (pc := 4) (z := 144) (v := Int64.ofInt 144) ok dX7_leastFor_4 (ug7 13 (by decide +kernel) rfl) rfl ?_
  refine a_callSp (pc := 7) ok [] dX7_leastFor_7 mv7_68 miX7_in (c_in (by unfold rgL; unfold rg at hn; omega) (by unfold rgL; omega) (by unfold rgL; omega)) ⟨by decide, by decide, rfl, rfl, Nat.zero_le _, Nat.zero_le _⟩ rfl rfl (Nat.le_of_ble_eq_true rfl) rfl (by decide) ?_
  refine a_if_eq (pc := 10) (tgt := 17) ok dX7_leastFor_10 (by decide) (by exact bz_rg _) (fun c10 => ?_) (fun c10 => ?_)
  · refine a_iconst (pc := 17) ok dX7_leastFor_17 ?_
    exact sj 1 (by unfold kIn; rw [if_neg (bz_0.mp c10)])
  · refine a_iconst (pc := 13) ok dX7_leastFor_13 ?_
    refine a_goto (pc := 14) (tgt := 18) ok dX7_leastFor_14 (by decide) ?_
    exact sj 0 (by unfold kIn; rw [if_pos (bz_y c10)])
end MP6
