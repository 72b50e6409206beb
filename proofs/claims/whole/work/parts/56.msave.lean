/-! MODEL's face: save, restore. -/
section MP8
variable {l : Launch} {rf sz : Int} {S : St} {ac : Int} {B I : Int → Int} {m : Int} {Fi Co Br Wt mk gy : Int → Int} {S2 : St} {tx di ke ik ea : Int → Int} {sd rt lf wy sp ou : Int}
/-- what is kept after saving at v -/
def kP2 (S : St) (ke : Int → Int) (v : Int) : Int → Int := cpF (rowS S) 0 ke (160 * v) 160
theorem dX7_save_0 : decode cX7_save 0 = .ok (.aload_n 0, 1) := by decide +kernel
theorem dX7_save_1 : decode cX7_save 1 = .ok (.iload_n 1, 1) := by decide +kernel
theorem dX7_save_2 : decode cX7_save 2 = .ok (.i2l, 1) := by decide +kernel
theorem dX7_save_3 : decode cX7_save 3 = .ok (.lconst 0, 1) := by decide +kernel
theorem dX7_save_4 : decode cX7_save 4 = .ok (.lconst 1, 1) := by decide +kernel
theorem dX7_save_5 : decode cX7_save 5 = .ok (.invokestatic 68, 3) := by decide +kernel
theorem dX7_save_8 : decode cX7_save 8 = .ok (.ifCond .eq 7, 3) := by decide +kernel
theorem dX7_save_11 : decode cX7_save 11 = .ok (.iconst 0, 1) := by decide +kernel
theorem dX7_save_12 : decode cX7_save 12 = .ok (.goto 4, 3) := by decide +kernel
theorem dX7_save_15 : decode cX7_save 15 = .ok (.iconst 1, 1) := by decide +kernel
theorem dX7_save_16 : decode cX7_save 16 = .ok (.invokevirtual 192, 3) := by decide +kernel
theorem dX7_save_19 : decode cX7_save 19 = .ok (.ifCond .eq 5, 3) := by decide +kernel
theorem dX7_save_22 : decode cX7_save 22 = .ok (.iconst 0, 1) := by decide +kernel
theorem dX7_save_23 : decode cX7_save 23 = .ok (.ireturn, 1) := by decide +kernel
theorem dX7_save_24 : decode cX7_save 24 = .ok (.aload_n 0, 1) := by decide +kernel
theorem dX7_save_25 : decode cX7_save 25 = .ok (.getfield 13, 3) := by decide +kernel
theorem dX7_save_28 : decode cX7_save 28 = .ok (.iconst 0, 1) := by decide +kernel
theorem dX7_save_29 : decode cX7_save 29 = .ok (.aload_n 0, 1) := by decide +kernel
theorem dX7_save_30 : decode cX7_save 30 = .ok (.getfield 22, 3) := by decide +kernel
theorem dX7_save_33 : decode cX7_save 33 = .ok (.sipush 160, 3) := by decide +kernel
theorem dX7_save_36 : decode cX7_save 36 = .ok (.iload_n 1, 1) := by decide +kernel
theorem dX7_save_37 : decode cX7_save 37 = .ok (.imul, 1) := by decide +kernel
theorem dX7_save_38 : decode cX7_save 38 = .ok (.invokestatic 246, 3) := by decide +kernel
theorem dX7_save_41 : decode cX7_save 41 = .ok (.aload_n 0, 1) := by decide +kernel
theorem dX7_save_42 : decode cX7_save 42 = .ok (.getfield 25, 3) := by decide +kernel
theorem dX7_save_45 : decode cX7_save 45 = .ok (.iload_n 1, 1) := by decide +kernel
theorem dX7_save_46 : decode cX7_save 46 = .ok (.iconst 1, 1) := by decide +kernel
theorem dX7_save_47 : decode cX7_save 47 = .ok (.bastore, 1) := by decide +kernel
theorem dX7_save_48 : decode cX7_save 48 = .ok (.aload_n 0, 1) := by decide +kernel
theorem dX7_save_49 : decode cX7_save 49 = .ok (.getfield 13, 3) := by decide +kernel
theorem dX7_save_52 : decode cX7_save 52 = .ok (.invokestatic 177, 3) := by decide +kernel
theorem dX7_save_55 : decode cX7_save 55 = .ok (.ireturn, 1) := by decide +kernel
theorem c_msave {v : Int} (hS : SV S) (hB : ∀ i, 0 ≤ B i ∧ B i ≤ 5) (hI : ∀ i, rg (I i)) (hv : rg v) : Ct l yX7_save cX7_save 2 (some .int) rmX7_save [.ref 0, iv v] (mdW rf sz S ac B I m Fi Co Br Wt mk gy S2 tx di ke ik ea sd rt lf wy sp ou)
    (fun z M => z = some (iv (if kIn v 0 1 = 0 then sumK (sG S) (sC S * sR S).toNat else 0)) ∧ WM (kIn v 0 1) sz S ac tx di (if kIn v 0 1 = 0 then kP2 S ke v else ke) (if kIn v 0 1 = 0 then up ik v 1 else ik) M) := by
  refine Ct.of miX7_save (Nat.le_of_ble_eq_true rfl) ?_
  intro X hXl hN ok
  refine AW.cast (L2 := [some (.ref 0), some (iv v)]) ?_ rfl rfl rfl
  have hd := hS.1
  have hzr := kIn_rg (v := v) (lo := 0) (hi := 1)
  have sj : ∀ z : Int, z = kIn v 0 1 → AW X 0 0 16 [some (.ref 0), some (iv v)] [iv z, .ref 0] (mdW rf sz S ac B I m Fi Co Br Wt mk gy S2 tx di ke ik ea sd rt lf wy sp ou) := by
    intro z hz
    rw [← hz] at hzr
    by_cases k0 : kIn v 0 1 = 0
    · rw [if_pos k0, if_pos k0, if_pos k0] at ok
      rw [k0] at ok hz
      subst hz
      have hw2 := kIn_0 k0
      refine x_callVi (pc := 16) ok [0, 11, 1, 10, 12, 13, 14, 2, 3, 4, 5, 6, 7, 8, 9, 15] 1 dX7_save_16 mv7_192 miX7_refused (c_refused (by unfold rg; omega)) ⟨by decide, by decide, rfl, rfl, Nat.zero_le _, Nat.zero_le _⟩ rfl rfl (Nat.le_of_ble_eq_true rfl) rfl rfl (by decide) rfl rfl rfl ?_
      refine a_if_eq (pc := 19) (tgt := 24) ok dX7_save_19 (by decide) (by first | omega | (unfold rg; omega) | (simp only [rg] at *; omega) | exact bz_rg _ | grind [rg]) (fun c19 => ?_) (fun c19 => ?_)
      · refine AW.cast (M2 := (mdW (0) sz S ac B I m Fi Co Br Wt mk gy S2 tx di ke ik ea sd rt lf wy sp ou)) ?_ rfl rfl rfl
        refine a_aload_n (pc := 24) ok dX7_save_24 rfl ?_
        refine a_getf (pc := 25) ok dX7_save_25 fl7_13 rfl rfl ?_
        refine a_iconst (pc := 28) ok dX7_save_28 ?_
        refine a_aload_n (pc := 29) ok dX7_save_29 rfl ?_
        refine a_getf (pc := 30) ok dX7_save_30 fl7_22 rfl rfl ?_
        refine a_sipush (pc := 33) ok dX7_save_33 (by decide) ?_
        refine a_iload_n (pc := 36) ok dX7_save_36 rfl ?_
        refine a_imul (pc := 37) ok dX7_save_37 ?_
        refine a_callSv (pc := 38) ok [1, 13] dX7_save_38 mv7_246 miX7_copyState (c_copyState (nf := 160) (nt := 320) (F := rowS S) (E := ke) (a := 0) (b := 160 * v) (by omega) (by omega) (by omega)) ⟨by decide, by decide, rfl, rfl, Nat.zero_le _, Nat.zero_le _⟩ rfl rfl (Nat.le_of_ble_eq_true rfl) rfl (by decide) rfl ?_
        refine AW.cast (M2 := (mdW (0) sz S ac B I m Fi Co Br Wt mk gy S2 tx di (kP2 S ke v) ik ea sd rt lf wy sp ou)) ?_ rfl rfl rfl
        refine a_aload_n (pc := 41) ok dX7_save_41 rfl ?_
        refine a_getf (pc := 42) ok dX7_save_42 fl7_25 rfl rfl ?_
        refine a_iload_n (pc := 45) ok dX7_save_45 rfl ?_
        refine a_iconst (pc := 46) ok dX7_save_46 ?_
        refine a_zast (pc := 47) ok dX7_save_47 rfl (by decide) (by first | omega | (unfold rg; omega) | (simp only [rg] at *; omega) | exact bz_rg _ | grind [rg]) (by decide) ?_
        refine AW.cast (M2 := (mdW (0) sz S ac B I m Fi Co Br Wt mk gy S2 tx di (kP2 S ke v) (up ik v 1) ea sd rt lf wy sp ou)) ?_ rfl rfl rfl
        refine a_aload_n (pc := 48) ok dX7_save_48 rfl ?_
        refine a_getf (pc := 49) ok dX7_save_49 fl7_13 rfl rfl ?_
        refine a_callSp (pc := 52) ok [1] dX7_save_52 mv7_177 miX7_sum (c_sum hd) ⟨by decide, by decide, rfl, rfl, Nat.zero_le _, Nat.zero_le _⟩ rfl rfl (Nat.le_of_ble_eq_true rfl) rfl (by decide) ?_
        exact a_iret (pc := 55) ok dX7_save_55 (⟨rfl, WM_mk hB hI⟩)
      · exact absurd rfl c19
    · rw [if_neg k0, if_neg k0, if_neg k0, ← hz] at ok
      refine x_callVi (pc := 16) ok [0, 11, 1, 10, 12, 13, 14, 2, 3, 4, 5, 6, 7, 8, 9, 15] 1 dX7_save_16 mv7_192 miX7_refused (c_refused (by unfold rg; omega)) ⟨by decide, by decide, rfl, rfl, Nat.zero_le _, Nat.zero_le _⟩ rfl rfl (Nat.le_of_ble_eq_true rfl) rfl rfl (by decide) rfl rfl rfl ?_
      refine a_if_eq (pc := 19) (tgt := 24) ok dX7_save_19 (by decide) (by exact bz_rg _) (fun c19 => ?_) (fun c19 => ?_)
      · exact absurd c19 (by rw [bz_pos (show 0 < z by omega)]; decide)
      · refine a_iconst (pc := 22) ok dX7_save_22 ?_
        exact a_iret (pc := 23) ok dX7_save_23 (⟨rfl, WM_mk hB hI⟩)
  refine a_aload_n (pc := 0) ok dX7_save_0 rfl ?_
  refine a_iload_n (pc := 1) ok dX7_save_1 rfl ?_
  refine a_i2l (pc := 2) ok dX7_save_2 (by first | omega | (unfold rg; omega) | (simp only [rg] at *; omega) | exact bz_rg _ | grind [rg]) ?_
  refine a_lconst (pc := 3) (z := 0) ok dX7_save_3 rfl ?_
  refine a_lconst (pc := 4) (z := 1) ok dX7_save_4 rfl ?_
  refine a_callSp (pc := 5) ok [] dX7_save_5 mv7_68 miX7_in (c_in (by unfold rgL; unfold rg at hv; omega) (by unfold rgL; omega) (by unfold rgL; omega)) ⟨by decide, by decide, rfl, rfl, Nat.zero_le _, Nat.zero_le _⟩ rfl rfl (Nat.le_of_ble_eq_true rfl) rfl (by decide) ?_
  refine a_if_eq (pc := 8) (tgt := 15) ok dX7_save_8 (by decide) (by exact bz_rg _) (fun c8 => ?_) (fun c8 => ?_)
  · refine a_iconst (pc := 15) ok dX7_save_15 ?_
    exact sj 1 (by unfold kIn; rw [if_neg (bz_0.mp c8)])
  · refine a_iconst (pc := 11) ok dX7_save_11 ?_
    refine a_goto (pc := 12) (tgt := 16) ok dX7_save_12 (by decide) ?_
    exact sj 0 (by unfold kIn; rw [if_pos (bz_y c8)])
/-- which exception: restore -/
def kRes (ik : Int → Int) (v : Int) : Int := if ¬ (0 ≤ v ∧ v ≤ 1) then 1 else if ik v = 0 then 2 else 0
theorem kRes_rg {v : Int} : 0 ≤ kRes ik v ∧ kRes ik v ≤ 2 := by
  unfold kRes
  repeat' split
  all_goals omega
theorem kRes_0 {v : Int} (h : kRes ik v = 0) : (0 ≤ v ∧ v ≤ 1) ∧ ik v ≠ 0 := by
  unfold kRes at h
  repeat' split at h
  all_goals omega
theorem dX7_restore_0 : decode cX7_restore 0 = .ok (.aload_n 0, 1) := by decide +kernel
theorem dX7_restore_1 : decode cX7_restore 1 = .ok (.iload_n 1, 1) := by decide +kernel
theorem dX7_restore_2 : decode cX7_restore 2 = .ok (.i2l, 1) := by decide +kernel
theorem dX7_restore_3 : decode cX7_restore 3 = .ok (.lconst 0, 1) := by decide +kernel
theorem dX7_restore_4 : decode cX7_restore 4 = .ok (.lconst 1, 1) := by decide +kernel
theorem dX7_restore_5 : decode cX7_restore 5 = .ok (.invokestatic 68, 3) := by decide +kernel
theorem dX7_restore_8 : decode cX7_restore 8 = .ok (.ifCond .ne 7, 3) := by decide +kernel
theorem dX7_restore_11 : decode cX7_restore 11 = .ok (.iconst 1, 1) := by decide +kernel
theorem dX7_restore_12 : decode cX7_restore 12 = .ok (.goto 17, 3) := by decide +kernel
theorem dX7_restore_15 : decode cX7_restore 15 = .ok (.aload_n 0, 1) := by decide +kernel
theorem dX7_restore_16 : decode cX7_restore 16 = .ok (.getfield 25, 3) := by decide +kernel
theorem dX7_restore_19 : decode cX7_restore 19 = .ok (.iload_n 1, 1) := by decide +kernel
theorem dX7_restore_20 : decode cX7_restore 20 = .ok (.baload, 1) := by decide +kernel
theorem dX7_restore_21 : decode cX7_restore 21 = .ok (.ifCond .ne 7, 3) := by decide +kernel
theorem dX7_restore_24 : decode cX7_restore 24 = .ok (.iconst 2, 1) := by decide +kernel
theorem dX7_restore_25 : decode cX7_restore 25 = .ok (.goto 4, 3) := by decide +kernel
theorem dX7_restore_28 : decode cX7_restore 28 = .ok (.iconst 0, 1) := by decide +kernel
theorem dX7_restore_29 : decode cX7_restore 29 = .ok (.invokevirtual 192, 3) := by decide +kernel
theorem dX7_restore_32 : decode cX7_restore 32 = .ok (.ifCond .eq 5, 3) := by decide +kernel
theorem dX7_restore_35 : decode cX7_restore 35 = .ok (.iconst 0, 1) := by decide +kernel
theorem dX7_restore_36 : decode cX7_restore 36 = .ok (.ireturn, 1) := by decide +kernel
theorem dX7_restore_37 : decode cX7_restore 37 = .ok (.aload_n 0, 1) := by decide +kernel
theorem dX7_restore_38 : decode cX7_restore 38 = .ok (.getfield 22, 3) := by decide +kernel
theorem dX7_restore_41 : decode cX7_restore 41 = .ok (.sipush 160, 3) := by decide +kernel
theorem dX7_restore_44 : decode cX7_restore 44 = .ok (.iload_n 1, 1) := by decide +kernel
theorem dX7_restore_45 : decode cX7_restore 45 = .ok (.imul, 1) := by decide +kernel
theorem dX7_restore_46 : decode cX7_restore 46 = .ok (.aload_n 0, 1) := by decide +kernel
theorem dX7_restore_47 : decode cX7_restore 47 = .ok (.getfield 13, 3) := by decide +kernel
theorem dX7_restore_50 : decode cX7_restore 50 = .ok (.iconst 0, 1) := by decide +kernel
theorem dX7_restore_51 : decode cX7_restore 51 = .ok (.invokestatic 246, 3) := by decide +kernel
theorem dX7_restore_54 : decode cX7_restore 54 = .ok (.aload_n 0, 1) := by decide +kernel
theorem dX7_restore_55 : decode cX7_restore 55 = .ok (.iconst 0, 1) := by decide +kernel
theorem dX7_restore_56 : decode cX7_restore 56 = .ok (.putfield 250, 3) := by decide +kernel
theorem dX7_restore_59 : decode cX7_restore 59 = .ok (.aload_n 0, 1) := by decide +kernel
theorem dX7_restore_60 : decode cX7_restore 60 = .ok (.getfield 13, 3) := by decide +kernel
theorem dX7_restore_63 : decode cX7_restore 63 = .ok (.invokestatic 177, 3) := by decide +kernel
theorem dX7_restore_66 : decode cX7_restore 66 = .ok (.ireturn, 1) := by decide +kernel
set_option maxRecDepth 100000 in
theorem c_mrestore {v : Int} {P : St} (hB : ∀ i, 0 ≤ B i ∧ B i ≤ 5) (hI : ∀ i, rg (I i)) (hv : rg v) (hik : ∀ i, 0 ≤ ik i ∧ ik i ≤ 1) (hP : kRes ik v = 0 → atD ke v P ∧ SV P) : Ct l yX7_restore cX7_restore 2 (some .int) rmX7_restore [.ref 0, iv v] (mdW rf sz S ac B I m Fi Co Br Wt mk gy S2 tx di ke ik ea sd rt lf wy sp ou)
    (fun z M => z = some (iv (if kRes ik v = 0 then sumK (sG P) (sC P * sR P).toNat else 0)) ∧ WM (kRes ik v) sz (if kRes ik v = 0 then P else S) (if kRes ik v = 0 then 0 else ac) tx di ke ik M) := by
  refine Ct.of miX7_restore (Nat.le_of_ble_eq_true rfl) ?_
  intro X hXl hN ok
  refine AW.cast (L2 := [some (.ref 0), some (iv v)]) ?_ rfl rfl rfl
  have hzr := kRes_rg (ik := ik) (v := v)
  have hkv := hik v
  have sj : ∀ z : Int, z = kRes ik v → AW X 0 0 29 [some (.ref 0), some (iv v)] [iv z, .ref 0] (mdW rf sz S ac B I m Fi Co Br Wt mk gy S2 tx di ke ik ea sd rt lf wy sp ou) := by
    intro z hz
    rw [← hz] at hzr
    by_cases k0 : kRes ik v = 0
    · rw [if_pos k0, if_pos k0, if_pos k0] at ok
      obtain ⟨hat, hPv⟩ := hP k0
      rw [k0] at ok hz
      subst hz
      obtain ⟨hw2, hw3⟩ := kRes_0 k0
      have hd := hPv.1
      refine x_callVi (pc := 29) ok [0, 11, 1, 10, 12, 13, 14, 2, 3, 4, 5, 6, 7, 8, 9, 15] 1 dX7_restore_29 mv7_192 miX7_refused (c_refused (by unfold rg; omega)) ⟨by decide, by decide, rfl, rfl, Nat.zero_le _, Nat.zero_le _⟩ rfl rfl (Nat.le_of_ble_eq_true rfl) rfl rfl (by decide) rfl rfl rfl ?_
      refine a_if_eq (pc := 32) (tgt := 37) ok dX7_restore_32 (by decide) (by first | omega | (unfold rg; omega) | (simp only [rg] at *; omega) | exact bz_rg _ | grind [rg]) (fun c32 => ?_) (fun c32 => ?_)
      · refine AW.cast (M2 := (mdW (0) sz S ac B I m Fi Co Br Wt mk gy S2 tx di ke ik ea sd rt lf wy sp ou)) ?_ rfl rfl rfl
        refine a_aload_n (pc := 37) ok dX7_restore_37 rfl ?_
        refine a_getf (pc := 38) ok dX7_restore_38 fl7_22 rfl rfl ?_
        refine a_sipush (pc := 41) ok dX7_restore_41 (by decide) ?_
        refine a_iload_n (pc := 44) ok dX7_restore_44 rfl ?_
        refine a_imul (pc := 45) ok dX7_restore_45 ?_
        refine a_aload_n (pc := 46) ok dX7_restore_46 rfl ?_
        refine a_getf (pc := 47) ok dX7_restore_47 fl7_13 rfl rfl ?_
        refine a_iconst (pc := 50) ok dX7_restore_50 ?_
        refine a_callSv (pc := 51) ok [13, 1] dX7_restore_51 mv7_246 miX7_copyState (c_copyState (nf := 320) (nt := 160) (F := ke) (E := rowS S) (a := 160 * v) (b := 0) (by omega) (by omega) (by omega)) ⟨by decide, by decide, rfl, rfl, Nat.zero_le _, Nat.zero_le _⟩ rfl rfl (Nat.le_of_ble_eq_true rfl) rfl (by decide) rfl ?_
        refine AW.ext (q := 1) (n := 160) (f := cpF ke (160 * v) (rowS S) 0 160) (g := rowS P) rfl (fun j h1 h2 => by unfold cpF; rw [if_pos (by omega), ← hat j h1 h2]; congr 1; omega) ?_
        refine AW.cast (M2 := (mdW (0) sz (P) ac B I m Fi Co Br Wt mk gy S2 tx di ke ik ea sd rt lf wy sp ou)) ?_ rfl rfl rfl
        refine a_aload_n (pc := 54) ok dX7_restore_54 rfl ?_
        refine a_iconst (pc := 55) ok dX7_restore_55 ?_
        refine a_putf (pc := 56) ok dX7_restore_56 fp7_250 rfl (by first | rfl | decide) (by first | rfl | decide) (Nat.le_of_ble_eq_true rfl) ?_
        refine AW.cast (M2 := (mdW (0) sz (P) (0) B I m Fi Co Br Wt mk gy S2 tx di ke ik ea sd rt lf wy sp ou)) ?_ rfl rfl rfl
        refine a_aload_n (pc := 59) ok dX7_restore_59 rfl ?_
        refine a_getf (pc := 60) ok dX7_restore_60 fl7_13 rfl rfl ?_
        refine a_callSp (pc := 63) ok [1] dX7_restore_63 mv7_177 miX7_sum (c_sum hd) ⟨by decide, by decide, rfl, rfl, Nat.zero_le _, Nat.zero_le _⟩ rfl rfl (Nat.le_of_ble_eq_true rfl) rfl (by decide) ?_
        exact a_iret (pc := 66) ok dX7_restore_66 (⟨rfl, WM_mk hB hI⟩)
      · exact absurd rfl c32
    · rw [if_neg k0, if_neg k0, if_neg k0, ← hz] at ok
      refine x_callVi (pc := 29) ok [0, 11, 1, 10, 12, 13, 14, 2, 3, 4, 5, 6, 7, 8, 9, 15] 1 dX7_restore_29 mv7_192 miX7_refused (c_refused (by unfold rg; omega)) ⟨by decide, by decide, rfl, rfl, Nat.zero_le _, Nat.zero_le _⟩ rfl rfl (Nat.le_of_ble_eq_true rfl) rfl rfl (by decide) rfl rfl rfl ?_
      refine a_if_eq (pc := 32) (tgt := 37) ok dX7_restore_32 (by decide) (by exact bz_rg _) (fun c32 => ?_) (fun c32 => ?_)
      · exact absurd c32 (by rw [bz_pos (show 0 < z by omega)]; decide)
      · refine a_iconst (pc := 35) ok dX7_restore_35 ?_
        exact a_iret (pc := 36) ok dX7_restore_36 (⟨rfl, WM_mk hB hI⟩)
  refine a_aload_n (pc := 0) ok dX7_restore_0 rfl ?_
  refine a_iload_n (pc := 1) ok dX7_restore_1 rfl ?_
  refine a_i2l (pc := 2) ok dX7_restore_2 (by first | omega | (unfold rg; omega) | (simp only [rg] at *; omega) | exact bz_rg _ | grind [rg]) ?_
  refine a_lconst (pc := 3) (z := 0) ok dX7_restore_3 rfl ?_
  refine a_lconst (pc := 4) (z := 1) ok dX7_restore_4 rfl ?_
  refine a_callSp (pc := 5) ok [] dX7_restore_5 mv7_68 miX7_in (c_in (by unfold rgL; unfold rg at hv; omega) (by unfold rgL; omega) (by unfold rgL; omega)) ⟨by decide, by decide, rfl, rfl, Nat.zero_le _, Nat.zero_le _⟩ rfl rfl (Nat.le_of_ble_eq_true rfl) rfl (by decide) ?_
  refine a_if_ne (pc := 8) (tgt := 15) ok dX7_restore_8 (by decide) (by exact bz_rg _) (fun c8 => ?_) (fun c8 => ?_)
  · refine a_aload_n (pc := 15) ok dX7_restore_15 rfl ?_
    refine a_getf (pc := 16) ok dX7_restore_16 fl7_25 rfl rfl ?_
    refine a_iload_n (pc := 19) ok dX7_restore_19 rfl ?_
    refine a_zald (pc := 20) ok dX7_restore_20 rfl (by decide) (by first | (have := bz_y c8; omega) | omega) ?_
    refine a_if_ne (pc := 21) (tgt := 28) ok dX7_restore_21 (by decide) (by unfold rg; omega) (fun c21 => ?_) (fun c21 => ?_)
    · refine a_iconst (pc := 28) ok dX7_restore_28 ?_
      exact sj 0 (by unfold kRes; rw [if_neg (fun z => z (bz_y c8)), if_neg (by omega)])
    · refine a_iconst (pc := 24) ok dX7_restore_24 ?_
      refine a_goto (pc := 25) (tgt := 29) ok dX7_restore_25 (by decide) ?_
      exact sj 2 (by unfold kRes; rw [if_neg (fun z => z (bz_y c8)), if_pos (by omega)])
  · refine a_iconst (pc := 11) ok dX7_restore_11 ?_
    refine a_goto (pc := 12) (tgt := 29) ok dX7_restore_12 (by decide) ?_
    exact sj 1 (by unfold kRes; rw [if_pos (bz_0.mp (by first | exact c8 | exact Decidable.not_not.mp c8))])
end MP8
