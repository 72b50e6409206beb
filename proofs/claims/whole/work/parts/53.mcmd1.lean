/-! MODEL's face: the diary, and commands that change a cell, a setting, a plate. -/
section MP5
variable {l : Launch} {rf sz : Int} {S : St} {ac : Int} {B I : Int → Int} {m : Int} {Fi Co Br Wt mk gy : Int → Int} {S2 : St} {tx di ke ik ea : Int → Int} {sd rt lf wy sp ou : Int}
/-- the diary with its first k numbers taken from a slot later -/
def shD (di : Int → Int) (k : Int) : Int → Int := fun j => if 0 ≤ j ∧ j < k then di (j + 160) else di j
theorem shD_0 {di : Int → Int} : shD di 0 = di := by funext j; unfold shD; rw [if_neg (by omega)]
theorem shD_up {di : Int → Int} {k : Int} (h : 0 ≤ k) : up (shD di k) k (shD di k (k + 160)) = shD di (k + 1) := by
  funext j
  unfold up shD
  repeat' split
  all_goals first | rfl | omega | (subst_vars; rfl)
/-- acts after one more -/
def aP (ac : Int) : Int := if ac = 14 then 14 else ac + 1
/-- the diary after one more -/
def dP (S : St) (ac : Int) (di : Int → Int) : Int → Int := cpF (rowS S) 0 (if ac = 14 then shD di 2080 else di) (160 * (aP ac - 1)) 160
theorem dX7_remember_0 : decode cX7_remember 0 = .ok (.aload_n 0, 1) := by decide +kernel
theorem dX7_remember_1 : decode cX7_remember 1 = .ok (.getfield 250, 3) := by decide +kernel
theorem dX7_remember_4 : decode cX7_remember 4 = .ok (.bipush 14, 2) := by decide +kernel
theorem dX7_remember_6 : decode cX7_remember 6 = .ok (.if_icmp .ne 44, 3) := by decide +kernel
theorem dX7_remember_9 : decode cX7_remember 9 = .ok (.iconst 0, 1) := by decide +kernel
theorem dX7_remember_10 : decode cX7_remember 10 = .ok (.istore_n 1, 1) := by decide +kernel
theorem dX7_remember_11 : decode cX7_remember 11 = .ok (.iload_n 1, 1) := by decide +kernel
theorem dX7_remember_12 : decode cX7_remember 12 = .ok (.sipush 2080, 3) := by decide +kernel
theorem dX7_remember_15 : decode cX7_remember 15 = .ok (.if_icmp .ge 25, 3) := by decide +kernel
theorem dX7_remember_18 : decode cX7_remember 18 = .ok (.aload_n 0, 1) := by decide +kernel
theorem dX7_remember_19 : decode cX7_remember 19 = .ok (.getfield 19, 3) := by decide +kernel
theorem dX7_remember_22 : decode cX7_remember 22 = .ok (.iload_n 1, 1) := by decide +kernel
theorem dX7_remember_23 : decode cX7_remember 23 = .ok (.aload_n 0, 1) := by decide +kernel
theorem dX7_remember_24 : decode cX7_remember 24 = .ok (.getfield 19, 3) := by decide +kernel
theorem dX7_remember_27 : decode cX7_remember 27 = .ok (.iload_n 1, 1) := by decide +kernel
theorem dX7_remember_28 : decode cX7_remember 28 = .ok (.sipush 160, 3) := by decide +kernel
theorem dX7_remember_31 : decode cX7_remember 31 = .ok (.iadd, 1) := by decide +kernel
theorem dX7_remember_32 : decode cX7_remember 32 = .ok (.iaload, 1) := by decide +kernel
theorem dX7_remember_33 : decode cX7_remember 33 = .ok (.iastore, 1) := by decide +kernel
theorem dX7_remember_34 : decode cX7_remember 34 = .ok (.iinc 1 1, 3) := by decide +kernel
theorem dX7_remember_37 : decode cX7_remember 37 = .ok (.goto (-26), 3) := by decide +kernel
theorem dX7_remember_40 : decode cX7_remember 40 = .ok (.aload_n 0, 1) := by decide +kernel
theorem dX7_remember_41 : decode cX7_remember 41 = .ok (.dup, 1) := by decide +kernel
theorem dX7_remember_42 : decode cX7_remember 42 = .ok (.getfield 250, 3) := by decide +kernel
theorem dX7_remember_45 : decode cX7_remember 45 = .ok (.iconst 1, 1) := by decide +kernel
theorem dX7_remember_46 : decode cX7_remember 46 = .ok (.isub, 1) := by decide +kernel
theorem dX7_remember_47 : decode cX7_remember 47 = .ok (.putfield 250, 3) := by decide +kernel
theorem dX7_remember_50 : decode cX7_remember 50 = .ok (.aload_n 0, 1) := by decide +kernel
theorem dX7_remember_51 : decode cX7_remember 51 = .ok (.getfield 13, 3) := by decide +kernel
theorem dX7_remember_54 : decode cX7_remember 54 = .ok (.iconst 0, 1) := by decide +kernel
theorem dX7_remember_55 : decode cX7_remember 55 = .ok (.aload_n 0, 1) := by decide +kernel
theorem dX7_remember_56 : decode cX7_remember 56 = .ok (.getfield 19, 3) := by decide +kernel
theorem dX7_remember_59 : decode cX7_remember 59 = .ok (.sipush 160, 3) := by decide +kernel
theorem dX7_remember_62 : decode cX7_remember 62 = .ok (.aload_n 0, 1) := by decide +kernel
theorem dX7_remember_63 : decode cX7_remember 63 = .ok (.getfield 250, 3) := by decide +kernel
theorem dX7_remember_66 : decode cX7_remember 66 = .ok (.imul, 1) := by decide +kernel
theorem dX7_remember_67 : decode cX7_remember 67 = .ok (.invokestatic 246, 3) := by decide +kernel
theorem dX7_remember_70 : decode cX7_remember 70 = .ok (.aload_n 0, 1) := by decide +kernel
theorem dX7_remember_71 : decode cX7_remember 71 = .ok (.dup, 1) := by decide +kernel
theorem dX7_remember_72 : decode cX7_remember 72 = .ok (.getfield 250, 3) := by decide +kernel
theorem dX7_remember_75 : decode cX7_remember 75 = .ok (.iconst 1, 1) := by decide +kernel
theorem dX7_remember_76 : decode cX7_remember 76 = .ok (.iadd, 1) := by decide +kernel
theorem dX7_remember_77 : decode cX7_remember 77 = .ok (.putfield 250, 3) := by decide +kernel
theorem dX7_remember_80 : decode cX7_remember 80 = .ok (.return_, 1) := by decide +kernel
theorem c_mremember (ha : 0 ≤ ac ∧ ac ≤ 14) : Cd l yX7_remember cX7_remember 2 none rmX7_remember [.ref 0] (mdW rf sz S ac B I m Fi Co Br Wt mk gy S2 tx di ke ik ea sd rt lf wy sp ou) none (mdW rf sz S (aP ac) B I m Fi Co Br Wt mk gy S2 tx (dP S ac di) ke ik ea sd rt lf wy sp ou) := by
  refine Ct.of miX7_remember (Nat.le_of_ble_eq_true rfl) ?_
  intro X hXl hN ok
  refine AW.cast (L2 := [some (.ref 0), none]) ?_ rfl rfl rfl
  have s50 : ∀ (a2 : Int) (d2 : Int → Int) (v : Option Value), 0 ≤ a2 ∧ a2 < 14 → a2 + 1 = aP ac → d2 = (if ac = 14 then shD di 2080 else di) → AW X 0 0 50 [some (.ref 0), v] [] (mdW rf sz S (a2) B I m Fi Co Br Wt mk gy S2 tx (d2) ke ik ea sd rt lf wy sp ou) := by
    intro a2 d2 v h1 h2 h3
    refine a_aload_n (pc := 50) ok dX7_remember_50 rfl ?_
    refine a_getf (pc := 51) ok dX7_remember_51 fl7_13 rfl rfl ?_
    refine a_iconst (pc := 54) ok dX7_remember_54 ?_
    refine a_aload_n (pc := 55) ok dX7_remember_55 rfl ?_
    refine a_getf (pc := 56) ok dX7_remember_56 fl7_19 rfl rfl ?_
    refine a_sipush (pc := 59) ok dX7_remember_59 (by decide) ?_
    refine a_aload_n (pc := 62) ok dX7_remember_62 rfl ?_
    refine a_getf (pc := 63) ok dX7_remember_63 fl7_250 rfl rfl ?_
    refine a_imul (pc := 66) ok dX7_remember_66 ?_
    refine a_callSv (pc := 67) ok [1, 12] dX7_remember_67 mv7_246 miX7_copyState (c_copyState (nf := 160) (nt := 2240) (F := rowS S) (E := d2) (a := 0) (b := 160 * a2) (by omega) (by omega) (by omega)) ⟨by decide, by decide, rfl, rfl, Nat.zero_le _, Nat.zero_le _⟩ rfl rfl (Nat.le_of_ble_eq_true rfl) rfl (by decide) rfl ?_
    refine a_aload_n (pc := 70) ok dX7_remember_70 rfl ?_
    refine a_dup (pc := 71) ok dX7_remember_71 rfl ?_
    refine a_getf (pc := 72) ok dX7_remember_72 fl7_250 rfl rfl ?_
    refine a_iconst (pc := 75) ok dX7_remember_75 ?_
    refine a_iadd (pc := 76) ok dX7_remember_76 ?_
    refine a_putf (pc := 77) ok dX7_remember_77 fp7_250 rfl (by first | rfl | decide) (by first | rfl | decide) (Nat.le_of_ble_eq_true rfl) ?_
    refine AW.cast (M2 := (mdW rf sz S (aP ac) B I m Fi Co Br Wt mk gy S2 tx (dP S ac di) ke ik ea sd rt lf wy sp ou)) ?_ rfl rfl (by rw [← h2]; unfold dP; rw [← h3, ← h2, show a2 + 1 - 1 = a2 by omega]; rfl)
    exact a_vret (pc := 80) ok dX7_remember_80 (⟨rfl, rfl⟩)
  have loop : ∀ k : Nat, k ≤ 2080 → ac = 14 → AW X 0 0 11 [some (.ref 0), some (iv k)] [] (mdW rf sz S ac B I m Fi Co Br Wt mk gy S2 tx (shD di k) ke ik ea sd rt lf wy sp ou) := by
    refine wfl (fun k : Nat => 2080 - k) _ _ ?_
    intro k hk ih h14
    have hup := shD_up (di := di) (k := k) (by omega)
    refine a_iload_n (pc := 11) ok dX7_remember_11 rfl ?_
    refine a_sipush (pc := 12) ok dX7_remember_12 (by decide) ?_
    refine a_icmp_ge (pc := 15) (tgt := 40) ok dX7_remember_15 (by decide) (by first | omega | (unfold rg; omega) | (simp only [rg] at *; omega) | exact bz_rg _ | grind [rg]) (by first | omega | (unfold rg; omega) | (simp only [rg] at *; omega) | exact bz_rg _ | grind [rg]) (fun c15 => ?_) (fun c15 => ?_)
    · have e : k = 2080 := by omega
      subst e
      refine a_aload_n (pc := 40) ok dX7_remember_40 rfl ?_
      refine a_dup (pc := 41) ok dX7_remember_41 rfl ?_
      refine a_getf (pc := 42) ok dX7_remember_42 fl7_250 rfl rfl ?_
      refine a_iconst (pc := 45) ok dX7_remember_45 ?_
      refine a_isub (pc := 46) ok dX7_remember_46 ?_
      refine a_putf (pc := 47) ok dX7_remember_47 fp7_250 rfl (by first | rfl | decide) (by first | rfl | decide) (Nat.le_of_ble_eq_true rfl) ?_
      exact AW.cast (s50 13 (shD di 2080) _ (by omega) (by rw [h14]; decide) (by rw [if_pos h14])) rfl rfl (by rw [h14]; rfl)
    · refine a_aload_n (pc := 18) ok dX7_remember_18 rfl ?_
      refine a_getf (pc := 19) ok dX7_remember_19 fl7_19 rfl rfl ?_
      refine a_iload_n (pc := 22) ok dX7_remember_22 rfl ?_
      refine a_aload_n (pc := 23) ok dX7_remember_23 rfl ?_
      refine a_getf (pc := 24) ok dX7_remember_24 fl7_19 rfl rfl ?_
      refine a_iload_n (pc := 27) ok dX7_remember_27 rfl ?_
      refine a_sipush (pc := 28) ok dX7_remember_28 (by decide) ?_
      refine a_iadd (pc := 31) ok dX7_remember_31 ?_
      refine a_iald (pc := 32) ok dX7_remember_32 rfl (by first | decide | omega) (by first | omega | (unfold rg; omega) | (simp only [rg] at *; omega) | exact bz_rg _ | grind [rg]) ?_
      refine a_iast (pc := 33) ok dX7_remember_33 rfl (by first | decide | omega) (by first | omega | (unfold rg; omega) | (simp only [rg] at *; omega) | exact bz_rg _ | grind [rg]) ?_
      refine a_iinc (pc := 34) ok dX7_remember_34 rfl rfl (by rw [hN]; decide) ?_
      refine a_goto (pc := 37) (tgt := 11) ok dX7_remember_37 (by decide) ?_
      refine AW.cast (ih (k + 1) (by omega) (by omega) h14) rfl rfl ?_
      exact congrArg (fun f => (mdW rf sz S ac B I m Fi Co Br Wt mk gy S2 tx (f) ke ik ea sd rt lf wy sp ou)) hup
  refine a_aload_n (pc := 0) ok dX7_remember_0 rfl ?_
  refine a_getf (pc := 1) ok dX7_remember_1 fl7_250 rfl rfl ?_
  refine a_bipush (pc := 4) ok dX7_remember_4 (by decide) ?_
  refine a_icmp_ne (pc := 6) (tgt := 50) ok dX7_remember_6 (by decide) (by first | omega | (unfold rg; omega) | (simp only [rg] at *; omega) | exact bz_rg _ | grind [rg]) (by first | omega | (unfold rg; omega) | (simp only [rg] at *; omega) | exact bz_rg _ | grind [rg]) (fun c6 => ?_) (fun c6 => ?_)
  · exact AW.cast (s50 ac di _ (by omega) (by unfold aP; rw [if_neg (by omega)]) (by rw [if_neg (by omega)])) rfl rfl rfl
  · refine a_iconst (pc := 9) ok dX7_remember_9 ?_
    refine a_istore_n (pc := 10) ok dX7_remember_10 rfl (by rw [hN]; decide) ?_
    exact AW.cast (loop 0 (by omega) (by omega)) rfl rfl (congrArg (fun f => (mdW rf sz S ac B I m Fi Co Br Wt mk gy S2 tx (f) ke ik ea sd rt lf wy sp ou)) shD_0.symm)
theorem dX7_change_0 : decode cX7_change 0 = .ok (.aload_n 0, 1) := by decide +kernel
theorem dX7_change_1 : decode cX7_change 1 = .ok (.invokevirtual 299, 3) := by decide +kernel
theorem dX7_change_4 : decode cX7_change 4 = .ok (.aload_n 0, 1) := by decide +kernel
theorem dX7_change_5 : decode cX7_change 5 = .ok (.getfield 13, 3) := by decide +kernel
theorem dX7_change_8 : decode cX7_change 8 = .ok (.iload_n 1, 1) := by decide +kernel
theorem dX7_change_9 : decode cX7_change 9 = .ok (.iaload, 1) := by decide +kernel
theorem dX7_change_10 : decode cX7_change 10 = .ok (.istore_n 3, 1) := by decide +kernel
theorem dX7_change_11 : decode cX7_change 11 = .ok (.aload_n 0, 1) := by decide +kernel
theorem dX7_change_12 : decode cX7_change 12 = .ok (.getfield 13, 3) := by decide +kernel
theorem dX7_change_15 : decode cX7_change 15 = .ok (.iload_n 1, 1) := by decide +kernel
theorem dX7_change_16 : decode cX7_change 16 = .ok (.iload_n 2, 1) := by decide +kernel
theorem dX7_change_17 : decode cX7_change 17 = .ok (.iastore, 1) := by decide +kernel
theorem dX7_change_18 : decode cX7_change 18 = .ok (.iload_n 3, 1) := by decide +kernel
theorem dX7_change_19 : decode cX7_change 19 = .ok (.ireturn, 1) := by decide +kernel
theorem c_mchange {k v : Int} {S' : St} (ha : 0 ≤ ac ∧ ac ≤ 14) (hk : 0 ≤ k ∧ k < 160) (he : up (rowS S) k v = rowS S') : Cd l yX7_change cX7_change 4 (some .int) rmX7_change [.ref 0, iv k, iv v] (mdW rf sz S ac B I m Fi Co Br Wt mk gy S2 tx di ke ik ea sd rt lf wy sp ou) (some (iv (rowS S k))) (mdW rf sz (S') (aP ac) B I m Fi Co Br Wt mk gy S2 tx (dP S ac di) ke ik ea sd rt lf wy sp ou) := by
  refine Ct.of miX7_change (Nat.le_of_ble_eq_true rfl) ?_
  intro X hXl hN ok
  refine AW.cast (L2 := [some (.ref 0), some (iv k), some (iv v), none]) ?_ rfl rfl rfl
  refine a_aload_n (pc := 0) ok dX7_change_0 rfl ?_
  refine a_callVv (pc := 1) ok [0, 1, 2, 3, 4, 5, 6, 7, 8, 9, 10, 11, 12, 13, 14, 15] dX7_change_1 mv7_299 miX7_remember (c_mremember ha) ⟨by decide, by decide, rfl, rfl, Nat.zero_le _, Nat.zero_le _⟩ rfl rfl (Nat.le_of_ble_eq_true rfl) rfl (by decide) rfl rfl rfl ?_
  refine AW.cast (M2 := (mdW rf sz S (aP ac) B I m Fi Co Br Wt mk gy S2 tx (dP S ac di) ke ik ea sd rt lf wy sp ou)) ?_ rfl rfl rfl
  refine a_aload_n (pc := 4) ok dX7_change_4 rfl ?_
  refine a_getf (pc := 5) ok dX7_change_5 fl7_13 rfl rfl ?_
  refine a_iload_n (pc := 8) ok dX7_change_8 rfl ?_
  refine a_iald (pc := 9) ok dX7_change_9 rfl (by first | decide | omega) (by first | omega | (unfold rg; omega) | (simp only [rg] at *; omega) | exact bz_rg _ | grind [rg]) ?_
  refine a_istore_n (pc := 10) ok dX7_change_10 rfl (by rw [hN]; decide) ?_
  refine a_aload_n (pc := 11) ok dX7_change_11 rfl ?_
  refine a_getf (pc := 12) ok dX7_change_12 fl7_13 rfl rfl ?_
  refine a_iload_n (pc := 15) ok dX7_change_15 rfl ?_
  refine a_iload_n (pc := 16) ok dX7_change_16 rfl ?_
  refine a_iast (pc := 17) ok dX7_change_17 rfl (by first | decide | omega) (by first | omega | (unfold rg; omega) | (simp only [rg] at *; omega) | exact bz_rg _ | grind [rg]) ?_
  refine AW.cast (M2 := (mdW rf sz (S') (aP ac) B I m Fi Co Br Wt mk gy S2 tx (dP S ac di) ke ik ea sd rt lf wy sp ou)) ?_ rfl rfl (by rw [show (((mdW rf sz S (aP ac) B I m Fi Co Br Wt mk gy S2 tx (dP S ac di) ke ik ea sd rt lf wy sp ou)).set 1 (ia 160 (up (rowS S) k v))) = ((mdW rf sz S (aP ac) B I m Fi Co Br Wt mk gy S2 tx (dP S ac di) ke ik ea sd rt lf wy sp ou)).set 1 (ia 160 (rowS S')) by rw [he]]; rfl)
  refine a_iload_n (pc := 18) ok dX7_change_18 rfl ?_
  exact a_iret (pc := 19) ok dX7_change_19 (⟨rfl, rfl⟩)
theorem row_E (S : St) (v : Int) : up (rowS S) 8 v = rowS (setE S v) := by
  funext j; simp only [up, rowOf]; (repeat' split) <;> first | rfl | omega
theorem row_I (S : St) (v : Int) : up (rowS S) 15 v = rowS (setI S v) := by
  funext j; simp only [up, rowOf]; (repeat' split) <;> first | rfl | omega
theorem row_H (S : St) (v : Int) {b : Int} (hb : 0 ≤ b ∧ b < 6) : up (rowS S) (9 + b) v = rowS (setH S b v) := by
  show _ = rowOf (sC S) (sR S) (sG S) (sT S) (sN S) (sE S) (up (sH S) b v) (sI S)
  funext j; simp only [up, rowOf]; (repeat' split) <;> first | rfl | omega
theorem row_h (S : St) {b : Int} (hb : 0 ≤ b ∧ b < 6) : rowS S (9 + b) = sH S b := by
  simp only [rowOf]; (repeat' split) <;> first | (exfalso; omega) | (congr 1; omega)
def kHatch (i v : Int) : Int := if 0 ≤ i ∧ i ≤ 5 then (if 0 ≤ v ∧ v ≤ 9 then 0 else 2) else 1
def kPlate (w h : Int) : Int := if (1 ≤ w ∧ w ≤ 12) ∧ 1 ≤ h ∧ h ≤ 12 then 0 else 1
noncomputable def kPut (S : St) (x y g : Int) : Int := if ¬ (0 ≤ x ∧ x < sC S) ∨ ¬ (0 ≤ y ∧ y < sR S) then 1 else if 0 ≤ g ∧ g ≤ 99 then 0 else 2
noncomputable def kBox (S : St) (x0 x1 y0 y1 g : Int) : Int := if ¬ (0 ≤ x0 ∧ x0 < sC S) ∨ ¬ (0 ≤ x1 ∧ x1 < sC S) ∨ ¬ (0 ≤ y0 ∧ y0 < sR S) ∨ ¬ (0 ≤ y1 ∧ y1 < sR S) then 1 else if (0 ≤ g ∧ g ≤ 99) ∧ inP (sC S) (sR S) x0 y0 ∧ inP (sC S) (sR S) x1 y1 ∧ x0 ≤ x1 ∧ y0 ≤ y1 then 0 else 2
noncomputable def kPart (S : St) (v b : Int) : Int := if ¬ (1 ≤ v ∧ v ≤ 99) then 1 else if canT (sT S) (sN S) v b = true then 0 else 2
theorem kHatch_rg {i v : Int} : 0 ≤ kHatch i v ∧ kHatch i v ≤ 2 := by
  unfold kHatch
  repeat' split
  all_goals omega
theorem kPlate_rg {w h : Int} : 0 ≤ kPlate w h ∧ kPlate w h ≤ 2 := by
  unfold kPlate
  repeat' split
  all_goals omega
theorem kIn_rg {v lo hi : Int} : 0 ≤ kIn v lo hi ∧ kIn v lo hi ≤ 2 := by
  unfold kIn
  repeat' split
  all_goals omega
theorem kPut_rg {x y g : Int} : 0 ≤ kPut S x y g ∧ kPut S x y g ≤ 2 := by
  unfold kPut
  repeat' split
  all_goals omega
theorem kBox_rg {x0 x1 y0 y1 g : Int} : 0 ≤ kBox S x0 x1 y0 y1 g ∧ kBox S x0 x1 y0 y1 g ≤ 2 := by
  unfold kBox
  repeat' split
  all_goals omega
theorem kPart_rg {v b : Int} : 0 ≤ kPart S v b ∧ kPart S v b ≤ 2 := by
  unfold kPart
  repeat' split
  all_goals omega
theorem kHatch_0 {i v : Int} (h : kHatch i v = 0) : (0 ≤ i ∧ i ≤ 5) ∧ 0 ≤ v ∧ v ≤ 9 := by
  unfold kHatch at h
  repeat' split at h
  all_goals omega
theorem kPlate_0 {w h : Int} (e : kPlate w h = 0) : (1 ≤ w ∧ w ≤ 12) ∧ 1 ≤ h ∧ h ≤ 12 := by
  unfold kPlate at e
  repeat' split at e
  all_goals omega
theorem kPut_0 {x y g : Int} (h : kPut S x y g = 0) : (0 ≤ x ∧ x < sC S) ∧ (0 ≤ y ∧ y < sR S) ∧ 0 ≤ g ∧ g ≤ 99 := by
  unfold kPut at h
  repeat' split at h
  all_goals omega
theorem kBox_0 {x0 x1 y0 y1 g : Int} (h : kBox S x0 x1 y0 y1 g = 0) : (0 ≤ x0 ∧ x0 ≤ x1 ∧ x1 < sC S) ∧ (0 ≤ y0 ∧ y0 ≤ y1 ∧ y1 < sR S) ∧ 0 ≤ g ∧ g ≤ 99 := by
  unfold kBox at h
  repeat' split at h
  all_goals omega
theorem bz_y {p : Prop} [Decidable p] (h : ¬ bz p = 0) : p := Classical.byContradiction fun z => h (bz_0.mpr z)
theorem kBox_is1 {x0 x1 y0 y1 g : Int} (h : ¬ (0 ≤ x0 ∧ x0 < sC S) ∨ ¬ (0 ≤ x1 ∧ x1 < sC S) ∨ ¬ (0 ≤ y0 ∧ y0 < sR S) ∨ ¬ (0 ≤ y1 ∧ y1 < sR S)) : kBox S x0 x1 y0 y1 g = 1 := if_pos h
theorem kBox_is2 {x0 x1 y0 y1 g : Int} (h1 : 0 ≤ x0 ∧ x0 < sC S) (h2 : 0 ≤ x1 ∧ x1 < sC S) (h3 : 0 ≤ y0 ∧ y0 < sR S) (h4 : 0 ≤ y1 ∧ y1 < sR S) : kBox S x0 x1 y0 y1 g = if (0 ≤ g ∧ g ≤ 99) ∧ inP (sC S) (sR S) x0 y0 ∧ inP (sC S) (sR S) x1 y1 ∧ x0 ≤ x1 ∧ y0 ≤ y1 then 0 else 2 := if_neg (fun z => z.elim (fun y => y h1) fun z => z.elim (fun y => y h2) fun z => z.elim (fun y => y h3) fun y => y h4)
theorem kPart_0 {v b : Int} (h : kPart S v b = 0) : (1 ≤ v ∧ v ≤ 99) ∧ canT (sT S) (sN S) v b = true := by
  unfold kPart at h
  repeat' split at h
  · omega
  · rename_i z1 z2; exact ⟨Classical.byContradiction z1, z2⟩
  · omega
theorem dX7_share_0 : decode cX7_share 0 = .ok (.aload_n 0, 1) := by decide +kernel
theorem dX7_share_1 : decode cX7_share 1 = .ok (.iload_n 1, 1) := by decide +kernel
theorem dX7_share_2 : decode cX7_share 2 = .ok (.i2l, 1) := by decide +kernel
theorem dX7_share_3 : decode cX7_share 3 = .ok (.lconst 0, 1) := by decide +kernel
theorem dX7_share_4 : decode cX7_share 4 = .ok (.ldc2_w 264, 3) := by decide +kernel
theorem dX7_share_7 : decode cX7_share 7 = .ok (.invokestatic 68, 3) := by decide +kernel
theorem dX7_share_10 : decode cX7_share 10 = .ok (.ifCond .eq 7, 3) := by decide +kernel
theorem dX7_share_13 : decode cX7_share 13 = .ok (.iconst 0, 1) := by decide +kernel
theorem dX7_share_14 : decode cX7_share 14 = .ok (.goto 4, 3) := by decide +kernel
theorem dX7_share_17 : decode cX7_share 17 = .ok (.iconst 1, 1) := by decide +kernel
theorem dX7_share_18 : decode cX7_share 18 = .ok (.invokevirtual 192, 3) := by decide +kernel
theorem dX7_share_21 : decode cX7_share 21 = .ok (.ifCond .eq 5, 3) := by decide +kernel
theorem dX7_share_24 : decode cX7_share 24 = .ok (.iconst 0, 1) := by decide +kernel
theorem dX7_share_25 : decode cX7_share 25 = .ok (.ireturn, 1) := by decide +kernel
theorem dX7_share_26 : decode cX7_share 26 = .ok (.aload_n 0, 1) := by decide +kernel
theorem dX7_share_27 : decode cX7_share 27 = .ok (.invokevirtual 299, 3) := by decide +kernel
theorem dX7_share_30 : decode cX7_share 30 = .ok (.aload_n 0, 1) := by decide +kernel
theorem dX7_share_31 : decode cX7_share 31 = .ok (.getfield 13, 3) := by decide +kernel
theorem dX7_share_34 : decode cX7_share 34 = .ok (.iload_n 1, 1) := by decide +kernel
theorem dX7_share_35 : decode cX7_share 35 = .ok (.invokestatic 308, 3) := by decide +kernel
theorem dX7_share_38 : decode cX7_share 38 = .ok (.ireturn, 1) := by decide +kernel
theorem c_mshare {v : Int} (hS : SV S) (hB : ∀ i, 0 ≤ B i ∧ B i ≤ 5) (hI : ∀ i, rg (I i)) (ha : 0 ≤ ac ∧ ac ≤ 14) (hv : rg v) : Ct l yX7_share cX7_share 2 (some .int) rmX7_share [.ref 0, iv v] (mdW rf sz S ac B I m Fi Co Br Wt mk gy S2 tx di ke ik ea sd rt lf wy sp ou)
    (fun z M => z = some (iv (if kIn v 0 5 = 0 then ((shK (sG S) (sC S * sR S).toNat v (sT S) v.toNat).2 : Int) else 0)) ∧ WM (kIn v 0 5) sz (if kIn v 0 5 = 0 then gH S v else S) (if kIn v 0 5 = 0 then aP ac else ac) tx (if kIn v 0 5 = 0 then dP S ac di else di) ke ik M) := by
  refine Ct.of miX7_share (Nat.le_of_ble_eq_true rfl) ?_
  intro X hXl hN ok
  refine AW.cast (L2 := [some (.ref 0), some (iv v)]) ?_ rfl rfl rfl
  have hd := hS.1
  have hzr := kIn_rg (v := v) (lo := 0) (hi := 5)
  have sj : ∀ z : Int, z = kIn v 0 5 → AW X 0 0 18 [some (.ref 0), some (iv v)] [iv z, .ref 0] (mdW rf sz S ac B I m Fi Co Br Wt mk gy S2 tx di ke ik ea sd rt lf wy sp ou) := by
    intro z hz
    rw [← hz] at hzr
    by_cases k0 : kIn v 0 5 = 0
    · rw [if_pos k0, if_pos k0, if_pos k0, if_pos k0] at ok
      rw [k0] at ok hz
      subst hz
      have hw2 := kIn_0 k0
      refine x_callVi (pc := 18) ok [0, 11, 1, 10, 12, 13, 14, 2, 3, 4, 5, 6, 7, 8, 9, 15] 1 dX7_share_18 mv7_192 miX7_refused (c_refused (by unfold rg; omega)) ⟨by decide, by decide, rfl, rfl, Nat.zero_le _, Nat.zero_le _⟩ rfl rfl (Nat.le_of_ble_eq_true rfl) rfl rfl (by decide) rfl rfl rfl ?_
      refine a_if_eq (pc := 21) (tgt := 26) ok dX7_share_21 (by decide) (by first | omega | (unfold rg; omega) | (simp only [rg] at *; omega) | exact bz_rg _ | grind [rg]) (fun c21 => ?_) (fun c21 => ?_)
      · refine AW.cast (M2 := (mdW (0) sz S ac B I m Fi Co Br Wt mk gy S2 tx di ke ik ea sd rt lf wy sp ou)) ?_ rfl rfl rfl
        refine a_aload_n (pc := 26) ok dX7_share_26 rfl ?_
        refine a_callVv (pc := 27) ok [0, 1, 2, 3, 4, 5, 6, 7, 8, 9, 10, 11, 12, 13, 14, 15] dX7_share_27 mv7_299 miX7_remember (c_mremember ha) ⟨by decide, by decide, rfl, rfl, Nat.zero_le _, Nat.zero_le _⟩ rfl rfl (Nat.le_of_ble_eq_true rfl) rfl (by decide) rfl rfl rfl ?_
        refine AW.cast (M2 := (mdW (0) sz S (aP ac) B I m Fi Co Br Wt mk gy S2 tx (dP S ac di) ke ik ea sd rt lf wy sp ou)) ?_ rfl rfl rfl
        refine a_aload_n (pc := 30) ok dX7_share_30 rfl ?_
        refine a_getf (pc := 31) ok dX7_share_31 fl7_13 rfl rfl ?_
        refine a_iload_n (pc := 34) ok dX7_share_34 rfl ?_
        refine a_callSi (pc := 35) ok [1] dX7_share_35 mv7_308 miX7_shareOn (c_shareOn hd hS.2.1 hS.2.2.1 hw2) ⟨by decide, by decide, rfl, rfl, Nat.zero_le _, Nat.zero_le _⟩ rfl rfl (Nat.le_of_ble_eq_true rfl) rfl (by decide) rfl ?_
        exact a_iret (pc := 38) ok dX7_share_38 (⟨rfl, WM_mk (S := gH S v) hB hI⟩)
      · exact absurd rfl c21
    · rw [if_neg k0, if_neg k0, if_neg k0, if_neg k0, ← hz] at ok
      refine x_callVi (pc := 18) ok [0, 11, 1, 10, 12, 13, 14, 2, 3, 4, 5, 6, 7, 8, 9, 15] 1 dX7_share_18 mv7_192 miX7_refused (c_refused (by unfold rg; omega)) ⟨by decide, by decide, rfl, rfl, Nat.zero_le _, Nat.zero_le _⟩ rfl rfl (Nat.le_of_ble_eq_true rfl) rfl rfl (by decide) rfl rfl rfl ?_
      refine a_if_eq (pc := 21) (tgt := 26) ok dX7_share_21 (by decide) (by exact bz_rg _) (fun c21 => ?_) (fun c21 => ?_)
      · exact absurd c21 (by rw [bz_pos (show 0 < z by omega)]; decide)
      · refine a_iconst (pc := 24) ok dX7_share_24 ?_
        exact a_iret (pc := 25) ok dX7_share_25 (⟨rfl, WM_mk hB hI⟩)
  refine a_aload_n (pc := 0) ok dX7_share_0 rfl ?_
  refine a_iload_n (pc := 1) ok dX7_share_1 rfl ?_
  refine a_i2l (pc := 2) ok dX7_share_2 (by first | omega | (unfold rg; omega) | (simp only [rg] at *; omega) | exact bz_rg _ | grind [rg]) ?_
  refine a_lconst (pc := 3) (z := 0) ok dX7_share_3 rfl ?_
  refine a_ldc2 (pc := 4) (z := 5) (v := Int64.ofInt 5) ok dX7_share_4 (ug6 88 (by decide +kernel) rfl) rfl ?_
  refine a_callSp (pc := 7) ok [] dX7_share_7 mv7_68 miX7_in (c_in (by unfold rgL; unfold rg at hv; omega) (by unfold rgL; omega) (by unfold rgL; omega)) ⟨by decide, by decide, rfl, rfl, Nat.zero_le _, Nat.zero_le _⟩ rfl rfl (Nat.le_of_ble_eq_true rfl) rfl (by decide) ?_
  refine a_if_eq (pc := 10) (tgt := 17) ok dX7_share_10 (by decide) (by exact bz_rg _) (fun c10 => ?_) (fun c10 => ?_)
  · refine a_iconst (pc := 17) ok dX7_share_17 ?_
    exact sj 1 (by unfold kIn; rw [if_neg (bz_0.mp c10)])
  · refine a_iconst (pc := 13) ok dX7_share_13 ?_
    refine a_goto (pc := 14) (tgt := 18) ok dX7_share_14 (by decide) ?_
    exact sj 0 (by unfold kIn; rw [if_pos (Classical.byContradiction fun z => c10 (bz_0.mpr z))])
theorem dX7_least_0 : decode cX7_least 0 = .ok (.aload_n 0, 1) := by decide +kernel
theorem dX7_least_1 : decode cX7_least 1 = .ok (.iload_n 1, 1) := by decide +kernel
theorem dX7_least_2 : decode cX7_least 2 = .ok (.i2l, 1) := by decide +kernel
theorem dX7_least_3 : decode cX7_least 3 = .ok (.lconst 1, 1) := by decide +kernel
theorem dX7_least_4 : decode cX7_least 4 = .ok (.ldc2_w 311, 3) := by decide +kernel
theorem dX7_least_7 : decode cX7_least 7 = .ok (.invokestatic 68, 3) := by decide +kernel
theorem dX7_least_10 : decode cX7_least 10 = .ok (.ifCond .eq 7, 3) := by decide +kernel
theorem dX7_least_13 : decode cX7_least 13 = .ok (.iconst 0, 1) := by decide +kernel
theorem dX7_least_14 : decode cX7_least 14 = .ok (.goto 4, 3) := by decide +kernel
theorem dX7_least_17 : decode cX7_least 17 = .ok (.iconst 1, 1) := by decide +kernel
theorem dX7_least_18 : decode cX7_least 18 = .ok (.invokevirtual 192, 3) := by decide +kernel
theorem dX7_least_21 : decode cX7_least 21 = .ok (.ifCond .eq 5, 3) := by decide +kernel
theorem dX7_least_24 : decode cX7_least 24 = .ok (.iconst 0, 1) := by decide +kernel
theorem dX7_least_25 : decode cX7_least 25 = .ok (.ireturn, 1) := by decide +kernel
theorem dX7_least_26 : decode cX7_least 26 = .ok (.aload_n 0, 1) := by decide +kernel
theorem dX7_least_27 : decode cX7_least 27 = .ok (.bipush 8, 2) := by decide +kernel
theorem dX7_least_29 : decode cX7_least 29 = .ok (.iload_n 1, 1) := by decide +kernel
theorem dX7_least_30 : decode cX7_least 30 = .ok (.invokevirtual 313, 3) := by decide +kernel
theorem dX7_least_33 : decode cX7_least 33 = .ok (.ireturn, 1) := by decide +kernel
theorem c_mleast {v : Int} (hS : SV S) (hB : ∀ i, 0 ≤ B i ∧ B i ≤ 5) (hI : ∀ i, rg (I i)) (ha : 0 ≤ ac ∧ ac ≤ 14) (hv : rg v) : Ct l yX7_least cX7_least 2 (some .int) rmX7_least [.ref 0, iv v] (mdW rf sz S ac B I m Fi Co Br Wt mk gy S2 tx di ke ik ea sd rt lf wy sp ou)
    (fun z M => z = some (iv (if kIn v 1 30 = 0 then sE S else 0)) ∧ WM (kIn v 1 30) sz (if kIn v 1 30 = 0 then setE S v else S) (if kIn v 1 30 = 0 then aP ac else ac) tx (if kIn v 1 30 = 0 then dP S ac di else di) ke ik M) := by
  refine Ct.of miX7_least (Nat.le_of_ble_eq_true rfl) ?_
  intro X hXl hN ok
  refine AW.cast (L2 := [some (.ref 0), some (iv v)]) ?_ rfl rfl rfl
  have hd := hS.1
  have hzr := kIn_rg (v := v) (lo := 1) (hi := 30)
  have sj : ∀ z : Int, z = kIn v 1 30 → AW X 0 0 18 [some (.ref 0), some (iv v)] [iv z, .ref 0] (mdW rf sz S ac B I m Fi Co Br Wt mk gy S2 tx di ke ik ea sd rt lf wy sp ou) := by
    intro z hz
    rw [← hz] at hzr
    by_cases k0 : kIn v 1 30 = 0
    · rw [if_pos k0, if_pos k0, if_pos k0, if_pos k0] at ok
      rw [k0] at ok hz
      subst hz
      have hw2 := kIn_0 k0
      refine x_callVi (pc := 18) ok [0, 11, 1, 10, 12, 13, 14, 2, 3, 4, 5, 6, 7, 8, 9, 15] 1 dX7_least_18 mv7_192 miX7_refused (c_refused (by unfold rg; omega)) ⟨by decide, by decide, rfl, rfl, Nat.zero_le _, Nat.zero_le _⟩ rfl rfl (Nat.le_of_ble_eq_true rfl) rfl rfl (by decide) rfl rfl rfl ?_
      refine a_if_eq (pc := 21) (tgt := 26) ok dX7_least_21 (by decide) (by first | omega | (unfold rg; omega) | (simp only [rg] at *; omega) | exact bz_rg _ | grind [rg]) (fun c21 => ?_) (fun c21 => ?_)
      · refine AW.cast (M2 := (mdW (0) sz S ac B I m Fi Co Br Wt mk gy S2 tx di ke ik ea sd rt lf wy sp ou)) ?_ rfl rfl rfl
        refine a_aload_n (pc := 26) ok dX7_least_26 rfl ?_
        refine a_bipush (pc := 27) ok dX7_least_27 (by decide) ?_
        refine a_iload_n (pc := 29) ok dX7_least_29 rfl ?_
        refine a_callVi (pc := 30) ok [0, 1, 2, 3, 4, 5, 6, 7, 8, 9, 10, 11, 12, 13, 14, 15] dX7_least_30 mv7_313 miX7_change (c_mchange (k := 8) (v := v) (S' := setE S v) ha (by omega) (row_E S v)) ⟨by decide, by decide, rfl, rfl, Nat.zero_le _, Nat.zero_le _⟩ rfl rfl (Nat.le_of_ble_eq_true rfl) rfl (by decide) rfl rfl rfl ?_
        exact a_iret (pc := 33) ok dX7_least_33 (⟨rfl, WM_mk hB hI⟩)
      · exact absurd rfl c21
    · rw [if_neg k0, if_neg k0, if_neg k0, if_neg k0, ← hz] at ok
      refine x_callVi (pc := 18) ok [0, 11, 1, 10, 12, 13, 14, 2, 3, 4, 5, 6, 7, 8, 9, 15] 1 dX7_least_18 mv7_192 miX7_refused (c_refused (by unfold rg; omega)) ⟨by decide, by decide, rfl, rfl, Nat.zero_le _, Nat.zero_le _⟩ rfl rfl (Nat.le_of_ble_eq_true rfl) rfl rfl (by decide) rfl rfl rfl ?_
      refine a_if_eq (pc := 21) (tgt := 26) ok dX7_least_21 (by decide) (by exact bz_rg _) (fun c21 => ?_) (fun c21 => ?_)
      · exact absurd c21 (by rw [bz_pos (show 0 < z by omega)]; decide)
      · refine a_iconst (pc := 24) ok dX7_least_24 ?_
        exact a_iret (pc := 25) ok dX7_least_25 (⟨rfl, WM_mk hB hI⟩)
  refine a_aload_n (pc := 0) ok dX7_least_0 rfl ?_
  refine a_iload_n (pc := 1) ok dX7_least_1 rfl ?_
  refine a_i2l (pc := 2) ok dX7_least_2 (by first | omega | (unfold rg; omega) | (simp only [rg] at *; omega) | exact bz_rg _ | grind [rg]) ?_
  refine a_lconst (pc := 3) (z := 1) ok dX7_least_3 rfl ?_
  refine a_ldc2 (pc := 4) (z := 30) (v := Int64.ofInt 30) ok dX7_least_4 (ug6 201 (by decide +kernel) rfl) rfl ?_
  refine a_callSp (pc := 7) ok [] dX7_least_7 mv7_68 miX7_in (c_in (by unfold rgL; unfold rg at hv; omega) (by unfold rgL; omega) (by unfold rgL; omega)) ⟨by decide, by decide, rfl, rfl, Nat.zero_le _, Nat.zero_le _⟩ rfl rfl (Nat.le_of_ble_eq_true rfl) rfl (by decide) ?_
  refine a_if_eq (pc := 10) (tgt := 17) ok dX7_least_10 (by decide) (by exact bz_rg _) (fun c10 => ?_) (fun c10 => ?_)
  · refine a_iconst (pc := 17) ok dX7_least_17 ?_
    exact sj 1 (by unfold kIn; rw [if_neg (bz_0.mp c10)])
  · refine a_iconst (pc := 13) ok dX7_least_13 ?_
    refine a_goto (pc := 14) (tgt := 18) ok dX7_least_14 (by decide) ?_
    exact sj 0 (by unfold kIn; rw [if_pos (Classical.byContradiction fun z => c10 (bz_0.mpr z))])
theorem dX7_line_0 : decode cX7_line 0 = .ok (.aload_n 0, 1) := by decide +kernel
theorem dX7_line_1 : decode cX7_line 1 = .ok (.iload_n 1, 1) := by decide +kernel
theorem dX7_line_2 : decode cX7_line 2 = .ok (.i2l, 1) := by decide +kernel
theorem dX7_line_3 : decode cX7_line 3 = .ok (.lconst 0, 1) := by decide +kernel
theorem dX7_line_4 : decode cX7_line 4 = .ok (.ldc2_w 199, 3) := by decide +kernel
theorem dX7_line_7 : decode cX7_line 7 = .ok (.invokestatic 68, 3) := by decide +kernel
theorem dX7_line_10 : decode cX7_line 10 = .ok (.ifCond .eq 7, 3) := by decide +kernel
theorem dX7_line_13 : decode cX7_line 13 = .ok (.iconst 0, 1) := by decide +kernel
theorem dX7_line_14 : decode cX7_line 14 = .ok (.goto 4, 3) := by decide +kernel
theorem dX7_line_17 : decode cX7_line 17 = .ok (.iconst 1, 1) := by decide +kernel
theorem dX7_line_18 : decode cX7_line 18 = .ok (.invokevirtual 192, 3) := by decide +kernel
theorem dX7_line_21 : decode cX7_line 21 = .ok (.ifCond .eq 5, 3) := by decide +kernel
theorem dX7_line_24 : decode cX7_line 24 = .ok (.iconst 0, 1) := by decide +kernel
theorem dX7_line_25 : decode cX7_line 25 = .ok (.ireturn, 1) := by decide +kernel
theorem dX7_line_26 : decode cX7_line 26 = .ok (.aload_n 0, 1) := by decide +kernel
theorem dX7_line_27 : decode cX7_line 27 = .ok (.bipush 15, 2) := by decide +kernel
theorem dX7_line_29 : decode cX7_line 29 = .ok (.iload_n 1, 1) := by decide +kernel
theorem dX7_line_30 : decode cX7_line 30 = .ok (.invokevirtual 313, 3) := by decide +kernel
theorem dX7_line_33 : decode cX7_line 33 = .ok (.ireturn, 1) := by decide +kernel
theorem c_mline {v : Int} (hS : SV S) (hB : ∀ i, 0 ≤ B i ∧ B i ≤ 5) (hI : ∀ i, rg (I i)) (ha : 0 ≤ ac ∧ ac ≤ 14) (hv : rg v) : Ct l yX7_line cX7_line 2 (some .int) rmX7_line [.ref 0, iv v] (mdW rf sz S ac B I m Fi Co Br Wt mk gy S2 tx di ke ik ea sd rt lf wy sp ou)
    (fun z M => z = some (iv (if kIn v 0 9 = 0 then sI S else 0)) ∧ WM (kIn v 0 9) sz (if kIn v 0 9 = 0 then setI S v else S) (if kIn v 0 9 = 0 then aP ac else ac) tx (if kIn v 0 9 = 0 then dP S ac di else di) ke ik M) := by
  refine Ct.of miX7_line (Nat.le_of_ble_eq_true rfl) ?_
  intro X hXl hN ok
  refine AW.cast (L2 := [some (.ref 0), some (iv v)]) ?_ rfl rfl rfl
  have hd := hS.1
  have hzr := kIn_rg (v := v) (lo := 0) (hi := 9)
  have sj : ∀ z : Int, z = kIn v 0 9 → AW X 0 0 18 [some (.ref 0), some (iv v)] [iv z, .ref 0] (mdW rf sz S ac B I m Fi Co Br Wt mk gy S2 tx di ke ik ea sd rt lf wy sp ou) := by
    intro z hz
    rw [← hz] at hzr
    by_cases k0 : kIn v 0 9 = 0
    · rw [if_pos k0, if_pos k0, if_pos k0, if_pos k0] at ok
      rw [k0] at ok hz
      subst hz
      have hw2 := kIn_0 k0
      refine x_callVi (pc := 18) ok [0, 11, 1, 10, 12, 13, 14, 2, 3, 4, 5, 6, 7, 8, 9, 15] 1 dX7_line_18 mv7_192 miX7_refused (c_refused (by unfold rg; omega)) ⟨by decide, by decide, rfl, rfl, Nat.zero_le _, Nat.zero_le _⟩ rfl rfl (Nat.le_of_ble_eq_true rfl) rfl rfl (by decide) rfl rfl rfl ?_
      refine a_if_eq (pc := 21) (tgt := 26) ok dX7_line_21 (by decide) (by first | omega | (unfold rg; omega) | (simp only [rg] at *; omega) | exact bz_rg _ | grind [rg]) (fun c21 => ?_) (fun c21 => ?_)
      · refine AW.cast (M2 := (mdW (0) sz S ac B I m Fi Co Br Wt mk gy S2 tx di ke ik ea sd rt lf wy sp ou)) ?_ rfl rfl rfl
        refine a_aload_n (pc := 26) ok dX7_line_26 rfl ?_
        refine a_bipush (pc := 27) ok dX7_line_27 (by decide) ?_
        refine a_iload_n (pc := 29) ok dX7_line_29 rfl ?_
        refine a_callVi (pc := 30) ok [0, 1, 2, 3, 4, 5, 6, 7, 8, 9, 10, 11, 12, 13, 14, 15] dX7_line_30 mv7_313 miX7_change (c_mchange (k := 15) (v := v) (S' := setI S v) ha (by omega) (row_I S v)) ⟨by decide, by decide, rfl, rfl, Nat.zero_le _, Nat.zero_le _⟩ rfl rfl (Nat.le_of_ble_eq_true rfl) rfl (by decide) rfl rfl rfl ?_
        exact a_iret (pc := 33) ok dX7_line_33 (⟨rfl, WM_mk hB hI⟩)
      · exact absurd rfl c21
    · rw [if_neg k0, if_neg k0, if_neg k0, if_neg k0, ← hz] at ok
      refine x_callVi (pc := 18) ok [0, 11, 1, 10, 12, 13, 14, 2, 3, 4, 5, 6, 7, 8, 9, 15] 1 dX7_line_18 mv7_192 miX7_refused (c_refused (by unfold rg; omega)) ⟨by decide, by decide, rfl, rfl, Nat.zero_le _, Nat.zero_le _⟩ rfl rfl (Nat.le_of_ble_eq_true rfl) rfl rfl (by decide) rfl rfl rfl ?_
      refine a_if_eq (pc := 21) (tgt := 26) ok dX7_line_21 (by decide) (by exact bz_rg _) (fun c21 => ?_) (fun c21 => ?_)
      · exact absurd c21 (by rw [bz_pos (show 0 < z by omega)]; decide)
      · refine a_iconst (pc := 24) ok dX7_line_24 ?_
        exact a_iret (pc := 25) ok dX7_line_25 (⟨rfl, WM_mk hB hI⟩)
  refine a_aload_n (pc := 0) ok dX7_line_0 rfl ?_
  refine a_iload_n (pc := 1) ok dX7_line_1 rfl ?_
  refine a_i2l (pc := 2) ok dX7_line_2 (by first | omega | (unfold rg; omega) | (simp only [rg] at *; omega) | exact bz_rg _ | grind [rg]) ?_
  refine a_lconst (pc := 3) (z := 0) ok dX7_line_3 rfl ?_
  refine a_ldc2 (pc := 4) (z := 9) (v := Int64.ofInt 9) ok dX7_line_4 (ug5 178 (by decide +kernel) rfl) rfl ?_
  refine a_callSp (pc := 7) ok [] dX7_line_7 mv7_68 miX7_in (c_in (by unfold rgL; unfold rg at hv; omega) (by unfold rgL; omega) (by unfold rgL; omega)) ⟨by decide, by decide, rfl, rfl, Nat.zero_le _, Nat.zero_le _⟩ rfl rfl (Nat.le_of_ble_eq_true rfl) rfl (by decide) ?_
  refine a_if_eq (pc := 10) (tgt := 17) ok dX7_line_10 (by decide) (by exact bz_rg _) (fun c10 => ?_) (fun c10 => ?_)
  · refine a_iconst (pc := 17) ok dX7_line_17 ?_
    exact sj 1 (by unfold kIn; rw [if_neg (bz_0.mp c10)])
  · refine a_iconst (pc := 13) ok dX7_line_13 ?_
    refine a_goto (pc := 14) (tgt := 18) ok dX7_line_14 (by decide) ?_
    exact sj 0 (by unfold kIn; rw [if_pos (Classical.byContradiction fun z => c10 (bz_0.mpr z))])
theorem dX7_spread_0 : decode cX7_spread 0 = .ok (.aload_n 0, 1) := by decide +kernel
theorem dX7_spread_1 : decode cX7_spread 1 = .ok (.iload_n 1, 1) := by decide +kernel
theorem dX7_spread_2 : decode cX7_spread 2 = .ok (.i2l, 1) := by decide +kernel
theorem dX7_spread_3 : decode cX7_spread 3 = .ok (.lconst 1, 1) := by decide +kernel
theorem dX7_spread_4 : decode cX7_spread 4 = .ok (.ldc2_w 317, 3) := by decide +kernel
theorem dX7_spread_7 : decode cX7_spread 7 = .ok (.invokestatic 68, 3) := by decide +kernel
theorem dX7_spread_10 : decode cX7_spread 10 = .ok (.ifCond .eq 7, 3) := by decide +kernel
theorem dX7_spread_13 : decode cX7_spread 13 = .ok (.iconst 0, 1) := by decide +kernel
theorem dX7_spread_14 : decode cX7_spread 14 = .ok (.goto 4, 3) := by decide +kernel
theorem dX7_spread_17 : decode cX7_spread 17 = .ok (.iconst 1, 1) := by decide +kernel
theorem dX7_spread_18 : decode cX7_spread 18 = .ok (.invokevirtual 192, 3) := by decide +kernel
theorem dX7_spread_21 : decode cX7_spread 21 = .ok (.ifCond .eq 5, 3) := by decide +kernel
theorem dX7_spread_24 : decode cX7_spread 24 = .ok (.iconst 0, 1) := by decide +kernel
theorem dX7_spread_25 : decode cX7_spread 25 = .ok (.ireturn, 1) := by decide +kernel
theorem dX7_spread_26 : decode cX7_spread 26 = .ok (.aload_n 0, 1) := by decide +kernel
theorem dX7_spread_27 : decode cX7_spread 27 = .ok (.invokevirtual 299, 3) := by decide +kernel
theorem dX7_spread_30 : decode cX7_spread 30 = .ok (.aload_n 0, 1) := by decide +kernel
theorem dX7_spread_31 : decode cX7_spread 31 = .ok (.aload_n 0, 1) := by decide +kernel
theorem dX7_spread_32 : decode cX7_spread 32 = .ok (.getfield 13, 3) := by decide +kernel
theorem dX7_spread_35 : decode cX7_spread 35 = .ok (.iload_n 1, 1) := by decide +kernel
theorem dX7_spread_36 : decode cX7_spread 36 = .ok (.invokevirtual 237, 3) := by decide +kernel
theorem dX7_spread_39 : decode cX7_spread 39 = .ok (.ireturn, 1) := by decide +kernel
theorem c_mspread {v : Int} (hS : SV S) (hB : ∀ i, 0 ≤ B i ∧ B i ≤ 5) (hI : ∀ i, rg (I i)) (ha : 0 ≤ ac ∧ ac ≤ 14) (hv : rg v) : Ct l yX7_spread cX7_spread 2 (some .int) rmX7_spread [.ref 0, iv v] (mdW rf sz S ac B I m Fi Co Br Wt mk gy S2 tx di ke ik ea sd rt lf wy sp ou)
    (fun z M => z = some (iv (if kIn v 1 49 = 0 then cntK (fun j => decide (spF v (sG S j) ≠ sG S j)) (sC S * sR S).toNat else 0)) ∧ WM (kIn v 1 49) sz (if kIn v 1 49 = 0 then gQ S v else S) (if kIn v 1 49 = 0 then aP ac else ac) tx (if kIn v 1 49 = 0 then dP S ac di else di) ke ik M) := by
  refine Ct.of miX7_spread (Nat.le_of_ble_eq_true rfl) ?_
  intro X hXl hN ok
  refine AW.cast (L2 := [some (.ref 0), some (iv v)]) ?_ rfl rfl rfl
  have hd := hS.1
  have hzr := kIn_rg (v := v) (lo := 1) (hi := 49)
  have sj : ∀ z : Int, z = kIn v 1 49 → AW X 0 0 18 [some (.ref 0), some (iv v)] [iv z, .ref 0] (mdW rf sz S ac B I m Fi Co Br Wt mk gy S2 tx di ke ik ea sd rt lf wy sp ou) := by
    intro z hz
    rw [← hz] at hzr
    by_cases k0 : kIn v 1 49 = 0
    · rw [if_pos k0, if_pos k0, if_pos k0, if_pos k0] at ok
      rw [k0] at ok hz
      subst hz
      have hw2 := kIn_0 k0
      refine x_callVi (pc := 18) ok [0, 11, 1, 10, 12, 13, 14, 2, 3, 4, 5, 6, 7, 8, 9, 15] 1 dX7_spread_18 mv7_192 miX7_refused (c_refused (by unfold rg; omega)) ⟨by decide, by decide, rfl, rfl, Nat.zero_le _, Nat.zero_le _⟩ rfl rfl (Nat.le_of_ble_eq_true rfl) rfl rfl (by decide) rfl rfl rfl ?_
      refine a_if_eq (pc := 21) (tgt := 26) ok dX7_spread_21 (by decide) (by first | omega | (unfold rg; omega) | (simp only [rg] at *; omega) | exact bz_rg _ | grind [rg]) (fun c21 => ?_) (fun c21 => ?_)
      · refine AW.cast (M2 := (mdW (0) sz S ac B I m Fi Co Br Wt mk gy S2 tx di ke ik ea sd rt lf wy sp ou)) ?_ rfl rfl rfl
        refine a_aload_n (pc := 26) ok dX7_spread_26 rfl ?_
        refine a_callVv (pc := 27) ok [0, 1, 2, 3, 4, 5, 6, 7, 8, 9, 10, 11, 12, 13, 14, 15] dX7_spread_27 mv7_299 miX7_remember (c_mremember ha) ⟨by decide, by decide, rfl, rfl, Nat.zero_le _, Nat.zero_le _⟩ rfl rfl (Nat.le_of_ble_eq_true rfl) rfl (by decide) rfl rfl rfl ?_
        refine AW.cast (M2 := (mdW (0) sz S (aP ac) B I m Fi Co Br Wt mk gy S2 tx (dP S ac di) ke ik ea sd rt lf wy sp ou)) ?_ rfl rfl rfl
        refine a_aload_n (pc := 30) ok dX7_spread_30 rfl ?_
        refine a_aload_n (pc := 31) ok dX7_spread_31 rfl ?_
        refine a_getf (pc := 32) ok dX7_spread_32 fl7_13 rfl rfl ?_
        refine a_iload_n (pc := 35) ok dX7_spread_35 rfl ?_
        refine x_callVi (pc := 36) ok [0, 1, 2, 3, 4, 5, 6, 7, 8, 9, 1, 10, 11, 12, 13, 14, 15] 10 dX7_spread_36 mv7_237 miX7_spreadOn (c_spreadOn hd hS.2.1 hw2) ⟨by decide, by decide, rfl, rfl, Nat.zero_le _, Nat.zero_le _⟩ rfl rfl (Nat.le_of_ble_eq_true rfl) rfl rfl (by decide) rfl rfl rfl ?_
        exact a_iret (pc := 39) ok dX7_spread_39 (⟨rfl, WM_mk (S := gQ S v) hB hI⟩)
      · exact absurd rfl c21
    · rw [if_neg k0, if_neg k0, if_neg k0, if_neg k0, ← hz] at ok
      refine x_callVi (pc := 18) ok [0, 11, 1, 10, 12, 13, 14, 2, 3, 4, 5, 6, 7, 8, 9, 15] 1 dX7_spread_18 mv7_192 miX7_refused (c_refused (by unfold rg; omega)) ⟨by decide, by decide, rfl, rfl, Nat.zero_le _, Nat.zero_le _⟩ rfl rfl (Nat.le_of_ble_eq_true rfl) rfl rfl (by decide) rfl rfl rfl ?_
      refine a_if_eq (pc := 21) (tgt := 26) ok dX7_spread_21 (by decide) (by exact bz_rg _) (fun c21 => ?_) (fun c21 => ?_)
      · exact absurd c21 (by rw [bz_pos (show 0 < z by omega)]; decide)
      · refine a_iconst (pc := 24) ok dX7_spread_24 ?_
        exact a_iret (pc := 25) ok dX7_spread_25 (⟨rfl, WM_mk hB hI⟩)
  refine a_aload_n (pc := 0) ok dX7_spread_0 rfl ?_
  refine a_iload_n (pc := 1) ok dX7_spread_1 rfl ?_
  refine a_i2l (pc := 2) ok dX7_spread_2 (by first | omega | (unfold rg; omega) | (simp only [rg] at *; omega) | exact bz_rg _ | grind [rg]) ?_
  refine a_lconst (pc := 3) (z := 1) ok dX7_spread_3 rfl ?_
  refine a_ldc2 (pc := 4) (z := 49) (v := Int64.ofInt 49) ok dX7_spread_4 (ug6 226 (by decide +kernel) rfl) rfl ?_
  refine a_callSp (pc := 7) ok [] dX7_spread_7 mv7_68 miX7_in (c_in (by unfold rgL; unfold rg at hv; omega) (by unfold rgL; omega) (by unfold rgL; omega)) ⟨by decide, by decide, rfl, rfl, Nat.zero_le _, Nat.zero_le _⟩ rfl rfl (Nat.le_of_ble_eq_true rfl) rfl (by decide) ?_
  refine a_if_eq (pc := 10) (tgt := 17) ok dX7_spread_10 (by decide) (by exact bz_rg _) (fun c10 => ?_) (fun c10 => ?_)
  · refine a_iconst (pc := 17) ok dX7_spread_17 ?_
    exact sj 1 (by unfold kIn; rw [if_neg (bz_0.mp c10)])
  · refine a_iconst (pc := 13) ok dX7_spread_13 ?_
    refine a_goto (pc := 14) (tgt := 18) ok dX7_spread_14 (by decide) ?_
    exact sj 0 (by unfold kIn; rw [if_pos (Classical.byContradiction fun z => c10 (bz_0.mpr z))])
theorem dX7_noise_0 : decode cX7_noise 0 = .ok (.aload_n 0, 1) := by decide +kernel
theorem dX7_noise_1 : decode cX7_noise 1 = .ok (.iload_n 3, 1) := by decide +kernel
theorem dX7_noise_2 : decode cX7_noise 2 = .ok (.i2l, 1) := by decide +kernel
theorem dX7_noise_3 : decode cX7_noise 3 = .ok (.lconst 1, 1) := by decide +kernel
theorem dX7_noise_4 : decode cX7_noise 4 = .ok (.ldc2_w 319, 3) := by decide +kernel
theorem dX7_noise_7 : decode cX7_noise 7 = .ok (.invokestatic 68, 3) := by decide +kernel
theorem dX7_noise_10 : decode cX7_noise 10 = .ok (.ifCond .eq 7, 3) := by decide +kernel
theorem dX7_noise_13 : decode cX7_noise 13 = .ok (.iconst 0, 1) := by decide +kernel
theorem dX7_noise_14 : decode cX7_noise 14 = .ok (.goto 4, 3) := by decide +kernel
theorem dX7_noise_17 : decode cX7_noise 17 = .ok (.iconst 1, 1) := by decide +kernel
theorem dX7_noise_18 : decode cX7_noise 18 = .ok (.invokevirtual 192, 3) := by decide +kernel
theorem dX7_noise_21 : decode cX7_noise 21 = .ok (.ifCond .eq 5, 3) := by decide +kernel
theorem dX7_noise_24 : decode cX7_noise 24 = .ok (.iconst 0, 1) := by decide +kernel
theorem dX7_noise_25 : decode cX7_noise 25 = .ok (.ireturn, 1) := by decide +kernel
theorem dX7_noise_26 : decode cX7_noise 26 = .ok (.aload_n 0, 1) := by decide +kernel
theorem dX7_noise_27 : decode cX7_noise 27 = .ok (.invokevirtual 299, 3) := by decide +kernel
theorem dX7_noise_30 : decode cX7_noise 30 = .ok (.aload_n 0, 1) := by decide +kernel
theorem dX7_noise_31 : decode cX7_noise 31 = .ok (.aload_n 0, 1) := by decide +kernel
theorem dX7_noise_32 : decode cX7_noise 32 = .ok (.getfield 13, 3) := by decide +kernel
theorem dX7_noise_35 : decode cX7_noise 35 = .ok (.lload_n 1, 1) := by decide +kernel
theorem dX7_noise_36 : decode cX7_noise 36 = .ok (.iload_n 3, 1) := by decide +kernel
theorem dX7_noise_37 : decode cX7_noise 37 = .ok (.invokevirtual 321, 3) := by decide +kernel
theorem dX7_noise_40 : decode cX7_noise 40 = .ok (.ireturn, 1) := by decide +kernel
theorem c_mnoise {x v : Int} (hS : SV S) (hB : ∀ i, 0 ≤ B i ∧ B i ≤ 5) (hI : ∀ i, rg (I i)) (ha : 0 ≤ ac ∧ ac ≤ 14) (hv : rg v) : Ct l yX7_noise cX7_noise 4 (some .int) rmX7_noise [.ref 0, jv x, iv v] (mdW rf sz S ac B I m Fi Co Br Wt mk gy S2 tx di ke ik ea sd rt lf wy sp ou)
    (fun z M => z = some (iv (if kIn v 1 50 = 0 then cntK (fun j => decide (noF (sG S) x v j ≠ sG S j)) (sC S * sR S).toNat else 0)) ∧ WM (kIn v 1 50) sz (if kIn v 1 50 = 0 then gO S x v else S) (if kIn v 1 50 = 0 then aP ac else ac) tx (if kIn v 1 50 = 0 then dP S ac di else di) ke ik M) := by
  refine Ct.of miX7_noise (Nat.le_of_ble_eq_true rfl) ?_
  intro X hXl hN ok
  refine AW.cast (L2 := [some (.ref 0), some (jv x), none, some (iv v)]) ?_ rfl rfl rfl
  have hd := hS.1
  have hzr := kIn_rg (v := v) (lo := 1) (hi := 50)
  have sj : ∀ z : Int, z = kIn v 1 50 → AW X 0 0 18 [some (.ref 0), some (jv x), none, some (iv v)] [iv z, .ref 0] (mdW rf sz S ac B I m Fi Co Br Wt mk gy S2 tx di ke ik ea sd rt lf wy sp ou) := by
    intro z hz
    rw [← hz] at hzr
    by_cases k0 : kIn v 1 50 = 0
    · rw [if_pos k0, if_pos k0, if_pos k0, if_pos k0] at ok
      rw [k0] at ok hz
      subst hz
      have hw2 := kIn_0 k0
      refine x_callVi (pc := 18) ok [0, 11, 1, 10, 12, 13, 14, 2, 3, 4, 5, 6, 7, 8, 9, 15] 1 dX7_noise_18 mv7_192 miX7_refused (c_refused (by unfold rg; omega)) ⟨by decide, by decide, rfl, rfl, Nat.zero_le _, Nat.zero_le _⟩ rfl rfl (Nat.le_of_ble_eq_true rfl) rfl rfl (by decide) rfl rfl rfl ?_
      refine a_if_eq (pc := 21) (tgt := 26) ok dX7_noise_21 (by decide) (by first | omega | (unfold rg; omega) | (simp only [rg] at *; omega) | exact bz_rg _ | grind [rg]) (fun c21 => ?_) (fun c21 => ?_)
      · refine AW.cast (M2 := (mdW (0) sz S ac B I m Fi Co Br Wt mk gy S2 tx di ke ik ea sd rt lf wy sp ou)) ?_ rfl rfl rfl
        refine a_aload_n (pc := 26) ok dX7_noise_26 rfl ?_
        refine a_callVv (pc := 27) ok [0, 1, 2, 3, 4, 5, 6, 7, 8, 9, 10, 11, 12, 13, 14, 15] dX7_noise_27 mv7_299 miX7_remember (c_mremember ha) ⟨by decide, by decide, rfl, rfl, Nat.zero_le _, Nat.zero_le _⟩ rfl rfl (Nat.le_of_ble_eq_true rfl) rfl (by decide) rfl rfl rfl ?_
        refine AW.cast (M2 := (mdW (0) sz S (aP ac) B I m Fi Co Br Wt mk gy S2 tx (dP S ac di) ke ik ea sd rt lf wy sp ou)) ?_ rfl rfl rfl
        refine a_aload_n (pc := 30) ok dX7_noise_30 rfl ?_
        refine a_aload_n (pc := 31) ok dX7_noise_31 rfl ?_
        refine a_getf (pc := 32) ok dX7_noise_32 fl7_13 rfl rfl ?_
        refine a_lload_n (pc := 35) ok dX7_noise_35 rfl ?_
        refine a_iload_n (pc := 36) ok dX7_noise_36 rfl ?_
        refine x_callVi (pc := 37) ok [0, 1, 2, 3, 4, 5, 6, 7, 8, 9, 1, 10, 11, 12, 13, 14, 15] 10 dX7_noise_37 mv7_321 miX7_noiseOn (c_noiseOn hd hS.2.1 hw2) ⟨by decide, by decide, rfl, rfl, Nat.zero_le _, Nat.zero_le _⟩ rfl rfl (Nat.le_of_ble_eq_true rfl) rfl rfl (by decide) rfl rfl rfl ?_
        exact a_iret (pc := 40) ok dX7_noise_40 (⟨rfl, WM_mk (S := gO S x v) hB hI⟩)
      · exact absurd rfl c21
    · rw [if_neg k0, if_neg k0, if_neg k0, if_neg k0, ← hz] at ok
      refine x_callVi (pc := 18) ok [0, 11, 1, 10, 12, 13, 14, 2, 3, 4, 5, 6, 7, 8, 9, 15] 1 dX7_noise_18 mv7_192 miX7_refused (c_refused (by unfold rg; omega)) ⟨by decide, by decide, rfl, rfl, Nat.zero_le _, Nat.zero_le _⟩ rfl rfl (Nat.le_of_ble_eq_true rfl) rfl rfl (by decide) rfl rfl rfl ?_
      refine a_if_eq (pc := 21) (tgt := 26) ok dX7_noise_21 (by decide) (by exact bz_rg _) (fun c21 => ?_) (fun c21 => ?_)
      · exact absurd c21 (by rw [bz_pos (show 0 < z by omega)]; decide)
      · refine a_iconst (pc := 24) ok dX7_noise_24 ?_
        exact a_iret (pc := 25) ok dX7_noise_25 (⟨rfl, WM_mk hB hI⟩)
  refine a_aload_n (pc := 0) ok dX7_noise_0 rfl ?_
  refine a_iload_n (pc := 1) ok dX7_noise_1 rfl ?_
  refine a_i2l (pc := 2) ok dX7_noise_2 (by first | omega | (unfold rg; omega) | (simp only [rg] at *; omega) | exact bz_rg _ | grind [rg]) ?_
  refine a_lconst (pc := 3) (z := 1) ok dX7_noise_3 rfl ?_
  refine a_ldc2 (pc := 4) (z := 50) (v := Int64.ofInt 50) ok dX7_noise_4 (ug6 231 (by decide +kernel) rfl) rfl ?_
  refine a_callSp (pc := 7) ok [] dX7_noise_7 mv7_68 miX7_in (c_in (by unfold rgL; unfold rg at hv; omega) (by unfold rgL; omega) (by unfold rgL; omega)) ⟨by decide, by decide, rfl, rfl, Nat.zero_le _, Nat.zero_le _⟩ rfl rfl (Nat.le_of_ble_eq_true rfl) rfl (by decide) ?_
  refine a_if_eq (pc := 10) (tgt := 17) ok dX7_noise_10 (by decide) (by exact bz_rg _) (fun c10 => ?_) (fun c10 => ?_)
  · refine a_iconst (pc := 17) ok dX7_noise_17 ?_
    exact sj 1 (by unfold kIn; rw [if_neg (bz_0.mp c10)])
  · refine a_iconst (pc := 13) ok dX7_noise_13 ?_
    refine a_goto (pc := 14) (tgt := 18) ok dX7_noise_14 (by decide) ?_
    exact sj 0 (by unfold kIn; rw [if_pos (Classical.byContradiction fun z => c10 (bz_0.mpr z))])
theorem dX7_hatch_0 : decode cX7_hatch 0 = .ok (.aload_n 0, 1) := by decide +kernel
theorem dX7_hatch_1 : decode cX7_hatch 1 = .ok (.iload_n 1, 1) := by decide +kernel
theorem dX7_hatch_2 : decode cX7_hatch 2 = .ok (.i2l, 1) := by decide +kernel
theorem dX7_hatch_3 : decode cX7_hatch 3 = .ok (.lconst 0, 1) := by decide +kernel
theorem dX7_hatch_4 : decode cX7_hatch 4 = .ok (.ldc2_w 264, 3) := by decide +kernel
theorem dX7_hatch_7 : decode cX7_hatch 7 = .ok (.invokestatic 68, 3) := by decide +kernel
theorem dX7_hatch_10 : decode cX7_hatch 10 = .ok (.ifCond .ne 7, 3) := by decide +kernel
theorem dX7_hatch_13 : decode cX7_hatch 13 = .ok (.iconst 1, 1) := by decide +kernel
theorem dX7_hatch_14 : decode cX7_hatch 14 = .ok (.goto 20, 3) := by decide +kernel
theorem dX7_hatch_17 : decode cX7_hatch 17 = .ok (.iload_n 2, 1) := by decide +kernel
theorem dX7_hatch_18 : decode cX7_hatch 18 = .ok (.i2l, 1) := by decide +kernel
theorem dX7_hatch_19 : decode cX7_hatch 19 = .ok (.lconst 0, 1) := by decide +kernel
theorem dX7_hatch_20 : decode cX7_hatch 20 = .ok (.ldc2_w 199, 3) := by decide +kernel
theorem dX7_hatch_23 : decode cX7_hatch 23 = .ok (.invokestatic 68, 3) := by decide +kernel
theorem dX7_hatch_26 : decode cX7_hatch 26 = .ok (.ifCond .eq 7, 3) := by decide +kernel
theorem dX7_hatch_29 : decode cX7_hatch 29 = .ok (.iconst 0, 1) := by decide +kernel
theorem dX7_hatch_30 : decode cX7_hatch 30 = .ok (.goto 4, 3) := by decide +kernel
theorem dX7_hatch_33 : decode cX7_hatch 33 = .ok (.iconst 2, 1) := by decide +kernel
theorem dX7_hatch_34 : decode cX7_hatch 34 = .ok (.invokevirtual 192, 3) := by decide +kernel
theorem dX7_hatch_37 : decode cX7_hatch 37 = .ok (.ifCond .eq 5, 3) := by decide +kernel
theorem dX7_hatch_40 : decode cX7_hatch 40 = .ok (.iconst 0, 1) := by decide +kernel
theorem dX7_hatch_41 : decode cX7_hatch 41 = .ok (.ireturn, 1) := by decide +kernel
theorem dX7_hatch_42 : decode cX7_hatch 42 = .ok (.aload_n 0, 1) := by decide +kernel
theorem dX7_hatch_43 : decode cX7_hatch 43 = .ok (.bipush 9, 2) := by decide +kernel
theorem dX7_hatch_45 : decode cX7_hatch 45 = .ok (.iload_n 1, 1) := by decide +kernel
theorem dX7_hatch_46 : decode cX7_hatch 46 = .ok (.iadd, 1) := by decide +kernel
theorem dX7_hatch_47 : decode cX7_hatch 47 = .ok (.iload_n 2, 1) := by decide +kernel
theorem dX7_hatch_48 : decode cX7_hatch 48 = .ok (.invokevirtual 313, 3) := by decide +kernel
theorem dX7_hatch_51 : decode cX7_hatch 51 = .ok (.ireturn, 1) := by decide +kernel
theorem c_mhatch {i v : Int} (hS : SV S) (hB : ∀ i, 0 ≤ B i ∧ B i ≤ 5) (hI : ∀ i, rg (I i)) (ha : 0 ≤ ac ∧ ac ≤ 14) (hi : rg i) (hv : rg v) : Ct l yX7_hatch cX7_hatch 3 (some .int) rmX7_hatch [.ref 0, iv i, iv v] (mdW rf sz S ac B I m Fi Co Br Wt mk gy S2 tx di ke ik ea sd rt lf wy sp ou)
    (fun z M => z = some (iv (if kHatch i v = 0 then sH S i else 0)) ∧ WM (kHatch i v) sz (if kHatch i v = 0 then setH S i v else S) (if kHatch i v = 0 then aP ac else ac) tx (if kHatch i v = 0 then dP S ac di else di) ke ik M) := by
  refine Ct.of miX7_hatch (Nat.le_of_ble_eq_true rfl) ?_
  intro X hXl hN ok
  refine AW.cast (L2 := [some (.ref 0), some (iv i), some (iv v)]) ?_ rfl rfl rfl
  have hd := hS.1
  have hzr := kHatch_rg (i := i) (v := v)
  have sj : ∀ z : Int, z = kHatch i v → AW X 0 0 34 [some (.ref 0), some (iv i), some (iv v)] [iv z, .ref 0] (mdW rf sz S ac B I m Fi Co Br Wt mk gy S2 tx di ke ik ea sd rt lf wy sp ou) := by
    intro z hz
    rw [← hz] at hzr
    by_cases k0 : kHatch i v = 0
    · rw [if_pos k0, if_pos k0, if_pos k0, if_pos k0] at ok
      rw [k0] at ok hz
      subst hz
      have hw2 := kHatch_0 k0
      refine x_callVi (pc := 34) ok [0, 11, 1, 10, 12, 13, 14, 2, 3, 4, 5, 6, 7, 8, 9, 15] 1 dX7_hatch_34 mv7_192 miX7_refused (c_refused (by unfold rg; omega)) ⟨by decide, by decide, rfl, rfl, Nat.zero_le _, Nat.zero_le _⟩ rfl rfl (Nat.le_of_ble_eq_true rfl) rfl rfl (by decide) rfl rfl rfl ?_
      refine a_if_eq (pc := 37) (tgt := 42) ok dX7_hatch_37 (by decide) (by first | omega | (unfold rg; omega) | (simp only [rg] at *; omega) | exact bz_rg _ | grind [rg]) (fun c37 => ?_) (fun c37 => ?_)
      · refine AW.cast (M2 := (mdW (0) sz S ac B I m Fi Co Br Wt mk gy S2 tx di ke ik ea sd rt lf wy sp ou)) ?_ rfl rfl rfl
        refine a_aload_n (pc := 42) ok dX7_hatch_42 rfl ?_
        refine a_bipush (pc := 43) ok dX7_hatch_43 (by decide) ?_
        refine a_iload_n (pc := 45) ok dX7_hatch_45 rfl ?_
        refine a_iadd (pc := 46) ok dX7_hatch_46 ?_
        refine a_iload_n (pc := 47) ok dX7_hatch_47 rfl ?_
        refine a_callVi (pc := 48) ok [0, 1, 2, 3, 4, 5, 6, 7, 8, 9, 10, 11, 12, 13, 14, 15] dX7_hatch_48 mv7_313 miX7_change (c_mchange (k := 9 + i) (v := v) (S' := setH S i v) ha (by omega) (row_H S v (by omega))) ⟨by decide, by decide, rfl, rfl, Nat.zero_le _, Nat.zero_le _⟩ rfl rfl (Nat.le_of_ble_eq_true rfl) rfl (by decide) rfl rfl rfl ?_
        exact a_iret (pc := 51) ok dX7_hatch_51 (⟨by rw [row_h S (by omega)], WM_mk hB hI⟩)
      · exact absurd rfl c37
    · rw [if_neg k0, if_neg k0, if_neg k0, if_neg k0, ← hz] at ok
      refine x_callVi (pc := 34) ok [0, 11, 1, 10, 12, 13, 14, 2, 3, 4, 5, 6, 7, 8, 9, 15] 1 dX7_hatch_34 mv7_192 miX7_refused (c_refused (by unfold rg; omega)) ⟨by decide, by decide, rfl, rfl, Nat.zero_le _, Nat.zero_le _⟩ rfl rfl (Nat.le_of_ble_eq_true rfl) rfl rfl (by decide) rfl rfl rfl ?_
      refine a_if_eq (pc := 37) (tgt := 42) ok dX7_hatch_37 (by decide) (by exact bz_rg _) (fun c37 => ?_) (fun c37 => ?_)
      · exact absurd c37 (by rw [bz_pos (show 0 < z by omega)]; decide)
      · refine a_iconst (pc := 40) ok dX7_hatch_40 ?_
        exact a_iret (pc := 41) ok dX7_hatch_41 (⟨rfl, WM_mk hB hI⟩)
  refine a_aload_n (pc := 0) ok dX7_hatch_0 rfl ?_
  refine a_iload_n (pc := 1) ok dX7_hatch_1 rfl ?_
  refine a_i2l (pc := 2) ok dX7_hatch_2 (by first | omega | (unfold rg; omega) | (simp only [rg] at *; omega) | exact bz_rg _ | grind [rg]) ?_
  refine a_lconst (pc := 3) (z := 0) ok dX7_hatch_3 rfl ?_
  refine a_ldc2 (pc := 4) (z := 5) (v := Int64.ofInt 5) ok dX7_hatch_4 (ug6 88 (by decide +kernel) rfl) rfl ?_
  refine a_callSp (pc := 7) ok [] dX7_hatch_7 mv7_68 miX7_in (c_in (by unfold rgL; unfold rg at hi; omega) (by unfold rgL; omega) (by unfold rgL; omega)) ⟨by decide, by decide, rfl, rfl, Nat.zero_le _, Nat.zero_le _⟩ rfl rfl (Nat.le_of_ble_eq_true rfl) rfl (by decide) ?_
  refine a_if_ne (pc := 10) (tgt := 17) ok dX7_hatch_10 (by decide) (by exact bz_rg _) (fun c10 => ?_) (fun c10 => ?_)
  · refine a_iload_n (pc := 17) ok dX7_hatch_17 rfl ?_
    refine a_i2l (pc := 18) ok dX7_hatch_18 (by first | omega | (unfold rg; omega) | (simp only [rg] at *; omega) | exact bz_rg _ | grind [rg]) ?_
    refine a_lconst (pc := 19) (z := 0) ok dX7_hatch_19 rfl ?_
    refine a_ldc2 (pc := 20) (z := 9) (v := Int64.ofInt 9) ok dX7_hatch_20 (ug5 178 (by decide +kernel) rfl) rfl ?_
    refine a_callSp (pc := 23) ok [] dX7_hatch_23 mv7_68 miX7_in (c_in (by unfold rgL; unfold rg at hv; omega) (by unfold rgL; omega) (by unfold rgL; omega)) ⟨by decide, by decide, rfl, rfl, Nat.zero_le _, Nat.zero_le _⟩ rfl rfl (Nat.le_of_ble_eq_true rfl) rfl (by decide) ?_
    refine a_if_eq (pc := 26) (tgt := 33) ok dX7_hatch_26 (by decide) (by exact bz_rg _) (fun c26 => ?_) (fun c26 => ?_)
    · refine a_iconst (pc := 33) ok dX7_hatch_33 ?_
      exact sj 2 (by unfold kHatch; rw [if_pos (Classical.byContradiction fun z => c10 (bz_0.mpr z)), if_neg (bz_0.mp c26)])
    · refine a_iconst (pc := 29) ok dX7_hatch_29 ?_
      refine a_goto (pc := 30) (tgt := 34) ok dX7_hatch_30 (by decide) ?_
      exact sj 0 (by unfold kHatch; rw [if_pos (Classical.byContradiction fun z => c10 (bz_0.mpr z)), if_pos (Classical.byContradiction fun z => c26 (bz_0.mpr z))])
  · refine a_iconst (pc := 13) ok dX7_hatch_13 ?_
    refine a_goto (pc := 14) (tgt := 34) ok dX7_hatch_14 (by decide) ?_
    exact sj 1 (by unfold kHatch; rw [if_neg (bz_0.mp (by first | exact c10 | exact Decidable.not_not.mp c10))])
theorem dX7_plate_0 : decode cX7_plate 0 = .ok (.aload_n 0, 1) := by decide +kernel
theorem dX7_plate_1 : decode cX7_plate 1 = .ok (.iload_n 1, 1) := by decide +kernel
theorem dX7_plate_2 : decode cX7_plate 2 = .ok (.i2l, 1) := by decide +kernel
theorem dX7_plate_3 : decode cX7_plate 3 = .ok (.lconst 1, 1) := by decide +kernel
theorem dX7_plate_4 : decode cX7_plate 4 = .ok (.ldc2_w 297, 3) := by decide +kernel
theorem dX7_plate_7 : decode cX7_plate 7 = .ok (.invokestatic 68, 3) := by decide +kernel
theorem dX7_plate_10 : decode cX7_plate 10 = .ok (.ifCond .eq 19, 3) := by decide +kernel
theorem dX7_plate_13 : decode cX7_plate 13 = .ok (.iload_n 2, 1) := by decide +kernel
theorem dX7_plate_14 : decode cX7_plate 14 = .ok (.i2l, 1) := by decide +kernel
theorem dX7_plate_15 : decode cX7_plate 15 = .ok (.lconst 1, 1) := by decide +kernel
theorem dX7_plate_16 : decode cX7_plate 16 = .ok (.ldc2_w 297, 3) := by decide +kernel
theorem dX7_plate_19 : decode cX7_plate 19 = .ok (.invokestatic 68, 3) := by decide +kernel
theorem dX7_plate_22 : decode cX7_plate 22 = .ok (.ifCond .eq 7, 3) := by decide +kernel
theorem dX7_plate_25 : decode cX7_plate 25 = .ok (.iconst 0, 1) := by decide +kernel
theorem dX7_plate_26 : decode cX7_plate 26 = .ok (.goto 4, 3) := by decide +kernel
theorem dX7_plate_29 : decode cX7_plate 29 = .ok (.iconst 1, 1) := by decide +kernel
theorem dX7_plate_30 : decode cX7_plate 30 = .ok (.invokevirtual 192, 3) := by decide +kernel
theorem dX7_plate_33 : decode cX7_plate 33 = .ok (.ifCond .eq 5, 3) := by decide +kernel
theorem dX7_plate_36 : decode cX7_plate 36 = .ok (.iconst 0, 1) := by decide +kernel
theorem dX7_plate_37 : decode cX7_plate 37 = .ok (.ireturn, 1) := by decide +kernel
theorem dX7_plate_38 : decode cX7_plate 38 = .ok (.aload_n 0, 1) := by decide +kernel
theorem dX7_plate_39 : decode cX7_plate 39 = .ok (.invokevirtual 299, 3) := by decide +kernel
theorem dX7_plate_42 : decode cX7_plate 42 = .ok (.aload_n 0, 1) := by decide +kernel
theorem dX7_plate_43 : decode cX7_plate 43 = .ok (.getfield 13, 3) := by decide +kernel
theorem dX7_plate_46 : decode cX7_plate 46 = .ok (.iload_n 1, 1) := by decide +kernel
theorem dX7_plate_47 : decode cX7_plate 47 = .ok (.iload_n 2, 1) := by decide +kernel
theorem dX7_plate_48 : decode cX7_plate 48 = .ok (.invokestatic 56, 3) := by decide +kernel
theorem dX7_plate_51 : decode cX7_plate 51 = .ok (.iload_n 1, 1) := by decide +kernel
theorem dX7_plate_52 : decode cX7_plate 52 = .ok (.iload_n 2, 1) := by decide +kernel
theorem dX7_plate_53 : decode cX7_plate 53 = .ok (.imul, 1) := by decide +kernel
theorem dX7_plate_54 : decode cX7_plate 54 = .ok (.ireturn, 1) := by decide +kernel
theorem c_mplate {w h : Int} (hS : SV S) (hB : ∀ i, 0 ≤ B i ∧ B i ≤ 5) (hI : ∀ i, rg (I i)) (ha : 0 ≤ ac ∧ ac ≤ 14) (hw : rg w) (hh : rg h) : Ct l yX7_plate cX7_plate 3 (some .int) rmX7_plate [.ref 0, iv w, iv h] (mdW rf sz S ac B I m Fi Co Br Wt mk gy S2 tx di ke ik ea sd rt lf wy sp ou)
    (fun z M => z = some (iv (if kPlate w h = 0 then w * h else 0)) ∧ WM (kPlate w h) sz (if kPlate w h = 0 then stN S w h else S) (if kPlate w h = 0 then aP ac else ac) tx (if kPlate w h = 0 then dP S ac di else di) ke ik M) := by
  refine Ct.of miX7_plate (Nat.le_of_ble_eq_true rfl) ?_
  intro X hXl hN ok
  refine AW.cast (L2 := [some (.ref 0), some (iv w), some (iv h)]) ?_ rfl rfl rfl
  have hd := hS.1
  have hzr := kPlate_rg (w := w) (h := h)
  have sj : ∀ z : Int, z = kPlate w h → AW X 0 0 30 [some (.ref 0), some (iv w), some (iv h)] [iv z, .ref 0] (mdW rf sz S ac B I m Fi Co Br Wt mk gy S2 tx di ke ik ea sd rt lf wy sp ou) := by
    intro z hz
    rw [← hz] at hzr
    by_cases k0 : kPlate w h = 0
    · rw [if_pos k0, if_pos k0, if_pos k0, if_pos k0] at ok
      rw [k0] at ok hz
      subst hz
      have hw2 := kPlate_0 k0
      refine x_callVi (pc := 30) ok [0, 11, 1, 10, 12, 13, 14, 2, 3, 4, 5, 6, 7, 8, 9, 15] 1 dX7_plate_30 mv7_192 miX7_refused (c_refused (by unfold rg; omega)) ⟨by decide, by decide, rfl, rfl, Nat.zero_le _, Nat.zero_le _⟩ rfl rfl (Nat.le_of_ble_eq_true rfl) rfl rfl (by decide) rfl rfl rfl ?_
      refine a_if_eq (pc := 33) (tgt := 38) ok dX7_plate_33 (by decide) (by first | omega | (unfold rg; omega) | (simp only [rg] at *; omega) | exact bz_rg _ | grind [rg]) (fun c33 => ?_) (fun c33 => ?_)
      · refine AW.cast (M2 := (mdW (0) sz S ac B I m Fi Co Br Wt mk gy S2 tx di ke ik ea sd rt lf wy sp ou)) ?_ rfl rfl rfl
        refine a_aload_n (pc := 38) ok dX7_plate_38 rfl ?_
        refine a_callVv (pc := 39) ok [0, 1, 2, 3, 4, 5, 6, 7, 8, 9, 10, 11, 12, 13, 14, 15] dX7_plate_39 mv7_299 miX7_remember (c_mremember ha) ⟨by decide, by decide, rfl, rfl, Nat.zero_le _, Nat.zero_le _⟩ rfl rfl (Nat.le_of_ble_eq_true rfl) rfl (by decide) rfl rfl rfl ?_
        refine AW.cast (M2 := (mdW (0) sz S (aP ac) B I m Fi Co Br Wt mk gy S2 tx (dP S ac di) ke ik ea sd rt lf wy sp ou)) ?_ rfl rfl rfl
        refine a_aload_n (pc := 42) ok dX7_plate_42 rfl ?_
        refine a_getf (pc := 43) ok dX7_plate_43 fl7_13 rfl rfl ?_
        refine a_iload_n (pc := 46) ok dX7_plate_46 rfl ?_
        refine a_iload_n (pc := 47) ok dX7_plate_47 rfl ?_
        refine a_callSv (pc := 48) ok [1] dX7_plate_48 mv7_56 miX7_clear (c_clear) ⟨by decide, by decide, rfl, rfl, Nat.zero_le _, Nat.zero_le _⟩ rfl rfl (Nat.le_of_ble_eq_true rfl) rfl (by decide) rfl ?_
        refine a_iload_n (pc := 51) ok dX7_plate_51 rfl ?_
        refine a_iload_n (pc := 52) ok dX7_plate_52 rfl ?_
        refine a_imul (pc := 53) ok dX7_plate_53 ?_
        exact a_iret (pc := 54) ok dX7_plate_54 (⟨rfl, WM_mk (S := stN S w h) hB hI⟩)
      · exact absurd rfl c33
    · rw [if_neg k0, if_neg k0, if_neg k0, if_neg k0, ← hz] at ok
      refine x_callVi (pc := 30) ok [0, 11, 1, 10, 12, 13, 14, 2, 3, 4, 5, 6, 7, 8, 9, 15] 1 dX7_plate_30 mv7_192 miX7_refused (c_refused (by unfold rg; omega)) ⟨by decide, by decide, rfl, rfl, Nat.zero_le _, Nat.zero_le _⟩ rfl rfl (Nat.le_of_ble_eq_true rfl) rfl rfl (by decide) rfl rfl rfl ?_
      refine a_if_eq (pc := 33) (tgt := 38) ok dX7_plate_33 (by decide) (by exact bz_rg _) (fun c33 => ?_) (fun c33 => ?_)
      · exact absurd c33 (by rw [bz_pos (show 0 < z by omega)]; decide)
      · refine a_iconst (pc := 36) ok dX7_plate_36 ?_
        exact a_iret (pc := 37) ok dX7_plate_37 (⟨rfl, WM_mk hB hI⟩)
  refine a_aload_n (pc := 0) ok dX7_plate_0 rfl ?_
  refine a_iload_n (pc := 1) ok dX7_plate_1 rfl ?_
  refine a_i2l (pc := 2) ok dX7_plate_2 (by first | omega | (unfold rg; omega) | (simp only [rg] at *; omega) | exact bz_rg _ | grind [rg]) ?_
  refine a_lconst (pc := 3) (z := 1) ok dX7_plate_3 rfl ?_
  refine a_ldc2 (pc := 4) (z := 12) (v := Int64.ofInt 12) ok dX7_plate_4 (ug6 163 (by decide +kernel) rfl) rfl ?_
  refine a_callSp (pc := 7) ok [] dX7_plate_7 mv7_68 miX7_in (c_in (by unfold rgL; unfold rg at hw; omega) (by unfold rgL; omega) (by unfold rgL; omega)) ⟨by decide, by decide, rfl, rfl, Nat.zero_le _, Nat.zero_le _⟩ rfl rfl (Nat.le_of_ble_eq_true rfl) rfl (by decide) ?_
  refine a_if_eq (pc := 10) (tgt := 29) ok dX7_plate_10 (by decide) (by exact bz_rg _) (fun c10 => ?_) (fun c10 => ?_)
  · refine a_iconst (pc := 29) ok dX7_plate_29 ?_
    exact sj 1 (by unfold kPlate; rw [if_neg (fun z => bz_0.mp c10 z.1)])
  · refine a_iload_n (pc := 13) ok dX7_plate_13 rfl ?_
    refine a_i2l (pc := 14) ok dX7_plate_14 (by first | omega | (unfold rg; omega) | (simp only [rg] at *; omega) | exact bz_rg _ | grind [rg]) ?_
    refine a_lconst (pc := 15) (z := 1) ok dX7_plate_15 rfl ?_
    refine a_ldc2 (pc := 16) (z := 12) (v := Int64.ofInt 12) ok dX7_plate_16 (ug6 163 (by decide +kernel) rfl) rfl ?_
    refine a_callSp (pc := 19) ok [] dX7_plate_19 mv7_68 miX7_in (c_in (by unfold rgL; unfold rg at hh; omega) (by unfold rgL; omega) (by unfold rgL; omega)) ⟨by decide, by decide, rfl, rfl, Nat.zero_le _, Nat.zero_le _⟩ rfl rfl (Nat.le_of_ble_eq_true rfl) rfl (by decide) ?_
    refine a_if_eq (pc := 22) (tgt := 29) ok dX7_plate_22 (by decide) (by exact bz_rg _) (fun c22 => ?_) (fun c22 => ?_)
    · refine a_iconst (pc := 29) ok dX7_plate_29 ?_
      exact sj 1 (by unfold kPlate; rw [if_neg (fun z => bz_0.mp c22 z.2)])
    · refine a_iconst (pc := 25) ok dX7_plate_25 ?_
      refine a_goto (pc := 26) (tgt := 30) ok dX7_plate_26 (by decide) ?_
      exact sj 0 (by unfold kPlate; rw [if_pos ⟨Classical.byContradiction fun z => c10 (bz_0.mpr z), Classical.byContradiction fun z => c22 (bz_0.mpr z)⟩])
theorem dX7_cell_0 : decode cX7_cell 0 = .ok (.aload_n 0, 1) := by decide +kernel
theorem dX7_cell_1 : decode cX7_cell 1 = .ok (.aload_n 0, 1) := by decide +kernel
theorem dX7_cell_2 : decode cX7_cell 2 = .ok (.getfield 13, 3) := by decide +kernel
theorem dX7_cell_5 : decode cX7_cell 5 = .ok (.iload_n 1, 1) := by decide +kernel
theorem dX7_cell_6 : decode cX7_cell 6 = .ok (.invokestatic 122, 3) := by decide +kernel
theorem dX7_cell_9 : decode cX7_cell 9 = .ok (.ifCond .eq 14, 3) := by decide +kernel
theorem dX7_cell_12 : decode cX7_cell 12 = .ok (.aload_n 0, 1) := by decide +kernel
theorem dX7_cell_13 : decode cX7_cell 13 = .ok (.getfield 13, 3) := by decide +kernel
theorem dX7_cell_16 : decode cX7_cell 16 = .ok (.iload_n 2, 1) := by decide +kernel
theorem dX7_cell_17 : decode cX7_cell 17 = .ok (.invokestatic 126, 3) := by decide +kernel
theorem dX7_cell_20 : decode cX7_cell 20 = .ok (.ifCond .ne 7, 3) := by decide +kernel
theorem dX7_cell_23 : decode cX7_cell 23 = .ok (.iconst 1, 1) := by decide +kernel
theorem dX7_cell_24 : decode cX7_cell 24 = .ok (.goto 15, 3) := by decide +kernel
theorem dX7_cell_27 : decode cX7_cell 27 = .ok (.iload_n 3, 1) := by decide +kernel
theorem dX7_cell_28 : decode cX7_cell 28 = .ok (.invokestatic 302, 3) := by decide +kernel
theorem dX7_cell_31 : decode cX7_cell 31 = .ok (.ifCond .eq 7, 3) := by decide +kernel
theorem dX7_cell_34 : decode cX7_cell 34 = .ok (.iconst 0, 1) := by decide +kernel
theorem dX7_cell_35 : decode cX7_cell 35 = .ok (.goto 4, 3) := by decide +kernel
theorem dX7_cell_38 : decode cX7_cell 38 = .ok (.iconst 2, 1) := by decide +kernel
theorem dX7_cell_39 : decode cX7_cell 39 = .ok (.invokevirtual 192, 3) := by decide +kernel
theorem dX7_cell_42 : decode cX7_cell 42 = .ok (.ifCond .eq 5, 3) := by decide +kernel
theorem dX7_cell_45 : decode cX7_cell 45 = .ok (.iconst 0, 1) := by decide +kernel
theorem dX7_cell_46 : decode cX7_cell 46 = .ok (.ireturn, 1) := by decide +kernel
theorem dX7_cell_47 : decode cX7_cell 47 = .ok (.aload_n 0, 1) := by decide +kernel
theorem dX7_cell_48 : decode cX7_cell 48 = .ok (.invokevirtual 299, 3) := by decide +kernel
theorem dX7_cell_51 : decode cX7_cell 51 = .ok (.aload_n 0, 1) := by decide +kernel
theorem dX7_cell_52 : decode cX7_cell 52 = .ok (.getfield 13, 3) := by decide +kernel
theorem dX7_cell_55 : decode cX7_cell 55 = .ok (.aload_n 0, 1) := by decide +kernel
theorem dX7_cell_56 : decode cX7_cell 56 = .ok (.getfield 13, 3) := by decide +kernel
theorem dX7_cell_59 : decode cX7_cell 59 = .ok (.iload_n 1, 1) := by decide +kernel
theorem dX7_cell_60 : decode cX7_cell 60 = .ok (.iload_n 2, 1) := by decide +kernel
theorem dX7_cell_61 : decode cX7_cell 61 = .ok (.invokestatic 129, 3) := by decide +kernel
theorem dX7_cell_64 : decode cX7_cell 64 = .ok (.iload_n 3, 1) := by decide +kernel
theorem dX7_cell_65 : decode cX7_cell 65 = .ok (.invokestatic 158, 3) := by decide +kernel
theorem dX7_cell_68 : decode cX7_cell 68 = .ok (.ireturn, 1) := by decide +kernel
theorem c_mcell {x y g : Int} (hS : SV S) (hB : ∀ i, 0 ≤ B i ∧ B i ≤ 5) (hI : ∀ i, rg (I i)) (ha : 0 ≤ ac ∧ ac ≤ 14) (hx : rg x) (hy : rg y) (hg : rg g) : Ct l yX7_cell cX7_cell 4 (some .int) rmX7_cell [.ref 0, iv x, iv y, iv g] (mdW rf sz S ac B I m Fi Co Br Wt mk gy S2 tx di ke ik ea sd rt lf wy sp ou)
    (fun z M => z = some (iv (if kPut S x y g = 0 then sG S (y * sC S + x) else 0)) ∧ WM (kPut S x y g) sz (if kPut S x y g = 0 then gP S x y g else S) (if kPut S x y g = 0 then aP ac else ac) tx (if kPut S x y g = 0 then dP S ac di else di) ke ik M) := by
  refine Ct.of miX7_cell (Nat.le_of_ble_eq_true rfl) ?_
  intro X hXl hN ok
  refine AW.cast (L2 := [some (.ref 0), some (iv x), some (iv y), some (iv g)]) ?_ rfl rfl rfl
  have hd := hS.1
  have hzr := kPut_rg (S := S) (x := x) (y := y) (g := g)
  have sj : ∀ z : Int, z = kPut S x y g → AW X 0 0 39 [some (.ref 0), some (iv x), some (iv y), some (iv g)] [iv z, .ref 0] (mdW rf sz S ac B I m Fi Co Br Wt mk gy S2 tx di ke ik ea sd rt lf wy sp ou) := by
    intro z hz
    rw [← hz] at hzr
    by_cases k0 : kPut S x y g = 0
    · rw [if_pos k0, if_pos k0, if_pos k0, if_pos k0] at ok
      rw [k0] at ok hz
      subst hz
      have hw2 := kPut_0 k0
      obtain ⟨k1, k2, k3⟩ := hw2
      have hcel := xy_cel hd k1 k2
      have hc := dim_cells hd
      have hc1 := hcel.1
      have hc2 := hcel.2
      refine x_callVi (pc := 39) ok [0, 11, 1, 10, 12, 13, 14, 2, 3, 4, 5, 6, 7, 8, 9, 15] 1 dX7_cell_39 mv7_192 miX7_refused (c_refused (by unfold rg; omega)) ⟨by decide, by decide, rfl, rfl, Nat.zero_le _, Nat.zero_le _⟩ rfl rfl (Nat.le_of_ble_eq_true rfl) rfl rfl (by decide) rfl rfl rfl ?_
      refine a_if_eq (pc := 42) (tgt := 47) ok dX7_cell_42 (by decide) (by first | omega | (unfold rg; omega) | (simp only [rg] at *; omega) | exact bz_rg _ | grind [rg]) (fun c42 => ?_) (fun c42 => ?_)
      · refine AW.cast (M2 := (mdW (0) sz S ac B I m Fi Co Br Wt mk gy S2 tx di ke ik ea sd rt lf wy sp ou)) ?_ rfl rfl rfl
        refine a_aload_n (pc := 47) ok dX7_cell_47 rfl ?_
        refine a_callVv (pc := 48) ok [0, 1, 2, 3, 4, 5, 6, 7, 8, 9, 10, 11, 12, 13, 14, 15] dX7_cell_48 mv7_299 miX7_remember (c_mremember ha) ⟨by decide, by decide, rfl, rfl, Nat.zero_le _, Nat.zero_le _⟩ rfl rfl (Nat.le_of_ble_eq_true rfl) rfl (by decide) rfl rfl rfl ?_
        refine AW.cast (M2 := (mdW (0) sz S (aP ac) B I m Fi Co Br Wt mk gy S2 tx (dP S ac di) ke ik ea sd rt lf wy sp ou)) ?_ rfl rfl rfl
        refine a_aload_n (pc := 51) ok dX7_cell_51 rfl ?_
        refine a_getf (pc := 52) ok dX7_cell_52 fl7_13 rfl rfl ?_
        refine a_aload_n (pc := 55) ok dX7_cell_55 rfl ?_
        refine a_getf (pc := 56) ok dX7_cell_56 fl7_13 rfl rfl ?_
        refine a_iload_n (pc := 59) ok dX7_cell_59 rfl ?_
        refine a_iload_n (pc := 60) ok dX7_cell_60 rfl ?_
        refine a_callSp (pc := 61) ok [1] dX7_cell_61 mv7_129 miX7_at (c_at) ⟨by decide, by decide, rfl, rfl, Nat.zero_le _, Nat.zero_le _⟩ rfl rfl (Nat.le_of_ble_eq_true rfl) rfl (by decide) ?_
        refine a_iload_n (pc := 64) ok dX7_cell_64 rfl ?_
        refine a_callSi (pc := 65) ok [1] dX7_cell_65 mv7_158 miX7_cellOn (c_cellOn (by omega)) ⟨by decide, by decide, rfl, rfl, Nat.zero_le _, Nat.zero_le _⟩ rfl rfl (Nat.le_of_ble_eq_true rfl) rfl (by decide) rfl ?_
        exact a_iret (pc := 68) ok dX7_cell_68 (⟨rfl, WM_mk (S := gP S x y g) hB hI⟩)
      · exact absurd rfl c42
    · rw [if_neg k0, if_neg k0, if_neg k0, if_neg k0, ← hz] at ok
      refine x_callVi (pc := 39) ok [0, 11, 1, 10, 12, 13, 14, 2, 3, 4, 5, 6, 7, 8, 9, 15] 1 dX7_cell_39 mv7_192 miX7_refused (c_refused (by unfold rg; omega)) ⟨by decide, by decide, rfl, rfl, Nat.zero_le _, Nat.zero_le _⟩ rfl rfl (Nat.le_of_ble_eq_true rfl) rfl rfl (by decide) rfl rfl rfl ?_
      refine a_if_eq (pc := 42) (tgt := 47) ok dX7_cell_42 (by decide) (by exact bz_rg _) (fun c42 => ?_) (fun c42 => ?_)
      · exact absurd c42 (by rw [bz_pos (show 0 < z by omega)]; decide)
      · refine a_iconst (pc := 45) ok dX7_cell_45 ?_
        exact a_iret (pc := 46) ok dX7_cell_46 (⟨rfl, WM_mk hB hI⟩)
  refine a_aload_n (pc := 0) ok dX7_cell_0 rfl ?_
  refine a_aload_n (pc := 1) ok dX7_cell_1 rfl ?_
  refine a_getf (pc := 2) ok dX7_cell_2 fl7_13 rfl rfl ?_
  refine a_iload_n (pc := 5) ok dX7_cell_5 rfl ?_
  refine a_callSp (pc := 6) ok [1] dX7_cell_6 mv7_122 miX7_isColumn (c_isColumn hd hx) ⟨by decide, by decide, rfl, rfl, Nat.zero_le _, Nat.zero_le _⟩ rfl rfl (Nat.le_of_ble_eq_true rfl) rfl (by decide) ?_
  refine a_if_eq (pc := 9) (tgt := 23) ok dX7_cell_9 (by decide) (by exact bz_rg _) (fun c9 => ?_) (fun c9 => ?_)
  · refine a_iconst (pc := 23) ok dX7_cell_23 ?_
    refine a_goto (pc := 24) (tgt := 39) ok dX7_cell_24 (by decide) ?_
    exact sj 1 (by unfold kPut; rw [if_pos (Or.inl (bz_0.mp c9))])
  · refine a_aload_n (pc := 12) ok dX7_cell_12 rfl ?_
    refine a_getf (pc := 13) ok dX7_cell_13 fl7_13 rfl rfl ?_
    refine a_iload_n (pc := 16) ok dX7_cell_16 rfl ?_
    refine a_callSp (pc := 17) ok [1] dX7_cell_17 mv7_126 miX7_isRow (c_isRow hd hy) ⟨by decide, by decide, rfl, rfl, Nat.zero_le _, Nat.zero_le _⟩ rfl rfl (Nat.le_of_ble_eq_true rfl) rfl (by decide) ?_
    refine a_if_ne (pc := 20) (tgt := 27) ok dX7_cell_20 (by decide) (by exact bz_rg _) (fun c20 => ?_) (fun c20 => ?_)
    · refine a_iload_n (pc := 27) ok dX7_cell_27 rfl ?_
      refine a_callSp (pc := 28) ok [] dX7_cell_28 mv7_302 miX7_isGrey (c_isGrey hg) ⟨by decide, by decide, rfl, rfl, Nat.zero_le _, Nat.zero_le _⟩ rfl rfl (Nat.le_of_ble_eq_true rfl) rfl (by decide) ?_
      refine a_if_eq (pc := 31) (tgt := 38) ok dX7_cell_31 (by decide) (by exact bz_rg _) (fun c31 => ?_) (fun c31 => ?_)
      · refine a_iconst (pc := 38) ok dX7_cell_38 ?_
        exact sj 2 (by unfold kPut; rw [if_neg (fun z => z.elim (fun y => c9 (bz_0.mpr y)) (fun y => c20 (bz_0.mpr y))), if_neg (bz_0.mp c31)])
      · refine a_iconst (pc := 34) ok dX7_cell_34 ?_
        refine a_goto (pc := 35) (tgt := 39) ok dX7_cell_35 (by decide) ?_
        exact sj 0 (by unfold kPut; rw [if_neg (fun z => z.elim (fun y => c9 (bz_0.mpr y)) (fun y => c20 (bz_0.mpr y))), if_pos (Classical.byContradiction fun z => c31 (bz_0.mpr z))])
    · refine a_iconst (pc := 23) ok dX7_cell_23 ?_
      refine a_goto (pc := 24) (tgt := 39) ok dX7_cell_24 (by decide) ?_
      exact sj 1 (by unfold kPut; rw [if_pos (Or.inr (bz_0.mp (by first | exact c20 | exact Decidable.not_not.mp c20)))])
theorem dX7_box_0 : decode cX7_box 0 = .ok (.aload_n 0, 1) := by decide +kernel
theorem dX7_box_1 : decode cX7_box 1 = .ok (.getfield 13, 3) := by decide +kernel
theorem dX7_box_4 : decode cX7_box 4 = .ok (.iload_n 1, 1) := by decide +kernel
theorem dX7_box_5 : decode cX7_box 5 = .ok (.invokestatic 122, 3) := by decide +kernel
theorem dX7_box_8 : decode cX7_box 8 = .ok (.ifCond .eq 41, 3) := by decide +kernel
theorem dX7_box_11 : decode cX7_box 11 = .ok (.aload_n 0, 1) := by decide +kernel
theorem dX7_box_12 : decode cX7_box 12 = .ok (.getfield 13, 3) := by decide +kernel
theorem dX7_box_15 : decode cX7_box 15 = .ok (.iload_n 2, 1) := by decide +kernel
theorem dX7_box_16 : decode cX7_box 16 = .ok (.invokestatic 122, 3) := by decide +kernel
theorem dX7_box_19 : decode cX7_box 19 = .ok (.ifCond .eq 30, 3) := by decide +kernel
theorem dX7_box_22 : decode cX7_box 22 = .ok (.aload_n 0, 1) := by decide +kernel
theorem dX7_box_23 : decode cX7_box 23 = .ok (.getfield 13, 3) := by decide +kernel
theorem dX7_box_26 : decode cX7_box 26 = .ok (.iload_n 3, 1) := by decide +kernel
theorem dX7_box_27 : decode cX7_box 27 = .ok (.invokestatic 126, 3) := by decide +kernel
theorem dX7_box_30 : decode cX7_box 30 = .ok (.ifCond .eq 19, 3) := by decide +kernel
theorem dX7_box_33 : decode cX7_box 33 = .ok (.aload_n 0, 1) := by decide +kernel
theorem dX7_box_34 : decode cX7_box 34 = .ok (.getfield 13, 3) := by decide +kernel
theorem dX7_box_37 : decode cX7_box 37 = .ok (.iload 4, 2) := by decide +kernel
theorem dX7_box_39 : decode cX7_box 39 = .ok (.invokestatic 126, 3) := by decide +kernel
theorem dX7_box_42 : decode cX7_box 42 = .ok (.ifCond .eq 7, 3) := by decide +kernel
theorem dX7_box_45 : decode cX7_box 45 = .ok (.iconst 1, 1) := by decide +kernel
theorem dX7_box_46 : decode cX7_box 46 = .ok (.goto 4, 3) := by decide +kernel
theorem dX7_box_49 : decode cX7_box 49 = .ok (.iconst 0, 1) := by decide +kernel
theorem dX7_box_50 : decode cX7_box 50 = .ok (.istore 6, 2) := by decide +kernel
theorem dX7_box_52 : decode cX7_box 52 = .ok (.aload_n 0, 1) := by decide +kernel
theorem dX7_box_53 : decode cX7_box 53 = .ok (.iload 6, 2) := by decide +kernel
theorem dX7_box_55 : decode cX7_box 55 = .ok (.ifCond .ne 7, 3) := by decide +kernel
theorem dX7_box_58 : decode cX7_box 58 = .ok (.iconst 1, 1) := by decide +kernel
theorem dX7_box_59 : decode cX7_box 59 = .ok (.goto 31, 3) := by decide +kernel
theorem dX7_box_62 : decode cX7_box 62 = .ok (.iload 5, 2) := by decide +kernel
theorem dX7_box_64 : decode cX7_box 64 = .ok (.invokestatic 302, 3) := by decide +kernel
theorem dX7_box_67 : decode cX7_box 67 = .ok (.ifCond .eq 22, 3) := by decide +kernel
theorem dX7_box_70 : decode cX7_box 70 = .ok (.aload_n 0, 1) := by decide +kernel
theorem dX7_box_71 : decode cX7_box 71 = .ok (.getfield 13, 3) := by decide +kernel
theorem dX7_box_74 : decode cX7_box 74 = .ok (.iload_n 1, 1) := by decide +kernel
theorem dX7_box_75 : decode cX7_box 75 = .ok (.iload_n 2, 1) := by decide +kernel
theorem dX7_box_76 : decode cX7_box 76 = .ok (.iload_n 3, 1) := by decide +kernel
theorem dX7_box_77 : decode cX7_box 77 = .ok (.iload 4, 2) := by decide +kernel
theorem dX7_box_79 : decode cX7_box 79 = .ok (.invokestatic 208, 3) := by decide +kernel
theorem dX7_box_82 : decode cX7_box 82 = .ok (.ifCond .eq 7, 3) := by decide +kernel
theorem dX7_box_85 : decode cX7_box 85 = .ok (.iconst 0, 1) := by decide +kernel
theorem dX7_box_86 : decode cX7_box 86 = .ok (.goto 4, 3) := by decide +kernel
theorem dX7_box_89 : decode cX7_box 89 = .ok (.iconst 2, 1) := by decide +kernel
theorem dX7_box_90 : decode cX7_box 90 = .ok (.invokevirtual 192, 3) := by decide +kernel
theorem dX7_box_93 : decode cX7_box 93 = .ok (.ifCond .eq 5, 3) := by decide +kernel
theorem dX7_box_96 : decode cX7_box 96 = .ok (.iconst 0, 1) := by decide +kernel
theorem dX7_box_97 : decode cX7_box 97 = .ok (.ireturn, 1) := by decide +kernel
theorem dX7_box_98 : decode cX7_box 98 = .ok (.aload_n 0, 1) := by decide +kernel
theorem dX7_box_99 : decode cX7_box 99 = .ok (.invokevirtual 299, 3) := by decide +kernel
theorem dX7_box_102 : decode cX7_box 102 = .ok (.aload_n 0, 1) := by decide +kernel
theorem dX7_box_103 : decode cX7_box 103 = .ok (.getfield 13, 3) := by decide +kernel
theorem dX7_box_106 : decode cX7_box 106 = .ok (.iload_n 1, 1) := by decide +kernel
theorem dX7_box_107 : decode cX7_box 107 = .ok (.iload_n 2, 1) := by decide +kernel
theorem dX7_box_108 : decode cX7_box 108 = .ok (.iload_n 3, 1) := by decide +kernel
theorem dX7_box_109 : decode cX7_box 109 = .ok (.iload 4, 2) := by decide +kernel
theorem dX7_box_111 : decode cX7_box 111 = .ok (.iload 5, 2) := by decide +kernel
theorem dX7_box_113 : decode cX7_box 113 = .ok (.invokestatic 212, 3) := by decide +kernel
theorem dX7_box_116 : decode cX7_box 116 = .ok (.ireturn, 1) := by decide +kernel
theorem c_mbox {x0 x1 y0 y1 g : Int} (hS : SV S) (hB : ∀ i, 0 ≤ B i ∧ B i ≤ 5) (hI : ∀ i, rg (I i)) (ha : 0 ≤ ac ∧ ac ≤ 14) (hx0 : rg x0) (hx1 : rg x1) (hy0 : rg y0) (hy1 : rg y1) (hg : rg g) : Ct l yX7_box cX7_box 7 (some .int) rmX7_box [.ref 0, iv x0, iv x1, iv y0, iv y1, iv g] (mdW rf sz S ac B I m Fi Co Br Wt mk gy S2 tx di ke ik ea sd rt lf wy sp ou)
    (fun z M => z = some (iv (if kBox S x0 x1 y0 y1 g = 0 then (boxF (sC S) g x0 (x1 - x0 + 1).toNat y0 (y1 - y0 + 1).toNat (sG S, 0)).2 else 0)) ∧ WM (kBox S x0 x1 y0 y1 g) sz (if kBox S x0 x1 y0 y1 g = 0 then gB S x0 x1 y0 y1 g else S) (if kBox S x0 x1 y0 y1 g = 0 then aP ac else ac) tx (if kBox S x0 x1 y0 y1 g = 0 then dP S ac di else di) ke ik M) := by
  refine Ct.of miX7_box (Nat.le_of_ble_eq_true rfl) ?_
  intro X hXl hN ok
  refine AW.cast (L2 := [some (.ref 0), some (iv x0), some (iv x1), some (iv y0), some (iv y1), some (iv g), none]) ?_ rfl rfl rfl
  have hd := hS.1
  have hzr := kBox_rg (S := S) (x0 := x0) (x1 := x1) (y0 := y0) (y1 := y1) (g := g)
  have sj : ∀ (z : Int) (lv : Option Value), z = kBox S x0 x1 y0 y1 g → AW X 0 0 90 [some (.ref 0), some (iv x0), some (iv x1), some (iv y0), some (iv y1), some (iv g), lv] [iv z, .ref 0] (mdW rf sz S ac B I m Fi Co Br Wt mk gy S2 tx di ke ik ea sd rt lf wy sp ou) := by
    intro z lv hz
    rw [← hz] at hzr
    by_cases k0 : kBox S x0 x1 y0 y1 g = 0
    · rw [if_pos k0, if_pos k0, if_pos k0, if_pos k0] at ok
      rw [k0] at ok hz
      subst hz
      have hw2 := kBox_0 k0
      refine x_callVi (pc := 90) ok [0, 11, 1, 10, 12, 13, 14, 2, 3, 4, 5, 6, 7, 8, 9, 15] 1 dX7_box_90 mv7_192 miX7_refused (c_refused (by unfold rg; omega)) ⟨by decide, by decide, rfl, rfl, Nat.zero_le _, Nat.zero_le _⟩ rfl rfl (Nat.le_of_ble_eq_true rfl) rfl rfl (by decide) rfl rfl rfl ?_
      refine a_if_eq (pc := 93) (tgt := 98) ok dX7_box_93 (by decide) (by first | omega | (unfold rg; omega) | (simp only [rg] at *; omega) | exact bz_rg _ | grind [rg]) (fun c93 => ?_) (fun c93 => ?_)
      · refine AW.cast (M2 := (mdW (0) sz S ac B I m Fi Co Br Wt mk gy S2 tx di ke ik ea sd rt lf wy sp ou)) ?_ rfl rfl rfl
        refine a_aload_n (pc := 98) ok dX7_box_98 rfl ?_
        refine a_callVv (pc := 99) ok [0, 1, 2, 3, 4, 5, 6, 7, 8, 9, 10, 11, 12, 13, 14, 15] dX7_box_99 mv7_299 miX7_remember (c_mremember ha) ⟨by decide, by decide, rfl, rfl, Nat.zero_le _, Nat.zero_le _⟩ rfl rfl (Nat.le_of_ble_eq_true rfl) rfl (by decide) rfl rfl rfl ?_
        refine AW.cast (M2 := (mdW (0) sz S (aP ac) B I m Fi Co Br Wt mk gy S2 tx (dP S ac di) ke ik ea sd rt lf wy sp ou)) ?_ rfl rfl rfl
        refine a_aload_n (pc := 102) ok dX7_box_102 rfl ?_
        refine a_getf (pc := 103) ok dX7_box_103 fl7_13 rfl rfl ?_
        refine a_iload_n (pc := 106) ok dX7_box_106 rfl ?_
        refine a_iload_n (pc := 107) ok dX7_box_107 rfl ?_
        refine a_iload_n (pc := 108) ok dX7_box_108 rfl ?_
        refine a_iload (pc := 109) ok dX7_box_109 rfl ?_
        refine a_iload (pc := 111) ok dX7_box_111 rfl ?_
        refine a_callSi (pc := 113) ok [1] dX7_box_113 mv7_212 miX7_boxOn (c_boxOn hd hw2.1 hw2.2.1 (fun i => by have := hS.2.1 i; unfold rg; omega) hg) ⟨by decide, by decide, rfl, rfl, Nat.zero_le _, Nat.zero_le _⟩ rfl rfl (Nat.le_of_ble_eq_true rfl) rfl (by decide) rfl ?_
        exact a_iret (pc := 116) ok dX7_box_116 (⟨rfl, WM_mk (S := gB S x0 x1 y0 y1 g) hB hI⟩)
      · exact absurd rfl c93
    · rw [if_neg k0, if_neg k0, if_neg k0, if_neg k0, ← hz] at ok
      refine x_callVi (pc := 90) ok [0, 11, 1, 10, 12, 13, 14, 2, 3, 4, 5, 6, 7, 8, 9, 15] 1 dX7_box_90 mv7_192 miX7_refused (c_refused (by unfold rg; omega)) ⟨by decide, by decide, rfl, rfl, Nat.zero_le _, Nat.zero_le _⟩ rfl rfl (Nat.le_of_ble_eq_true rfl) rfl rfl (by decide) rfl rfl rfl ?_
      refine a_if_eq (pc := 93) (tgt := 98) ok dX7_box_93 (by decide) (by exact bz_rg _) (fun c93 => ?_) (fun c93 => ?_)
      · exact absurd c93 (by rw [bz_pos (show 0 < z by omega)]; decide)
      · refine a_iconst (pc := 96) ok dX7_box_96 ?_
        exact a_iret (pc := 97) ok dX7_box_97 (⟨rfl, WM_mk hB hI⟩)
  refine a_aload_n (pc := 0) ok dX7_box_0 rfl ?_
  refine a_getf (pc := 1) ok dX7_box_1 fl7_13 rfl rfl ?_
  refine a_iload_n (pc := 4) ok dX7_box_4 rfl ?_
  refine a_callSp (pc := 5) ok [1] dX7_box_5 mv7_122 miX7_isColumn (c_isColumn hd hx0) ⟨by decide, by decide, rfl, rfl, Nat.zero_le _, Nat.zero_le _⟩ rfl rfl (Nat.le_of_ble_eq_true rfl) rfl (by decide) ?_
  refine a_if_eq (pc := 8) (tgt := 49) ok dX7_box_8 (by decide) (by exact bz_rg _) (fun c8 => ?_) (fun c8 => ?_)
  · refine a_iconst (pc := 49) ok dX7_box_49 ?_
    refine a_istore (pc := 50) ok dX7_box_50 rfl (by rw [hN]; decide) ?_
    refine a_aload_n (pc := 52) ok dX7_box_52 rfl ?_
    refine a_iload (pc := 53) ok dX7_box_53 rfl ?_
    refine a_if_ne (pc := 55) (tgt := 62) ok dX7_box_55 (by decide) (by first | omega | (unfold rg; omega) | (simp only [rg] at *; omega) | exact bz_rg _ | grind [rg]) (fun c55 => ?_) (fun c55 => ?_)
    · omega
    · refine a_iconst (pc := 58) ok dX7_box_58 ?_
      refine a_goto (pc := 59) (tgt := 90) ok dX7_box_59 (by decide) ?_
      exact sj 1 _ (kBox_is1 (Or.inl (bz_0.mp c8))).symm
  · refine a_aload_n (pc := 11) ok dX7_box_11 rfl ?_
    refine a_getf (pc := 12) ok dX7_box_12 fl7_13 rfl rfl ?_
    refine a_iload_n (pc := 15) ok dX7_box_15 rfl ?_
    refine a_callSp (pc := 16) ok [1] dX7_box_16 mv7_122 miX7_isColumn (c_isColumn hd hx1) ⟨by decide, by decide, rfl, rfl, Nat.zero_le _, Nat.zero_le _⟩ rfl rfl (Nat.le_of_ble_eq_true rfl) rfl (by decide) ?_
    refine a_if_eq (pc := 19) (tgt := 49) ok dX7_box_19 (by decide) (by exact bz_rg _) (fun c19 => ?_) (fun c19 => ?_)
    · refine a_iconst (pc := 49) ok dX7_box_49 ?_
      refine a_istore (pc := 50) ok dX7_box_50 rfl (by rw [hN]; decide) ?_
      refine a_aload_n (pc := 52) ok dX7_box_52 rfl ?_
      refine a_iload (pc := 53) ok dX7_box_53 rfl ?_
      refine a_if_ne (pc := 55) (tgt := 62) ok dX7_box_55 (by decide) (by first | omega | (unfold rg; omega) | (simp only [rg] at *; omega) | exact bz_rg _ | grind [rg]) (fun c55 => ?_) (fun c55 => ?_)
      · omega
      · refine a_iconst (pc := 58) ok dX7_box_58 ?_
        refine a_goto (pc := 59) (tgt := 90) ok dX7_box_59 (by decide) ?_
        exact sj 1 _ (kBox_is1 (Or.inr (Or.inl (bz_0.mp c19)))).symm
    · refine a_aload_n (pc := 22) ok dX7_box_22 rfl ?_
      refine a_getf (pc := 23) ok dX7_box_23 fl7_13 rfl rfl ?_
      refine a_iload_n (pc := 26) ok dX7_box_26 rfl ?_
      refine a_callSp (pc := 27) ok [1] dX7_box_27 mv7_126 miX7_isRow (c_isRow hd hy0) ⟨by decide, by decide, rfl, rfl, Nat.zero_le _, Nat.zero_le _⟩ rfl rfl (Nat.le_of_ble_eq_true rfl) rfl (by decide) ?_
      refine a_if_eq (pc := 30) (tgt := 49) ok dX7_box_30 (by decide) (by exact bz_rg _) (fun c30 => ?_) (fun c30 => ?_)
      · refine a_iconst (pc := 49) ok dX7_box_49 ?_
        refine a_istore (pc := 50) ok dX7_box_50 rfl (by rw [hN]; decide) ?_
        refine a_aload_n (pc := 52) ok dX7_box_52 rfl ?_
        refine a_iload (pc := 53) ok dX7_box_53 rfl ?_
        refine a_if_ne (pc := 55) (tgt := 62) ok dX7_box_55 (by decide) (by first | omega | (unfold rg; omega) | (simp only [rg] at *; omega) | exact bz_rg _ | grind [rg]) (fun c55 => ?_) (fun c55 => ?_)
        · omega
        · refine a_iconst (pc := 58) ok dX7_box_58 ?_
          refine a_goto (pc := 59) (tgt := 90) ok dX7_box_59 (by decide) ?_
          exact sj 1 _ (kBox_is1 (Or.inr (Or.inr (Or.inl (bz_0.mp c30))))).symm
      · refine a_aload_n (pc := 33) ok dX7_box_33 rfl ?_
        refine a_getf (pc := 34) ok dX7_box_34 fl7_13 rfl rfl ?_
        refine a_iload (pc := 37) ok dX7_box_37 rfl ?_
        refine a_callSp (pc := 39) ok [1] dX7_box_39 mv7_126 miX7_isRow (c_isRow hd hy1) ⟨by decide, by decide, rfl, rfl, Nat.zero_le _, Nat.zero_le _⟩ rfl rfl (Nat.le_of_ble_eq_true rfl) rfl (by decide) ?_
        refine a_if_eq (pc := 42) (tgt := 49) ok dX7_box_42 (by decide) (by exact bz_rg _) (fun c42 => ?_) (fun c42 => ?_)
        · refine a_iconst (pc := 49) ok dX7_box_49 ?_
          refine a_istore (pc := 50) ok dX7_box_50 rfl (by rw [hN]; decide) ?_
          refine a_aload_n (pc := 52) ok dX7_box_52 rfl ?_
          refine a_iload (pc := 53) ok dX7_box_53 rfl ?_
          refine a_if_ne (pc := 55) (tgt := 62) ok dX7_box_55 (by decide) (by first | omega | (unfold rg; omega) | (simp only [rg] at *; omega) | exact bz_rg _ | grind [rg]) (fun c55 => ?_) (fun c55 => ?_)
          · omega
          · refine a_iconst (pc := 58) ok dX7_box_58 ?_
            refine a_goto (pc := 59) (tgt := 90) ok dX7_box_59 (by decide) ?_
            exact sj 1 _ (kBox_is1 (Or.inr (Or.inr (Or.inr (bz_0.mp c42))))).symm
        · refine a_iconst (pc := 45) ok dX7_box_45 ?_
          refine a_goto (pc := 46) (tgt := 50) ok dX7_box_46 (by decide) ?_
          refine a_istore (pc := 50) ok dX7_box_50 rfl (by rw [hN]; decide) ?_
          refine a_aload_n (pc := 52) ok dX7_box_52 rfl ?_
          refine a_iload (pc := 53) ok dX7_box_53 rfl ?_
          refine a_if_ne (pc := 55) (tgt := 62) ok dX7_box_55 (by decide) (by first | omega | (unfold rg; omega) | (simp only [rg] at *; omega) | exact bz_rg _ | grind [rg]) (fun c55 => ?_) (fun c55 => ?_)
          · refine a_iload (pc := 62) ok dX7_box_62 rfl ?_
            refine a_callSp (pc := 64) ok [] dX7_box_64 mv7_302 miX7_isGrey (c_isGrey hg) ⟨by decide, by decide, rfl, rfl, Nat.zero_le _, Nat.zero_le _⟩ rfl rfl (Nat.le_of_ble_eq_true rfl) rfl (by decide) ?_
            refine a_if_eq (pc := 67) (tgt := 89) ok dX7_box_67 (by decide) (by exact bz_rg _) (fun c67 => ?_) (fun c67 => ?_)
            · refine a_iconst (pc := 89) ok dX7_box_89 ?_
              exact sj 2 _ ((kBox_is2 (bz_y c8) (bz_y c19) (bz_y c30) (bz_y c42)).trans (if_neg (fun z => bz_0.mp c67 z.1))).symm
            · refine a_aload_n (pc := 70) ok dX7_box_70 rfl ?_
              refine a_getf (pc := 71) ok dX7_box_71 fl7_13 rfl rfl ?_
              refine a_iload_n (pc := 74) ok dX7_box_74 rfl ?_
              refine a_iload_n (pc := 75) ok dX7_box_75 rfl ?_
              refine a_iload_n (pc := 76) ok dX7_box_76 rfl ?_
              refine a_iload (pc := 77) ok dX7_box_77 rfl ?_
              refine a_callSp (pc := 79) ok [1] dX7_box_79 mv7_208 miX7_canBox (c_canBox hd hx0 hx1 hy0 hy1) ⟨by decide, by decide, rfl, rfl, Nat.zero_le _, Nat.zero_le _⟩ rfl rfl (Nat.le_of_ble_eq_true rfl) rfl (by decide) ?_
              refine a_if_eq (pc := 82) (tgt := 89) ok dX7_box_82 (by decide) (by exact bz_rg _) (fun c82 => ?_) (fun c82 => ?_)
              · refine a_iconst (pc := 89) ok dX7_box_89 ?_
                exact sj 2 _ ((kBox_is2 (bz_y c8) (bz_y c19) (bz_y c30) (bz_y c42)).trans (if_neg (fun z => bz_0.mp c82 z.2))).symm
              · refine a_iconst (pc := 85) ok dX7_box_85 ?_
                refine a_goto (pc := 86) (tgt := 90) ok dX7_box_86 (by decide) ?_
                exact sj 0 _ ((kBox_is2 (bz_y c8) (bz_y c19) (bz_y c30) (bz_y c42)).trans (if_pos ⟨bz_y c67, bz_y c82⟩)).symm
          · omega
theorem dX7_threshold_0 : decode cX7_threshold 0 = .ok (.aload_n 0, 1) := by decide +kernel
theorem dX7_threshold_1 : decode cX7_threshold 1 = .ok (.iload_n 1, 1) := by decide +kernel
theorem dX7_threshold_2 : decode cX7_threshold 2 = .ok (.invokestatic 305, 3) := by decide +kernel
theorem dX7_threshold_5 : decode cX7_threshold 5 = .ok (.ifCond .ne 7, 3) := by decide +kernel
theorem dX7_threshold_8 : decode cX7_threshold 8 = .ok (.iconst 1, 1) := by decide +kernel
theorem dX7_threshold_9 : decode cX7_threshold 9 = .ok (.goto 20, 3) := by decide +kernel
theorem dX7_threshold_12 : decode cX7_threshold 12 = .ok (.aload_n 0, 1) := by decide +kernel
theorem dX7_threshold_13 : decode cX7_threshold 13 = .ok (.getfield 13, 3) := by decide +kernel
theorem dX7_threshold_16 : decode cX7_threshold 16 = .ok (.iload_n 1, 1) := by decide +kernel
theorem dX7_threshold_17 : decode cX7_threshold 17 = .ok (.iload_n 2, 1) := by decide +kernel
theorem dX7_threshold_18 : decode cX7_threshold 18 = .ok (.invokestatic 227, 3) := by decide +kernel
theorem dX7_threshold_21 : decode cX7_threshold 21 = .ok (.ifCond .eq 7, 3) := by decide +kernel
theorem dX7_threshold_24 : decode cX7_threshold 24 = .ok (.iconst 0, 1) := by decide +kernel
theorem dX7_threshold_25 : decode cX7_threshold 25 = .ok (.goto 4, 3) := by decide +kernel
theorem dX7_threshold_28 : decode cX7_threshold 28 = .ok (.iconst 2, 1) := by decide +kernel
theorem dX7_threshold_29 : decode cX7_threshold 29 = .ok (.invokevirtual 192, 3) := by decide +kernel
theorem dX7_threshold_32 : decode cX7_threshold 32 = .ok (.ifCond .eq 5, 3) := by decide +kernel
theorem dX7_threshold_35 : decode cX7_threshold 35 = .ok (.iconst 0, 1) := by decide +kernel
theorem dX7_threshold_36 : decode cX7_threshold 36 = .ok (.ireturn, 1) := by decide +kernel
theorem dX7_threshold_37 : decode cX7_threshold 37 = .ok (.aload_n 0, 1) := by decide +kernel
theorem dX7_threshold_38 : decode cX7_threshold 38 = .ok (.invokevirtual 299, 3) := by decide +kernel
theorem dX7_threshold_41 : decode cX7_threshold 41 = .ok (.aload_n 0, 1) := by decide +kernel
theorem dX7_threshold_42 : decode cX7_threshold 42 = .ok (.getfield 13, 3) := by decide +kernel
theorem dX7_threshold_45 : decode cX7_threshold 45 = .ok (.iload_n 1, 1) := by decide +kernel
theorem dX7_threshold_46 : decode cX7_threshold 46 = .ok (.iload_n 2, 1) := by decide +kernel
theorem dX7_threshold_47 : decode cX7_threshold 47 = .ok (.invokestatic 170, 3) := by decide +kernel
theorem dX7_threshold_50 : decode cX7_threshold 50 = .ok (.ireturn, 1) := by decide +kernel
theorem c_mthreshold {v b : Int} (hS : SV S) (hB : ∀ i, 0 ≤ B i ∧ B i ≤ 5) (hI : ∀ i, rg (I i)) (ha : 0 ≤ ac ∧ ac ≤ 14) (hv : rg v) (hb : rg b) : Ct l yX7_threshold cX7_threshold 3 (some .int) rmX7_threshold [.ref 0, iv v, iv b] (mdW rf sz S ac B I m Fi Co Br Wt mk gy S2 tx di ke ik ea sd rt lf wy sp ou)
    (fun z M => z = some (iv (if kPart S v b = 0 then (chN (sN S) b : Int) else 0)) ∧ WM (kPart S v b) sz (if kPart S v b = 0 then gT S v b else S) (if kPart S v b = 0 then aP ac else ac) tx (if kPart S v b = 0 then dP S ac di else di) ke ik M) := by
  refine Ct.of miX7_threshold (Nat.le_of_ble_eq_true rfl) ?_
  intro X hXl hN ok
  refine AW.cast (L2 := [some (.ref 0), some (iv v), some (iv b)]) ?_ rfl rfl rfl
  have hd := hS.1
  have hzr := kPart_rg (S := S) (v := v) (b := b)
  have sj : ∀ z : Int, z = kPart S v b → AW X 0 0 29 [some (.ref 0), some (iv v), some (iv b)] [iv z, .ref 0] (mdW rf sz S ac B I m Fi Co Br Wt mk gy S2 tx di ke ik ea sd rt lf wy sp ou) := by
    intro z hz
    rw [← hz] at hzr
    by_cases k0 : kPart S v b = 0
    · rw [if_pos k0, if_pos k0, if_pos k0, if_pos k0] at ok
      rw [k0] at ok hz
      subst hz
      have hw2 := kPart_0 k0
      refine x_callVi (pc := 29) ok [0, 11, 1, 10, 12, 13, 14, 2, 3, 4, 5, 6, 7, 8, 9, 15] 1 dX7_threshold_29 mv7_192 miX7_refused (c_refused (by unfold rg; omega)) ⟨by decide, by decide, rfl, rfl, Nat.zero_le _, Nat.zero_le _⟩ rfl rfl (Nat.le_of_ble_eq_true rfl) rfl rfl (by decide) rfl rfl rfl ?_
      refine a_if_eq (pc := 32) (tgt := 37) ok dX7_threshold_32 (by decide) (by first | omega | (unfold rg; omega) | (simp only [rg] at *; omega) | exact bz_rg _ | grind [rg]) (fun c32 => ?_) (fun c32 => ?_)
      · refine AW.cast (M2 := (mdW (0) sz S ac B I m Fi Co Br Wt mk gy S2 tx di ke ik ea sd rt lf wy sp ou)) ?_ rfl rfl rfl
        refine a_aload_n (pc := 37) ok dX7_threshold_37 rfl ?_
        refine a_callVv (pc := 38) ok [0, 1, 2, 3, 4, 5, 6, 7, 8, 9, 10, 11, 12, 13, 14, 15] dX7_threshold_38 mv7_299 miX7_remember (c_mremember ha) ⟨by decide, by decide, rfl, rfl, Nat.zero_le _, Nat.zero_le _⟩ rfl rfl (Nat.le_of_ble_eq_true rfl) rfl (by decide) rfl rfl rfl ?_
        refine AW.cast (M2 := (mdW (0) sz S (aP ac) B I m Fi Co Br Wt mk gy S2 tx (dP S ac di) ke ik ea sd rt lf wy sp ou)) ?_ rfl rfl rfl
        refine a_aload_n (pc := 41) ok dX7_threshold_41 rfl ?_
        refine a_getf (pc := 42) ok dX7_threshold_42 fl7_13 rfl rfl ?_
        refine a_iload_n (pc := 45) ok dX7_threshold_45 rfl ?_
        refine a_iload_n (pc := 46) ok dX7_threshold_46 rfl ?_
        refine a_callSi (pc := 47) ok [1] dX7_threshold_47 mv7_170 miX7_partOn (c_partOn hS.2.2.2.2.1 hS.2.2.1 hS.2.2.2.1 hv hb hw2.2) ⟨by decide, by decide, rfl, rfl, Nat.zero_le _, Nat.zero_le _⟩ rfl rfl (Nat.le_of_ble_eq_true rfl) rfl (by decide) rfl ?_
        exact a_iret (pc := 50) ok dX7_threshold_50 (⟨rfl, WM_mk (S := gT S v b) hB hI⟩)
      · exact absurd rfl c32
    · rw [if_neg k0, if_neg k0, if_neg k0, if_neg k0, ← hz] at ok
      refine x_callVi (pc := 29) ok [0, 11, 1, 10, 12, 13, 14, 2, 3, 4, 5, 6, 7, 8, 9, 15] 1 dX7_threshold_29 mv7_192 miX7_refused (c_refused (by unfold rg; omega)) ⟨by decide, by decide, rfl, rfl, Nat.zero_le _, Nat.zero_le _⟩ rfl rfl (Nat.le_of_ble_eq_true rfl) rfl rfl (by decide) rfl rfl rfl ?_
      refine a_if_eq (pc := 32) (tgt := 37) ok dX7_threshold_32 (by decide) (by exact bz_rg _) (fun c32 => ?_) (fun c32 => ?_)
      · exact absurd c32 (by rw [bz_pos (show 0 < z by omega)]; decide)
      · refine a_iconst (pc := 35) ok dX7_threshold_35 ?_
        exact a_iret (pc := 36) ok dX7_threshold_36 (⟨rfl, WM_mk hB hI⟩)
  refine a_aload_n (pc := 0) ok dX7_threshold_0 rfl ?_
  refine a_iload_n (pc := 1) ok dX7_threshold_1 rfl ?_
  refine a_callSp (pc := 2) ok [] dX7_threshold_2 mv7_305 miX7_isPart (c_isPart hv) ⟨by decide, by decide, rfl, rfl, Nat.zero_le _, Nat.zero_le _⟩ rfl rfl (Nat.le_of_ble_eq_true rfl) rfl (by decide) ?_
  refine a_if_ne (pc := 5) (tgt := 12) ok dX7_threshold_5 (by decide) (by exact bz_rg _) (fun c5 => ?_) (fun c5 => ?_)
  · refine a_aload_n (pc := 12) ok dX7_threshold_12 rfl ?_
    refine a_getf (pc := 13) ok dX7_threshold_13 fl7_13 rfl rfl ?_
    refine a_iload_n (pc := 16) ok dX7_threshold_16 rfl ?_
    refine a_iload_n (pc := 17) ok dX7_threshold_17 rfl ?_
    refine a_callSp (pc := 18) ok [1] dX7_threshold_18 mv7_227 miX7_canPart (c_canPart hS.2.2.2.2.1 hS.2.2.1 hS.2.2.2.1 hv hb) ⟨by decide, by decide, rfl, rfl, Nat.zero_le _, Nat.zero_le _⟩ rfl rfl (Nat.le_of_ble_eq_true rfl) rfl (by decide) ?_
    refine a_if_eq (pc := 21) (tgt := 28) ok dX7_threshold_21 (by decide) (by exact bz_rg _) (fun c21 => ?_) (fun c21 => ?_)
    · refine a_iconst (pc := 28) ok dX7_threshold_28 ?_
      exact sj 2 (by unfold kPart; rw [if_neg (fun z => c5 (bz_0.mpr z)), if_neg (bz_0.mp c21)])
    · refine a_iconst (pc := 24) ok dX7_threshold_24 ?_
      refine a_goto (pc := 25) (tgt := 29) ok dX7_threshold_25 (by decide) ?_
      exact sj 0 (by unfold kPart; rw [if_neg (fun z => c5 (bz_0.mpr z)), if_pos (Classical.byContradiction fun z => c21 (bz_0.mpr z))])
  · refine a_iconst (pc := 8) ok dX7_threshold_8 ?_
    refine a_goto (pc := 9) (tgt := 29) ok dX7_threshold_9 (by decide) ?_
    exact sj 1 (by unfold kPart; rw [if_pos (bz_0.mp (by first | exact c5 | exact Decidable.not_not.mp c5))])
theorem dX7_blur_0 : decode cX7_blur 0 = .ok (.aload_n 0, 1) := by decide +kernel
theorem dX7_blur_1 : decode cX7_blur 1 = .ok (.iconst 0, 1) := by decide +kernel
theorem dX7_blur_2 : decode cX7_blur 2 = .ok (.putfield 64, 3) := by decide +kernel
theorem dX7_blur_5 : decode cX7_blur 5 = .ok (.aload_n 0, 1) := by decide +kernel
theorem dX7_blur_6 : decode cX7_blur 6 = .ok (.invokevirtual 299, 3) := by decide +kernel
theorem dX7_blur_9 : decode cX7_blur 9 = .ok (.aload_n 0, 1) := by decide +kernel
theorem dX7_blur_10 : decode cX7_blur 10 = .ok (.aload_n 0, 1) := by decide +kernel
theorem dX7_blur_11 : decode cX7_blur 11 = .ok (.getfield 13, 3) := by decide +kernel
theorem dX7_blur_14 : decode cX7_blur 14 = .ok (.invokevirtual 231, 3) := by decide +kernel
theorem dX7_blur_17 : decode cX7_blur 17 = .ok (.ireturn, 1) := by decide +kernel
theorem c_mblur (hS : SV S) (hB : ∀ i, 0 ≤ B i ∧ B i ≤ 5) (hI : ∀ i, rg (I i)) (ha : 0 ≤ ac ∧ ac ≤ 14) : Ct l yX7_blur cX7_blur 1 (some .int) rmX7_blur [.ref 0] (mdW rf sz S ac B I m Fi Co Br Wt mk gy S2 tx di ke ik ea sd rt lf wy sp ou)
    (fun z M => z = some (iv (cntK (fun j => decide (blF (sC S) (sR S) (sG S) j ≠ sG S j)) (sC S * sR S).toNat)) ∧ WM 0 sz (gU S) (aP ac) tx (dP S ac di) ke ik M) := by
  refine Ct.of miX7_blur (Nat.le_of_ble_eq_true rfl) ?_
  intro X hXl hN ok
  refine AW.cast (L2 := [some (.ref 0)]) ?_ rfl rfl rfl
  refine a_aload_n (pc := 0) ok dX7_blur_0 rfl ?_
  refine a_iconst (pc := 1) ok dX7_blur_1 ?_
  refine a_putf (pc := 2) ok dX7_blur_2 fp7_64 rfl (by first | rfl | decide) (by first | rfl | decide) (Nat.le_of_ble_eq_true rfl) ?_
  refine AW.cast (M2 := (mdW (0) sz S ac B I m Fi Co Br Wt mk gy S2 tx di ke ik ea sd rt lf wy sp ou)) ?_ rfl rfl rfl
  refine a_aload_n (pc := 5) ok dX7_blur_5 rfl ?_
  refine a_callVv (pc := 6) ok [0, 1, 2, 3, 4, 5, 6, 7, 8, 9, 10, 11, 12, 13, 14, 15] dX7_blur_6 mv7_299 miX7_remember (c_mremember ha) ⟨by decide, by decide, rfl, rfl, Nat.zero_le _, Nat.zero_le _⟩ rfl rfl (Nat.le_of_ble_eq_true rfl) rfl (by decide) rfl rfl rfl ?_
  refine AW.cast (M2 := (mdW (0) sz S (aP ac) B I m Fi Co Br Wt mk gy S2 tx (dP S ac di) ke ik ea sd rt lf wy sp ou)) ?_ rfl rfl rfl
  refine a_aload_n (pc := 9) ok dX7_blur_9 rfl ?_
  refine a_aload_n (pc := 10) ok dX7_blur_10 rfl ?_
  refine a_getf (pc := 11) ok dX7_blur_11 fl7_13 rfl rfl ?_
  refine x_callVi (pc := 14) ok [0, 1, 2, 3, 4, 5, 6, 7, 8, 9, 1, 10, 11, 12, 13, 14, 15] 10 dX7_blur_14 mv7_231 miX7_blurOn (c_blurOn hS.1 hS.2.1) ⟨by decide, by decide, rfl, rfl, Nat.zero_le _, Nat.zero_le _⟩ rfl rfl (Nat.le_of_ble_eq_true rfl) rfl rfl (by decide) rfl rfl rfl ?_
  exact a_iret (pc := 17) ok dX7_blur_17 (⟨rfl, WM_mk (S := gU S) hB hI⟩)
theorem dX7_invert_0 : decode cX7_invert 0 = .ok (.aload_n 0, 1) := by decide +kernel
theorem dX7_invert_1 : decode cX7_invert 1 = .ok (.iconst 0, 1) := by decide +kernel
theorem dX7_invert_2 : decode cX7_invert 2 = .ok (.putfield 64, 3) := by decide +kernel
theorem dX7_invert_5 : decode cX7_invert 5 = .ok (.aload_n 0, 1) := by decide +kernel
theorem dX7_invert_6 : decode cX7_invert 6 = .ok (.invokevirtual 299, 3) := by decide +kernel
theorem dX7_invert_9 : decode cX7_invert 9 = .ok (.aload_n 0, 1) := by decide +kernel
theorem dX7_invert_10 : decode cX7_invert 10 = .ok (.getfield 13, 3) := by decide +kernel
theorem dX7_invert_13 : decode cX7_invert 13 = .ok (.invokestatic 234, 3) := by decide +kernel
theorem dX7_invert_16 : decode cX7_invert 16 = .ok (.ireturn, 1) := by decide +kernel
theorem c_minvert (hS : SV S) (hB : ∀ i, 0 ≤ B i ∧ B i ≤ 5) (hI : ∀ i, rg (I i)) (ha : 0 ≤ ac ∧ ac ≤ 14) : Ct l yX7_invert cX7_invert 1 (some .int) rmX7_invert [.ref 0] (mdW rf sz S ac B I m Fi Co Br Wt mk gy S2 tx di ke ik ea sd rt lf wy sp ou)
    (fun z M => z = some (iv (sumK (mapK (fun j => 99 - sG S j) (sC S * sR S) (sG S)) (sC S * sR S).toNat)) ∧ WM 0 sz (gI S) (aP ac) tx (dP S ac di) ke ik M) := by
  refine Ct.of miX7_invert (Nat.le_of_ble_eq_true rfl) ?_
  intro X hXl hN ok
  refine AW.cast (L2 := [some (.ref 0)]) ?_ rfl rfl rfl
  refine a_aload_n (pc := 0) ok dX7_invert_0 rfl ?_
  refine a_iconst (pc := 1) ok dX7_invert_1 ?_
  refine a_putf (pc := 2) ok dX7_invert_2 fp7_64 rfl (by first | rfl | decide) (by first | rfl | decide) (Nat.le_of_ble_eq_true rfl) ?_
  refine AW.cast (M2 := (mdW (0) sz S ac B I m Fi Co Br Wt mk gy S2 tx di ke ik ea sd rt lf wy sp ou)) ?_ rfl rfl rfl
  refine a_aload_n (pc := 5) ok dX7_invert_5 rfl ?_
  refine a_callVv (pc := 6) ok [0, 1, 2, 3, 4, 5, 6, 7, 8, 9, 10, 11, 12, 13, 14, 15] dX7_invert_6 mv7_299 miX7_remember (c_mremember ha) ⟨by decide, by decide, rfl, rfl, Nat.zero_le _, Nat.zero_le _⟩ rfl rfl (Nat.le_of_ble_eq_true rfl) rfl (by decide) rfl rfl rfl ?_
  refine AW.cast (M2 := (mdW (0) sz S (aP ac) B I m Fi Co Br Wt mk gy S2 tx (dP S ac di) ke ik ea sd rt lf wy sp ou)) ?_ rfl rfl rfl
  refine a_aload_n (pc := 9) ok dX7_invert_9 rfl ?_
  refine a_getf (pc := 10) ok dX7_invert_10 fl7_13 rfl rfl ?_
  refine a_callSi (pc := 13) ok [1] dX7_invert_13 mv7_234 miX7_invertOn (c_invertOn hS.1) ⟨by decide, by decide, rfl, rfl, Nat.zero_le _, Nat.zero_le _⟩ rfl rfl (Nat.le_of_ble_eq_true rfl) rfl (by decide) rfl ?_
  exact a_iret (pc := 16) ok dX7_invert_16 (⟨rfl, WM_mk (S := gI S) hB hI⟩)
/-- slot k of the diary holds P -/
def atD (di : Int → Int) (k : Int) (P : St) : Prop := ∀ j : Int, 0 ≤ j → j < 160 → di (160 * k + j) = rowS P j
theorem dX7_undo_0 : decode cX7_undo 0 = .ok (.aload_n 0, 1) := by decide +kernel
theorem dX7_undo_1 : decode cX7_undo 1 = .ok (.aload_n 0, 1) := by decide +kernel
theorem dX7_undo_2 : decode cX7_undo 2 = .ok (.getfield 250, 3) := by decide +kernel
theorem dX7_undo_5 : decode cX7_undo 5 = .ok (.ifCond .ne 7, 3) := by decide +kernel
theorem dX7_undo_8 : decode cX7_undo 8 = .ok (.iconst 1, 1) := by decide +kernel
theorem dX7_undo_9 : decode cX7_undo 9 = .ok (.goto 4, 3) := by decide +kernel
theorem dX7_undo_12 : decode cX7_undo 12 = .ok (.iconst 0, 1) := by decide +kernel
theorem dX7_undo_13 : decode cX7_undo 13 = .ok (.invokevirtual 192, 3) := by decide +kernel
theorem dX7_undo_16 : decode cX7_undo 16 = .ok (.ifCond .eq 5, 3) := by decide +kernel
theorem dX7_undo_19 : decode cX7_undo 19 = .ok (.iconst 0, 1) := by decide +kernel
theorem dX7_undo_20 : decode cX7_undo 20 = .ok (.ireturn, 1) := by decide +kernel
theorem dX7_undo_21 : decode cX7_undo 21 = .ok (.aload_n 0, 1) := by decide +kernel
theorem dX7_undo_22 : decode cX7_undo 22 = .ok (.dup, 1) := by decide +kernel
theorem dX7_undo_23 : decode cX7_undo 23 = .ok (.getfield 250, 3) := by decide +kernel
theorem dX7_undo_26 : decode cX7_undo 26 = .ok (.iconst 1, 1) := by decide +kernel
theorem dX7_undo_27 : decode cX7_undo 27 = .ok (.isub, 1) := by decide +kernel
theorem dX7_undo_28 : decode cX7_undo 28 = .ok (.putfield 250, 3) := by decide +kernel
theorem dX7_undo_31 : decode cX7_undo 31 = .ok (.aload_n 0, 1) := by decide +kernel
theorem dX7_undo_32 : decode cX7_undo 32 = .ok (.getfield 19, 3) := by decide +kernel
theorem dX7_undo_35 : decode cX7_undo 35 = .ok (.sipush 160, 3) := by decide +kernel
theorem dX7_undo_38 : decode cX7_undo 38 = .ok (.aload_n 0, 1) := by decide +kernel
theorem dX7_undo_39 : decode cX7_undo 39 = .ok (.getfield 250, 3) := by decide +kernel
theorem dX7_undo_42 : decode cX7_undo 42 = .ok (.imul, 1) := by decide +kernel
theorem dX7_undo_43 : decode cX7_undo 43 = .ok (.aload_n 0, 1) := by decide +kernel
theorem dX7_undo_44 : decode cX7_undo 44 = .ok (.getfield 13, 3) := by decide +kernel
theorem dX7_undo_47 : decode cX7_undo 47 = .ok (.iconst 0, 1) := by decide +kernel
theorem dX7_undo_48 : decode cX7_undo 48 = .ok (.invokestatic 246, 3) := by decide +kernel
theorem dX7_undo_51 : decode cX7_undo 51 = .ok (.aload_n 0, 1) := by decide +kernel
theorem dX7_undo_52 : decode cX7_undo 52 = .ok (.getfield 250, 3) := by decide +kernel
theorem dX7_undo_55 : decode cX7_undo 55 = .ok (.ireturn, 1) := by decide +kernel
set_option maxRecDepth 100000 in
theorem c_mundo {P : St} (hB : ∀ i, 0 ≤ B i ∧ B i ≤ 5) (hI : ∀ i, rg (I i)) (ha : 0 ≤ ac ∧ ac ≤ 14) (hP : ac ≠ 0 → atD di (ac - 1) P) : Ct l yX7_undo cX7_undo 1 (some .int) rmX7_undo [.ref 0] (mdW rf sz S ac B I m Fi Co Br Wt mk gy S2 tx di ke ik ea sd rt lf wy sp ou)
    (fun z M => z = some (iv (if ac ≠ 0 then ac - 1 else 0)) ∧ WM (if ac ≠ 0 then 0 else 1) sz (if ac ≠ 0 then P else S) (if ac ≠ 0 then ac - 1 else ac) tx di ke ik M) := by
  refine Ct.of miX7_undo (Nat.le_of_ble_eq_true rfl) ?_
  intro X hXl hN ok
  refine AW.cast (L2 := [some (.ref 0)]) ?_ rfl rfl rfl
  by_cases k0 : ac ≠ 0
  · rw [if_pos k0, if_pos k0, if_pos k0, if_pos k0] at ok
    refine a_aload_n (pc := 0) ok dX7_undo_0 rfl ?_
    refine a_aload_n (pc := 1) ok dX7_undo_1 rfl ?_
    refine a_getf (pc := 2) ok dX7_undo_2 fl7_250 rfl rfl ?_
    refine a_if_ne (pc := 5) (tgt := 12) ok dX7_undo_5 (by decide) (by first | omega | (unfold rg; omega) | (simp only [rg] at *; omega) | exact bz_rg _ | grind [rg]) (fun c5 => ?_) (fun c5 => ?_)
    · refine a_iconst (pc := 12) ok dX7_undo_12 ?_
      refine x_callVi (pc := 13) ok [0, 11, 1, 10, 12, 13, 14, 2, 3, 4, 5, 6, 7, 8, 9, 15] 1 dX7_undo_13 mv7_192 miX7_refused (c_refused (by unfold rg; omega)) ⟨by decide, by decide, rfl, rfl, Nat.zero_le _, Nat.zero_le _⟩ rfl rfl (Nat.le_of_ble_eq_true rfl) rfl rfl (by decide) rfl rfl rfl ?_
      refine a_if_eq (pc := 16) (tgt := 21) ok dX7_undo_16 (by decide) (by first | omega | (unfold rg; omega) | (simp only [rg] at *; omega) | exact bz_rg _ | grind [rg]) (fun c16 => ?_) (fun c16 => ?_)
      · refine AW.cast (M2 := (mdW (0) sz S ac B I m Fi Co Br Wt mk gy S2 tx di ke ik ea sd rt lf wy sp ou)) ?_ rfl rfl rfl
        refine a_aload_n (pc := 21) ok dX7_undo_21 rfl ?_
        refine a_dup (pc := 22) ok dX7_undo_22 rfl ?_
        refine a_getf (pc := 23) ok dX7_undo_23 fl7_250 rfl rfl ?_
        refine a_iconst (pc := 26) ok dX7_undo_26 ?_
        refine a_isub (pc := 27) ok dX7_undo_27 ?_
        refine a_putf (pc := 28) ok dX7_undo_28 fp7_250 rfl (by first | rfl | decide) (by first | rfl | decide) (Nat.le_of_ble_eq_true rfl) ?_
        refine AW.cast (M2 := (mdW (0) sz S (ac - 1) B I m Fi Co Br Wt mk gy S2 tx di ke ik ea sd rt lf wy sp ou)) ?_ rfl rfl rfl
        refine a_aload_n (pc := 31) ok dX7_undo_31 rfl ?_
        refine a_getf (pc := 32) ok dX7_undo_32 fl7_19 rfl rfl ?_
        refine a_sipush (pc := 35) ok dX7_undo_35 (by decide) ?_
        refine a_aload_n (pc := 38) ok dX7_undo_38 rfl ?_
        refine a_getf (pc := 39) ok dX7_undo_39 fl7_250 rfl rfl ?_
        refine a_imul (pc := 42) ok dX7_undo_42 ?_
        refine a_aload_n (pc := 43) ok dX7_undo_43 rfl ?_
        refine a_getf (pc := 44) ok dX7_undo_44 fl7_13 rfl rfl ?_
        refine a_iconst (pc := 47) ok dX7_undo_47 ?_
        refine a_callSv (pc := 48) ok [12, 1] dX7_undo_48 mv7_246 miX7_copyState (c_copyState (nf := 2240) (nt := 160) (F := di) (E := rowS S) (a := 160 * (ac - 1)) (b := 0) (by omega) (by omega) (by omega)) ⟨by decide, by decide, rfl, rfl, Nat.zero_le _, Nat.zero_le _⟩ rfl rfl (Nat.le_of_ble_eq_true rfl) rfl (by decide) rfl ?_
        refine AW.ext (q := 1) (n := 160) (f := cpF di (160 * (ac - 1)) (rowS S) 0 160) (g := rowS P) rfl (fun j h1 h2 => by unfold cpF; rw [if_pos (by omega), ← hP k0 j h1 h2]; congr 1; omega) ?_
        refine AW.cast (M2 := (mdW (0) sz (P) (ac - 1) B I m Fi Co Br Wt mk gy S2 tx di ke ik ea sd rt lf wy sp ou)) ?_ rfl rfl rfl
        refine a_aload_n (pc := 51) ok dX7_undo_51 rfl ?_
        refine a_getf (pc := 52) ok dX7_undo_52 fl7_250 rfl rfl ?_
        exact a_iret (pc := 55) ok dX7_undo_55 (⟨rfl, WM_mk hB hI⟩)
      · exact absurd rfl c16
    · exact absurd (by assumption) k0
  · rw [if_neg k0, if_neg k0, if_neg k0, if_neg k0] at ok
    refine a_aload_n (pc := 0) ok dX7_undo_0 rfl ?_
    refine a_aload_n (pc := 1) ok dX7_undo_1 rfl ?_
    refine a_getf (pc := 2) ok dX7_undo_2 fl7_250 rfl rfl ?_
    refine a_if_ne (pc := 5) (tgt := 12) ok dX7_undo_5 (by decide) (by first | omega | (unfold rg; omega) | (simp only [rg] at *; omega) | exact bz_rg _ | grind [rg]) (fun c5 => ?_) (fun c5 => ?_)
    · exact absurd (by assumption) k0
    · refine a_iconst (pc := 8) ok dX7_undo_8 ?_
      refine a_goto (pc := 9) (tgt := 13) ok dX7_undo_9 (by decide) ?_
      refine x_callVi (pc := 13) ok [0, 11, 1, 10, 12, 13, 14, 2, 3, 4, 5, 6, 7, 8, 9, 15] 1 dX7_undo_13 mv7_192 miX7_refused (c_refused (by unfold rg; omega)) ⟨by decide, by decide, rfl, rfl, Nat.zero_le _, Nat.zero_le _⟩ rfl rfl (Nat.le_of_ble_eq_true rfl) rfl rfl (by decide) rfl rfl rfl ?_
      refine a_if_eq (pc := 16) (tgt := 21) ok dX7_undo_16 (by decide) (by first | omega | (unfold rg; omega) | (simp only [rg] at *; omega) | exact bz_rg _ | grind [rg]) (fun c16 => ?_) (fun c16 => ?_)
      · exact absurd c16 (by decide)
      · refine a_iconst (pc := 19) ok dX7_undo_19 ?_
        exact a_iret (pc := 20) ok dX7_undo_20 (⟨rfl, WM_mk hB hI⟩)
end MP5
