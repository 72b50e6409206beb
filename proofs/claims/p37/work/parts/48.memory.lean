/-! MEMORY: a ring of fourteen states. Printed by wip/whole/gen/mk48.py. -/
section ME
variable {l : Launch} {S : St} {σ : Nat → St} {cnt nx : Int}
def ringF : Nat → Option Nat := fun i => if i < 14 then some (2 + 4 * i) else none
abbrev mmM (cnt nx : Int) (σ : Nat → St) : List va_E := ob 1 [.ref 1, iv cnt, iv nx] :: qa 14 ringF :: (stS 2 (σ 0) ++ (stS 6 (σ 1) ++ (stS 10 (σ 2) ++ (stS 14 (σ 3) ++ (stS 18 (σ 4) ++ (stS 22 (σ 5) ++ (stS 26 (σ 6) ++ (stS 30 (σ 7) ++ (stS 34 (σ 8) ++ (stS 38 (σ 9) ++ (stS 42 (σ 10) ++ (stS 46 (σ 11) ++ (stS 50 (σ 12) ++ (stS 54 (σ 13)))))))))))))))
abbrev mmS (cnt nx : Int) (σ : Nat → St) (S : St) : List va_E := mmM cnt nx σ ++ stS 58 S
theorem dX1_remember_0 : decode cX1_remember 0 = .ok (.aload_n 0, 1) := by decide +kernel
theorem dX1_remember_1 : decode cX1_remember 1 = .ok (.getfield 11, 3) := by decide +kernel
theorem dX1_remember_4 : decode cX1_remember 4 = .ok (.aload_n 0, 1) := by decide +kernel
theorem dX1_remember_5 : decode cX1_remember 5 = .ok (.getfield 21, 3) := by decide +kernel
theorem dX1_remember_8 : decode cX1_remember 8 = .ok (.aaload, 1) := by decide +kernel
theorem dX1_remember_9 : decode cX1_remember 9 = .ok (.aload_n 1, 1) := by decide +kernel
theorem dX1_remember_10 : decode cX1_remember 10 = .ok (.invokevirtual 25, 3) := by decide +kernel
theorem dX1_remember_13 : decode cX1_remember 13 = .ok (.aload_n 0, 1) := by decide +kernel
theorem dX1_remember_14 : decode cX1_remember 14 = .ok (.aload_n 0, 1) := by decide +kernel
theorem dX1_remember_15 : decode cX1_remember 15 = .ok (.getfield 21, 3) := by decide +kernel
theorem dX1_remember_18 : decode cX1_remember 18 = .ok (.iconst 1, 1) := by decide +kernel
theorem dX1_remember_19 : decode cX1_remember 19 = .ok (.iadd, 1) := by decide +kernel
theorem dX1_remember_20 : decode cX1_remember 20 = .ok (.bipush 14, 2) := by decide +kernel
theorem dX1_remember_22 : decode cX1_remember 22 = .ok (.irem, 1) := by decide +kernel
theorem dX1_remember_23 : decode cX1_remember 23 = .ok (.putfield 21, 3) := by decide +kernel
theorem dX1_remember_26 : decode cX1_remember 26 = .ok (.aload_n 0, 1) := by decide +kernel
theorem dX1_remember_27 : decode cX1_remember 27 = .ok (.aload_n 0, 1) := by decide +kernel
theorem dX1_remember_28 : decode cX1_remember 28 = .ok (.getfield 17, 3) := by decide +kernel
theorem dX1_remember_31 : decode cX1_remember 31 = .ok (.iconst 1, 1) := by decide +kernel
theorem dX1_remember_32 : decode cX1_remember 32 = .ok (.iadd, 1) := by decide +kernel
theorem dX1_remember_33 : decode cX1_remember 33 = .ok (.bipush 14, 2) := by decide +kernel
theorem dX1_remember_35 : decode cX1_remember 35 = .ok (.invokestatic 29, 3) := by decide +kernel
theorem dX1_remember_38 : decode cX1_remember 38 = .ok (.putfield 17, 3) := by decide +kernel
theorem dX1_remember_41 : decode cX1_remember 41 = .ok (.return_, 1) := by decide +kernel
theorem dX1_takeBack_0 : decode cX1_takeBack 0 = .ok (.aload_n 0, 1) := by decide +kernel
theorem dX1_takeBack_1 : decode cX1_takeBack 1 = .ok (.aload_n 0, 1) := by decide +kernel
theorem dX1_takeBack_2 : decode cX1_takeBack 2 = .ok (.getfield 21, 3) := by decide +kernel
theorem dX1_takeBack_5 : decode cX1_takeBack 5 = .ok (.bipush 14, 2) := by decide +kernel
theorem dX1_takeBack_7 : decode cX1_takeBack 7 = .ok (.iadd, 1) := by decide +kernel
theorem dX1_takeBack_8 : decode cX1_takeBack 8 = .ok (.iconst 1, 1) := by decide +kernel
theorem dX1_takeBack_9 : decode cX1_takeBack 9 = .ok (.isub, 1) := by decide +kernel
theorem dX1_takeBack_10 : decode cX1_takeBack 10 = .ok (.bipush 14, 2) := by decide +kernel
theorem dX1_takeBack_12 : decode cX1_takeBack 12 = .ok (.irem, 1) := by decide +kernel
theorem dX1_takeBack_13 : decode cX1_takeBack 13 = .ok (.putfield 21, 3) := by decide +kernel
theorem dX1_takeBack_16 : decode cX1_takeBack 16 = .ok (.aload_n 1, 1) := by decide +kernel
theorem dX1_takeBack_17 : decode cX1_takeBack 17 = .ok (.aload_n 0, 1) := by decide +kernel
theorem dX1_takeBack_18 : decode cX1_takeBack 18 = .ok (.getfield 11, 3) := by decide +kernel
theorem dX1_takeBack_21 : decode cX1_takeBack 21 = .ok (.aload_n 0, 1) := by decide +kernel
theorem dX1_takeBack_22 : decode cX1_takeBack 22 = .ok (.getfield 21, 3) := by decide +kernel
theorem dX1_takeBack_25 : decode cX1_takeBack 25 = .ok (.aaload, 1) := by decide +kernel
theorem dX1_takeBack_26 : decode cX1_takeBack 26 = .ok (.invokevirtual 25, 3) := by decide +kernel
theorem dX1_takeBack_29 : decode cX1_takeBack 29 = .ok (.aload_n 0, 1) := by decide +kernel
theorem dX1_takeBack_30 : decode cX1_takeBack 30 = .ok (.dup, 1) := by decide +kernel
theorem dX1_takeBack_31 : decode cX1_takeBack 31 = .ok (.getfield 17, 3) := by decide +kernel
theorem dX1_takeBack_34 : decode cX1_takeBack 34 = .ok (.iconst 1, 1) := by decide +kernel
theorem dX1_takeBack_35 : decode cX1_takeBack 35 = .ok (.isub, 1) := by decide +kernel
theorem dX1_takeBack_36 : decode cX1_takeBack 36 = .ok (.putfield 17, 3) := by decide +kernel
theorem dX1_takeBack_39 : decode cX1_takeBack 39 = .ok (.return_, 1) := by decide +kernel
theorem dX1_forgetAll_0 : decode cX1_forgetAll 0 = .ok (.aload_n 0, 1) := by decide +kernel
theorem dX1_forgetAll_1 : decode cX1_forgetAll 1 = .ok (.iconst 0, 1) := by decide +kernel
theorem dX1_forgetAll_2 : decode cX1_forgetAll 2 = .ok (.putfield 17, 3) := by decide +kernel
theorem dX1_forgetAll_5 : decode cX1_forgetAll 5 = .ok (.return_, 1) := by decide +kernel
theorem c_forgetAll : Cd l yX1_forgetAll cX1_forgetAll 1 none rmX1_forgetAll [.ref 0] [ob 1 [.ref 1, iv cnt, iv nx]] none [ob 1 [.ref 1, iv 0, iv nx]] := by
  refine Ct.of miX1_forgetAll (Nat.le_of_ble_eq_true rfl) ?_
  intro X hXl hN ok
  refine AW.cast (L2 := [some (.ref 0)]) ?_ rfl rfl rfl
  refine a_aload_n (pc := 0) ok dX1_forgetAll_0 rfl ?_
  refine a_iconst (pc := 1) ok dX1_forgetAll_1 ?_
  refine a_putf (pc := 2) ok dX1_forgetAll_2 fp1_17 rfl (by first | rfl | decide) (by first | rfl | decide) (Nat.le_of_ble_eq_true rfl) ?_
  exact a_vret (pc := 5) ok dX1_forgetAll_5 (⟨rfl, rfl⟩)
theorem c_remember_0 (hc : 0 ≤ cnt ∧ cnt ≤ 14) : Cd l yX1_remember cX1_remember 2 none rmX1_remember [.ref 0, .ref 58] (mmS cnt 0 σ S) none (mmS (min (cnt + 1) 14) ((0 + 1) % 14) (fun k => if k = 0 then S else σ k) S) := by
  refine Ct.of miX1_remember (Nat.le_of_ble_eq_true rfl) ?_
  intro X hXl hN ok
  refine AW.cast (L2 := [some (.ref 0), some (.ref 58)]) ?_ rfl rfl rfl
  refine a_aload_n (pc := 0) ok dX1_remember_0 rfl ?_
  refine a_getf (pc := 1) ok dX1_remember_1 fl1_11 rfl rfl ?_
  refine a_aload_n (pc := 4) ok dX1_remember_4 rfl ?_
  refine a_getf (pc := 5) ok dX1_remember_5 fl1_21 rfl rfl ?_
  refine a_aald (pc := 8) ok dX1_remember_8 rfl (by decide) (by first | omega | (unfold rg; omega) | (simp only [rg] at *; omega) | exact bz_rg _ | grind [rg]) rfl ?_
  refine a_aload_n (pc := 9) ok dX1_remember_9 rfl ?_
  refine a_callVv (pc := 10) ok [2, 3, 4, 5, 58, 59, 60, 61] dX1_remember_10 mv1_25 miX4_copyFrom (c_copyFrom) ⟨by decide, by decide, rfl, rfl, Nat.zero_le _, Nat.zero_le _⟩ rfl rfl (Nat.le_of_ble_eq_true rfl) rfl (by decide) rfl rfl rfl ?_
  refine AW.cast (M2 := mmS cnt 0 (fun k => if k = 0 then S else σ k) S) ?_ rfl rfl rfl
  refine a_aload_n (pc := 13) ok dX1_remember_13 rfl ?_
  refine a_aload_n (pc := 14) ok dX1_remember_14 rfl ?_
  refine a_getf (pc := 15) ok dX1_remember_15 fl1_21 rfl rfl ?_
  refine a_iconst (pc := 18) ok dX1_remember_18 ?_
  refine a_iadd (pc := 19) ok dX1_remember_19 ?_
  refine a_bipush (pc := 20) ok dX1_remember_20 (by decide) ?_
  refine a_irem (pc := 22) ok dX1_remember_22 (by first | omega | (unfold rg; omega) | (simp only [rg] at *; omega) | exact bz_rg _ | grind [rg]) (by first | omega | (unfold rg; omega) | (simp only [rg] at *; omega) | exact bz_rg _ | grind [rg]) ?_
  refine a_putf (pc := 23) ok dX1_remember_23 fp1_21 rfl (by first | rfl | decide) (by first | rfl | decide) (Nat.le_of_ble_eq_true rfl) ?_
  refine a_aload_n (pc := 26) ok dX1_remember_26 rfl ?_
  refine a_aload_n (pc := 27) ok dX1_remember_27 rfl ?_
  refine a_getf (pc := 28) ok dX1_remember_28 fl1_17 rfl rfl ?_
  refine a_iconst (pc := 31) ok dX1_remember_31 ?_
  refine a_iadd (pc := 32) ok dX1_remember_32 ?_
  refine a_bipush (pc := 33) ok dX1_remember_33 (by decide) ?_
  refine a_mmin (pc := 35) ok dX1_remember_35 (ug4 89 (by decide +kernel) rfl) ⟨by decide, by decide, Nat.zero_le _, Nat.zero_le _⟩ (Nat.le_of_ble_eq_true rfl) (by first | omega | (unfold rg; omega) | (simp only [rg] at *; omega) | exact bz_rg _ | grind [rg]) (by first | omega | (unfold rg; omega) | (simp only [rg] at *; omega) | exact bz_rg _ | grind [rg]) ?_
  refine a_putf (pc := 38) ok dX1_remember_38 fp1_17 rfl (by first | rfl | decide) (by first | rfl | decide) (Nat.le_of_ble_eq_true rfl) ?_
  exact a_vret (pc := 41) ok dX1_remember_41 (⟨rfl, rfl⟩)
theorem c_takeBack_0 (hc : 1 ≤ cnt ∧ cnt ≤ 14) : Cd l yX1_takeBack cX1_takeBack 2 none rmX1_takeBack [.ref 0, .ref 58] (mmS cnt 0 σ S) none (mmS (cnt - 1) ((0 + 14 - 1) % 14) σ (σ 13)) := by
  refine Ct.of miX1_takeBack (Nat.le_of_ble_eq_true rfl) ?_
  intro X hXl hN ok
  refine AW.cast (L2 := [some (.ref 0), some (.ref 58)]) ?_ rfl rfl rfl
  refine a_aload_n (pc := 0) ok dX1_takeBack_0 rfl ?_
  refine a_aload_n (pc := 1) ok dX1_takeBack_1 rfl ?_
  refine a_getf (pc := 2) ok dX1_takeBack_2 fl1_21 rfl rfl ?_
  refine a_bipush (pc := 5) ok dX1_takeBack_5 (by decide) ?_
  refine a_iadd (pc := 7) ok dX1_takeBack_7 ?_
  refine a_iconst (pc := 8) ok dX1_takeBack_8 ?_
  refine a_isub (pc := 9) ok dX1_takeBack_9 ?_
  refine a_bipush (pc := 10) ok dX1_takeBack_10 (by decide) ?_
  refine a_irem (pc := 12) ok dX1_takeBack_12 (by first | omega | (unfold rg; omega) | (simp only [rg] at *; omega) | exact bz_rg _ | grind [rg]) (by first | omega | (unfold rg; omega) | (simp only [rg] at *; omega) | exact bz_rg _ | grind [rg]) ?_
  refine a_putf (pc := 13) ok dX1_takeBack_13 fp1_21 rfl (by first | rfl | decide) (by first | rfl | decide) (Nat.le_of_ble_eq_true rfl) ?_
  refine AW.cast (M2 := mmS cnt 13 σ S) ?_ rfl rfl rfl
  refine a_aload_n (pc := 16) ok dX1_takeBack_16 rfl ?_
  refine a_aload_n (pc := 17) ok dX1_takeBack_17 rfl ?_
  refine a_getf (pc := 18) ok dX1_takeBack_18 fl1_11 rfl rfl ?_
  refine a_aload_n (pc := 21) ok dX1_takeBack_21 rfl ?_
  refine a_getf (pc := 22) ok dX1_takeBack_22 fl1_21 rfl rfl ?_
  refine a_aald (pc := 25) ok dX1_takeBack_25 rfl (by decide) (by first | omega | (unfold rg; omega) | (simp only [rg] at *; omega) | exact bz_rg _ | grind [rg]) rfl ?_
  refine a_callVv (pc := 26) ok [58, 59, 60, 61, 54, 55, 56, 57] dX1_takeBack_26 mv1_25 miX4_copyFrom (c_copyFrom) ⟨by decide, by decide, rfl, rfl, Nat.zero_le _, Nat.zero_le _⟩ rfl rfl (Nat.le_of_ble_eq_true rfl) rfl (by decide) rfl rfl rfl ?_
  refine AW.cast (M2 := mmS cnt 13 σ (σ 13)) ?_ rfl rfl rfl
  refine a_aload_n (pc := 29) ok dX1_takeBack_29 rfl ?_
  refine a_dup (pc := 30) ok dX1_takeBack_30 rfl ?_
  refine a_getf (pc := 31) ok dX1_takeBack_31 fl1_17 rfl rfl ?_
  refine a_iconst (pc := 34) ok dX1_takeBack_34 ?_
  refine a_isub (pc := 35) ok dX1_takeBack_35 ?_
  refine a_putf (pc := 36) ok dX1_takeBack_36 fp1_17 rfl (by first | rfl | decide) (by first | rfl | decide) (Nat.le_of_ble_eq_true rfl) ?_
  exact a_vret (pc := 39) ok dX1_takeBack_39 (⟨rfl, rfl⟩)
theorem c_remember_1 (hc : 0 ≤ cnt ∧ cnt ≤ 14) : Cd l yX1_remember cX1_remember 2 none rmX1_remember [.ref 0, .ref 58] (mmS cnt 1 σ S) none (mmS (min (cnt + 1) 14) ((1 + 1) % 14) (fun k => if k = 1 then S else σ k) S) := by
  refine Ct.of miX1_remember (Nat.le_of_ble_eq_true rfl) ?_
  intro X hXl hN ok
  refine AW.cast (L2 := [some (.ref 0), some (.ref 58)]) ?_ rfl rfl rfl
  refine a_aload_n (pc := 0) ok dX1_remember_0 rfl ?_
  refine a_getf (pc := 1) ok dX1_remember_1 fl1_11 rfl rfl ?_
  refine a_aload_n (pc := 4) ok dX1_remember_4 rfl ?_
  refine a_getf (pc := 5) ok dX1_remember_5 fl1_21 rfl rfl ?_
  refine a_aald (pc := 8) ok dX1_remember_8 rfl (by decide) (by first | omega | (unfold rg; omega) | (simp only [rg] at *; omega) | exact bz_rg _ | grind [rg]) rfl ?_
  refine a_aload_n (pc := 9) ok dX1_remember_9 rfl ?_
  refine a_callVv (pc := 10) ok [6, 7, 8, 9, 58, 59, 60, 61] dX1_remember_10 mv1_25 miX4_copyFrom (c_copyFrom) ⟨by decide, by decide, rfl, rfl, Nat.zero_le _, Nat.zero_le _⟩ rfl rfl (Nat.le_of_ble_eq_true rfl) rfl (by decide) rfl rfl rfl ?_
  refine AW.cast (M2 := mmS cnt 1 (fun k => if k = 1 then S else σ k) S) ?_ rfl rfl rfl
  refine a_aload_n (pc := 13) ok dX1_remember_13 rfl ?_
  refine a_aload_n (pc := 14) ok dX1_remember_14 rfl ?_
  refine a_getf (pc := 15) ok dX1_remember_15 fl1_21 rfl rfl ?_
  refine a_iconst (pc := 18) ok dX1_remember_18 ?_
  refine a_iadd (pc := 19) ok dX1_remember_19 ?_
  refine a_bipush (pc := 20) ok dX1_remember_20 (by decide) ?_
  refine a_irem (pc := 22) ok dX1_remember_22 (by first | omega | (unfold rg; omega) | (simp only [rg] at *; omega) | exact bz_rg _ | grind [rg]) (by first | omega | (unfold rg; omega) | (simp only [rg] at *; omega) | exact bz_rg _ | grind [rg]) ?_
  refine a_putf (pc := 23) ok dX1_remember_23 fp1_21 rfl (by first | rfl | decide) (by first | rfl | decide) (Nat.le_of_ble_eq_true rfl) ?_
  refine a_aload_n (pc := 26) ok dX1_remember_26 rfl ?_
  refine a_aload_n (pc := 27) ok dX1_remember_27 rfl ?_
  refine a_getf (pc := 28) ok dX1_remember_28 fl1_17 rfl rfl ?_
  refine a_iconst (pc := 31) ok dX1_remember_31 ?_
  refine a_iadd (pc := 32) ok dX1_remember_32 ?_
  refine a_bipush (pc := 33) ok dX1_remember_33 (by decide) ?_
  refine a_mmin (pc := 35) ok dX1_remember_35 (ug4 89 (by decide +kernel) rfl) ⟨by decide, by decide, Nat.zero_le _, Nat.zero_le _⟩ (Nat.le_of_ble_eq_true rfl) (by first | omega | (unfold rg; omega) | (simp only [rg] at *; omega) | exact bz_rg _ | grind [rg]) (by first | omega | (unfold rg; omega) | (simp only [rg] at *; omega) | exact bz_rg _ | grind [rg]) ?_
  refine a_putf (pc := 38) ok dX1_remember_38 fp1_17 rfl (by first | rfl | decide) (by first | rfl | decide) (Nat.le_of_ble_eq_true rfl) ?_
  exact a_vret (pc := 41) ok dX1_remember_41 (⟨rfl, rfl⟩)
theorem c_takeBack_1 (hc : 1 ≤ cnt ∧ cnt ≤ 14) : Cd l yX1_takeBack cX1_takeBack 2 none rmX1_takeBack [.ref 0, .ref 58] (mmS cnt 1 σ S) none (mmS (cnt - 1) ((1 + 14 - 1) % 14) σ (σ 0)) := by
  refine Ct.of miX1_takeBack (Nat.le_of_ble_eq_true rfl) ?_
  intro X hXl hN ok
  refine AW.cast (L2 := [some (.ref 0), some (.ref 58)]) ?_ rfl rfl rfl
  refine a_aload_n (pc := 0) ok dX1_takeBack_0 rfl ?_
  refine a_aload_n (pc := 1) ok dX1_takeBack_1 rfl ?_
  refine a_getf (pc := 2) ok dX1_takeBack_2 fl1_21 rfl rfl ?_
  refine a_bipush (pc := 5) ok dX1_takeBack_5 (by decide) ?_
  refine a_iadd (pc := 7) ok dX1_takeBack_7 ?_
  refine a_iconst (pc := 8) ok dX1_takeBack_8 ?_
  refine a_isub (pc := 9) ok dX1_takeBack_9 ?_
  refine a_bipush (pc := 10) ok dX1_takeBack_10 (by decide) ?_
  refine a_irem (pc := 12) ok dX1_takeBack_12 (by first | omega | (unfold rg; omega) | (simp only [rg] at *; omega) | exact bz_rg _ | grind [rg]) (by first | omega | (unfold rg; omega) | (simp only [rg] at *; omega) | exact bz_rg _ | grind [rg]) ?_
  refine a_putf (pc := 13) ok dX1_takeBack_13 fp1_21 rfl (by first | rfl | decide) (by first | rfl | decide) (Nat.le_of_ble_eq_true rfl) ?_
  refine AW.cast (M2 := mmS cnt 0 σ S) ?_ rfl rfl rfl
  refine a_aload_n (pc := 16) ok dX1_takeBack_16 rfl ?_
  refine a_aload_n (pc := 17) ok dX1_takeBack_17 rfl ?_
  refine a_getf (pc := 18) ok dX1_takeBack_18 fl1_11 rfl rfl ?_
  refine a_aload_n (pc := 21) ok dX1_takeBack_21 rfl ?_
  refine a_getf (pc := 22) ok dX1_takeBack_22 fl1_21 rfl rfl ?_
  refine a_aald (pc := 25) ok dX1_takeBack_25 rfl (by decide) (by first | omega | (unfold rg; omega) | (simp only [rg] at *; omega) | exact bz_rg _ | grind [rg]) rfl ?_
  refine a_callVv (pc := 26) ok [58, 59, 60, 61, 2, 3, 4, 5] dX1_takeBack_26 mv1_25 miX4_copyFrom (c_copyFrom) ⟨by decide, by decide, rfl, rfl, Nat.zero_le _, Nat.zero_le _⟩ rfl rfl (Nat.le_of_ble_eq_true rfl) rfl (by decide) rfl rfl rfl ?_
  refine AW.cast (M2 := mmS cnt 0 σ (σ 0)) ?_ rfl rfl rfl
  refine a_aload_n (pc := 29) ok dX1_takeBack_29 rfl ?_
  refine a_dup (pc := 30) ok dX1_takeBack_30 rfl ?_
  refine a_getf (pc := 31) ok dX1_takeBack_31 fl1_17 rfl rfl ?_
  refine a_iconst (pc := 34) ok dX1_takeBack_34 ?_
  refine a_isub (pc := 35) ok dX1_takeBack_35 ?_
  refine a_putf (pc := 36) ok dX1_takeBack_36 fp1_17 rfl (by first | rfl | decide) (by first | rfl | decide) (Nat.le_of_ble_eq_true rfl) ?_
  exact a_vret (pc := 39) ok dX1_takeBack_39 (⟨rfl, rfl⟩)
theorem c_remember_2 (hc : 0 ≤ cnt ∧ cnt ≤ 14) : Cd l yX1_remember cX1_remember 2 none rmX1_remember [.ref 0, .ref 58] (mmS cnt 2 σ S) none (mmS (min (cnt + 1) 14) ((2 + 1) % 14) (fun k => if k = 2 then S else σ k) S) := by
  refine Ct.of miX1_remember (Nat.le_of_ble_eq_true rfl) ?_
  intro X hXl hN ok
  refine AW.cast (L2 := [some (.ref 0), some (.ref 58)]) ?_ rfl rfl rfl
  refine a_aload_n (pc := 0) ok dX1_remember_0 rfl ?_
  refine a_getf (pc := 1) ok dX1_remember_1 fl1_11 rfl rfl ?_
  refine a_aload_n (pc := 4) ok dX1_remember_4 rfl ?_
  refine a_getf (pc := 5) ok dX1_remember_5 fl1_21 rfl rfl ?_
  refine a_aald (pc := 8) ok dX1_remember_8 rfl (by decide) (by first | omega | (unfold rg; omega) | (simp only [rg] at *; omega) | exact bz_rg _ | grind [rg]) rfl ?_
  refine a_aload_n (pc := 9) ok dX1_remember_9 rfl ?_
  refine a_callVv (pc := 10) ok [10, 11, 12, 13, 58, 59, 60, 61] dX1_remember_10 mv1_25 miX4_copyFrom (c_copyFrom) ⟨by decide, by decide, rfl, rfl, Nat.zero_le _, Nat.zero_le _⟩ rfl rfl (Nat.le_of_ble_eq_true rfl) rfl (by decide) rfl rfl rfl ?_
  refine AW.cast (M2 := mmS cnt 2 (fun k => if k = 2 then S else σ k) S) ?_ rfl rfl rfl
  refine a_aload_n (pc := 13) ok dX1_remember_13 rfl ?_
  refine a_aload_n (pc := 14) ok dX1_remember_14 rfl ?_
  refine a_getf (pc := 15) ok dX1_remember_15 fl1_21 rfl rfl ?_
  refine a_iconst (pc := 18) ok dX1_remember_18 ?_
  refine a_iadd (pc := 19) ok dX1_remember_19 ?_
  refine a_bipush (pc := 20) ok dX1_remember_20 (by decide) ?_
  refine a_irem (pc := 22) ok dX1_remember_22 (by first | omega | (unfold rg; omega) | (simp only [rg] at *; omega) | exact bz_rg _ | grind [rg]) (by first | omega | (unfold rg; omega) | (simp only [rg] at *; omega) | exact bz_rg _ | grind [rg]) ?_
  refine a_putf (pc := 23) ok dX1_remember_23 fp1_21 rfl (by first | rfl | decide) (by first | rfl | decide) (Nat.le_of_ble_eq_true rfl) ?_
  refine a_aload_n (pc := 26) ok dX1_remember_26 rfl ?_
  refine a_aload_n (pc := 27) ok dX1_remember_27 rfl ?_
  refine a_getf (pc := 28) ok dX1_remember_28 fl1_17 rfl rfl ?_
  refine a_iconst (pc := 31) ok dX1_remember_31 ?_
  refine a_iadd (pc := 32) ok dX1_remember_32 ?_
  refine a_bipush (pc := 33) ok dX1_remember_33 (by decide) ?_
  refine a_mmin (pc := 35) ok dX1_remember_35 (ug4 89 (by decide +kernel) rfl) ⟨by decide, by decide, Nat.zero_le _, Nat.zero_le _⟩ (Nat.le_of_ble_eq_true rfl) (by first | omega | (unfold rg; omega) | (simp only [rg] at *; omega) | exact bz_rg _ | grind [rg]) (by first | omega | (unfold rg; omega) | (simp only [rg] at *; omega) | exact bz_rg _ | grind [rg]) ?_
  refine a_putf (pc := 38) ok dX1_remember_38 fp1_17 rfl (by first | rfl | decide) (by first | rfl | decide) (Nat.le_of_ble_eq_true rfl) ?_
  exact a_vret (pc := 41) ok dX1_remember_41 (⟨rfl, rfl⟩)
theorem c_takeBack_2 (hc : 1 ≤ cnt ∧ cnt ≤ 14) : Cd l yX1_takeBack cX1_takeBack 2 none rmX1_takeBack [.ref 0, .ref 58] (mmS cnt 2 σ S) none (mmS (cnt - 1) ((2 + 14 - 1) % 14) σ (σ 1)) := by
  refine Ct.of miX1_takeBack (Nat.le_of_ble_eq_true rfl) ?_
  intro X hXl hN ok
  refine AW.cast (L2 := [some (.ref 0), some (.ref 58)]) ?_ rfl rfl rfl
  refine a_aload_n (pc := 0) ok dX1_takeBack_0 rfl ?_
  refine a_aload_n (pc := 1) ok dX1_takeBack_1 rfl ?_
  refine a_getf (pc := 2) ok dX1_takeBack_2 fl1_21 rfl rfl ?_
  refine a_bipush (pc := 5) ok dX1_takeBack_5 (by decide) ?_
  refine a_iadd (pc := 7) ok dX1_takeBack_7 ?_
  refine a_iconst (pc := 8) ok dX1_takeBack_8 ?_
  refine a_isub (pc := 9) ok dX1_takeBack_9 ?_
  refine a_bipush (pc := 10) ok dX1_takeBack_10 (by decide) ?_
  refine a_irem (pc := 12) ok dX1_takeBack_12 (by first | omega | (unfold rg; omega) | (simp only [rg] at *; omega) | exact bz_rg _ | grind [rg]) (by first | omega | (unfold rg; omega) | (simp only [rg] at *; omega) | exact bz_rg _ | grind [rg]) ?_
  refine a_putf (pc := 13) ok dX1_takeBack_13 fp1_21 rfl (by first | rfl | decide) (by first | rfl | decide) (Nat.le_of_ble_eq_true rfl) ?_
  refine AW.cast (M2 := mmS cnt 1 σ S) ?_ rfl rfl rfl
  refine a_aload_n (pc := 16) ok dX1_takeBack_16 rfl ?_
  refine a_aload_n (pc := 17) ok dX1_takeBack_17 rfl ?_
  refine a_getf (pc := 18) ok dX1_takeBack_18 fl1_11 rfl rfl ?_
  refine a_aload_n (pc := 21) ok dX1_takeBack_21 rfl ?_
  refine a_getf (pc := 22) ok dX1_takeBack_22 fl1_21 rfl rfl ?_
  refine a_aald (pc := 25) ok dX1_takeBack_25 rfl (by decide) (by first | omega | (unfold rg; omega) | (simp only [rg] at *; omega) | exact bz_rg _ | grind [rg]) rfl ?_
  refine a_callVv (pc := 26) ok [58, 59, 60, 61, 6, 7, 8, 9] dX1_takeBack_26 mv1_25 miX4_copyFrom (c_copyFrom) ⟨by decide, by decide, rfl, rfl, Nat.zero_le _, Nat.zero_le _⟩ rfl rfl (Nat.le_of_ble_eq_true rfl) rfl (by decide) rfl rfl rfl ?_
  refine AW.cast (M2 := mmS cnt 1 σ (σ 1)) ?_ rfl rfl rfl
  refine a_aload_n (pc := 29) ok dX1_takeBack_29 rfl ?_
  refine a_dup (pc := 30) ok dX1_takeBack_30 rfl ?_
  refine a_getf (pc := 31) ok dX1_takeBack_31 fl1_17 rfl rfl ?_
  refine a_iconst (pc := 34) ok dX1_takeBack_34 ?_
  refine a_isub (pc := 35) ok dX1_takeBack_35 ?_
  refine a_putf (pc := 36) ok dX1_takeBack_36 fp1_17 rfl (by first | rfl | decide) (by first | rfl | decide) (Nat.le_of_ble_eq_true rfl) ?_
  exact a_vret (pc := 39) ok dX1_takeBack_39 (⟨rfl, rfl⟩)
theorem c_remember_3 (hc : 0 ≤ cnt ∧ cnt ≤ 14) : Cd l yX1_remember cX1_remember 2 none rmX1_remember [.ref 0, .ref 58] (mmS cnt 3 σ S) none (mmS (min (cnt + 1) 14) ((3 + 1) % 14) (fun k => if k = 3 then S else σ k) S) := by
  refine Ct.of miX1_remember (Nat.le_of_ble_eq_true rfl) ?_
  intro X hXl hN ok
  refine AW.cast (L2 := [some (.ref 0), some (.ref 58)]) ?_ rfl rfl rfl
  refine a_aload_n (pc := 0) ok dX1_remember_0 rfl ?_
  refine a_getf (pc := 1) ok dX1_remember_1 fl1_11 rfl rfl ?_
  refine a_aload_n (pc := 4) ok dX1_remember_4 rfl ?_
  refine a_getf (pc := 5) ok dX1_remember_5 fl1_21 rfl rfl ?_
  refine a_aald (pc := 8) ok dX1_remember_8 rfl (by decide) (by first | omega | (unfold rg; omega) | (simp only [rg] at *; omega) | exact bz_rg _ | grind [rg]) rfl ?_
  refine a_aload_n (pc := 9) ok dX1_remember_9 rfl ?_
  refine a_callVv (pc := 10) ok [14, 15, 16, 17, 58, 59, 60, 61] dX1_remember_10 mv1_25 miX4_copyFrom (c_copyFrom) ⟨by decide, by decide, rfl, rfl, Nat.zero_le _, Nat.zero_le _⟩ rfl rfl (Nat.le_of_ble_eq_true rfl) rfl (by decide) rfl rfl rfl ?_
  refine AW.cast (M2 := mmS cnt 3 (fun k => if k = 3 then S else σ k) S) ?_ rfl rfl rfl
  refine a_aload_n (pc := 13) ok dX1_remember_13 rfl ?_
  refine a_aload_n (pc := 14) ok dX1_remember_14 rfl ?_
  refine a_getf (pc := 15) ok dX1_remember_15 fl1_21 rfl rfl ?_
  refine a_iconst (pc := 18) ok dX1_remember_18 ?_
  refine a_iadd (pc := 19) ok dX1_remember_19 ?_
  refine a_bipush (pc := 20) ok dX1_remember_20 (by decide) ?_
  refine a_irem (pc := 22) ok dX1_remember_22 (by first | omega | (unfold rg; omega) | (simp only [rg] at *; omega) | exact bz_rg _ | grind [rg]) (by first | omega | (unfold rg; omega) | (simp only [rg] at *; omega) | exact bz_rg _ | grind [rg]) ?_
  refine a_putf (pc := 23) ok dX1_remember_23 fp1_21 rfl (by first | rfl | decide) (by first | rfl | decide) (Nat.le_of_ble_eq_true rfl) ?_
  refine a_aload_n (pc := 26) ok dX1_remember_26 rfl ?_
  refine a_aload_n (pc := 27) ok dX1_remember_27 rfl ?_
  refine a_getf (pc := 28) ok dX1_remember_28 fl1_17 rfl rfl ?_
  refine a_iconst (pc := 31) ok dX1_remember_31 ?_
  refine a_iadd (pc := 32) ok dX1_remember_32 ?_
  refine a_bipush (pc := 33) ok dX1_remember_33 (by decide) ?_
  refine a_mmin (pc := 35) ok dX1_remember_35 (ug4 89 (by decide +kernel) rfl) ⟨by decide, by decide, Nat.zero_le _, Nat.zero_le _⟩ (Nat.le_of_ble_eq_true rfl) (by first | omega | (unfold rg; omega) | (simp only [rg] at *; omega) | exact bz_rg _ | grind [rg]) (by first | omega | (unfold rg; omega) | (simp only [rg] at *; omega) | exact bz_rg _ | grind [rg]) ?_
  refine a_putf (pc := 38) ok dX1_remember_38 fp1_17 rfl (by first | rfl | decide) (by first | rfl | decide) (Nat.le_of_ble_eq_true rfl) ?_
  exact a_vret (pc := 41) ok dX1_remember_41 (⟨rfl, rfl⟩)
theorem c_takeBack_3 (hc : 1 ≤ cnt ∧ cnt ≤ 14) : Cd l yX1_takeBack cX1_takeBack 2 none rmX1_takeBack [.ref 0, .ref 58] (mmS cnt 3 σ S) none (mmS (cnt - 1) ((3 + 14 - 1) % 14) σ (σ 2)) := by
  refine Ct.of miX1_takeBack (Nat.le_of_ble_eq_true rfl) ?_
  intro X hXl hN ok
  refine AW.cast (L2 := [some (.ref 0), some (.ref 58)]) ?_ rfl rfl rfl
  refine a_aload_n (pc := 0) ok dX1_takeBack_0 rfl ?_
  refine a_aload_n (pc := 1) ok dX1_takeBack_1 rfl ?_
  refine a_getf (pc := 2) ok dX1_takeBack_2 fl1_21 rfl rfl ?_
  refine a_bipush (pc := 5) ok dX1_takeBack_5 (by decide) ?_
  refine a_iadd (pc := 7) ok dX1_takeBack_7 ?_
  refine a_iconst (pc := 8) ok dX1_takeBack_8 ?_
  refine a_isub (pc := 9) ok dX1_takeBack_9 ?_
  refine a_bipush (pc := 10) ok dX1_takeBack_10 (by decide) ?_
  refine a_irem (pc := 12) ok dX1_takeBack_12 (by first | omega | (unfold rg; omega) | (simp only [rg] at *; omega) | exact bz_rg _ | grind [rg]) (by first | omega | (unfold rg; omega) | (simp only [rg] at *; omega) | exact bz_rg _ | grind [rg]) ?_
  refine a_putf (pc := 13) ok dX1_takeBack_13 fp1_21 rfl (by first | rfl | decide) (by first | rfl | decide) (Nat.le_of_ble_eq_true rfl) ?_
  refine AW.cast (M2 := mmS cnt 2 σ S) ?_ rfl rfl rfl
  refine a_aload_n (pc := 16) ok dX1_takeBack_16 rfl ?_
  refine a_aload_n (pc := 17) ok dX1_takeBack_17 rfl ?_
  refine a_getf (pc := 18) ok dX1_takeBack_18 fl1_11 rfl rfl ?_
  refine a_aload_n (pc := 21) ok dX1_takeBack_21 rfl ?_
  refine a_getf (pc := 22) ok dX1_takeBack_22 fl1_21 rfl rfl ?_
  refine a_aald (pc := 25) ok dX1_takeBack_25 rfl (by decide) (by first | omega | (unfold rg; omega) | (simp only [rg] at *; omega) | exact bz_rg _ | grind [rg]) rfl ?_
  refine a_callVv (pc := 26) ok [58, 59, 60, 61, 10, 11, 12, 13] dX1_takeBack_26 mv1_25 miX4_copyFrom (c_copyFrom) ⟨by decide, by decide, rfl, rfl, Nat.zero_le _, Nat.zero_le _⟩ rfl rfl (Nat.le_of_ble_eq_true rfl) rfl (by decide) rfl rfl rfl ?_
  refine AW.cast (M2 := mmS cnt 2 σ (σ 2)) ?_ rfl rfl rfl
  refine a_aload_n (pc := 29) ok dX1_takeBack_29 rfl ?_
  refine a_dup (pc := 30) ok dX1_takeBack_30 rfl ?_
  refine a_getf (pc := 31) ok dX1_takeBack_31 fl1_17 rfl rfl ?_
  refine a_iconst (pc := 34) ok dX1_takeBack_34 ?_
  refine a_isub (pc := 35) ok dX1_takeBack_35 ?_
  refine a_putf (pc := 36) ok dX1_takeBack_36 fp1_17 rfl (by first | rfl | decide) (by first | rfl | decide) (Nat.le_of_ble_eq_true rfl) ?_
  exact a_vret (pc := 39) ok dX1_takeBack_39 (⟨rfl, rfl⟩)
theorem c_remember_4 (hc : 0 ≤ cnt ∧ cnt ≤ 14) : Cd l yX1_remember cX1_remember 2 none rmX1_remember [.ref 0, .ref 58] (mmS cnt 4 σ S) none (mmS (min (cnt + 1) 14) ((4 + 1) % 14) (fun k => if k = 4 then S else σ k) S) := by
  refine Ct.of miX1_remember (Nat.le_of_ble_eq_true rfl) ?_
  intro X hXl hN ok
  refine AW.cast (L2 := [some (.ref 0), some (.ref 58)]) ?_ rfl rfl rfl
  refine a_aload_n (pc := 0) ok dX1_remember_0 rfl ?_
  refine a_getf (pc := 1) ok dX1_remember_1 fl1_11 rfl rfl ?_
  refine a_aload_n (pc := 4) ok dX1_remember_4 rfl ?_
  refine a_getf (pc := 5) ok dX1_remember_5 fl1_21 rfl rfl ?_
  refine a_aald (pc := 8) ok dX1_remember_8 rfl (by decide) (by first | omega | (unfold rg; omega) | (simp only [rg] at *; omega) | exact bz_rg _ | grind [rg]) rfl ?_
  refine a_aload_n (pc := 9) ok dX1_remember_9 rfl ?_
  refine a_callVv (pc := 10) ok [18, 19, 20, 21, 58, 59, 60, 61] dX1_remember_10 mv1_25 miX4_copyFrom (c_copyFrom) ⟨by decide, by decide, rfl, rfl, Nat.zero_le _, Nat.zero_le _⟩ rfl rfl (Nat.le_of_ble_eq_true rfl) rfl (by decide) rfl rfl rfl ?_
  refine AW.cast (M2 := mmS cnt 4 (fun k => if k = 4 then S else σ k) S) ?_ rfl rfl rfl
  refine a_aload_n (pc := 13) ok dX1_remember_13 rfl ?_
  refine a_aload_n (pc := 14) ok dX1_remember_14 rfl ?_
  refine a_getf (pc := 15) ok dX1_remember_15 fl1_21 rfl rfl ?_
  refine a_iconst (pc := 18) ok dX1_remember_18 ?_
  refine a_iadd (pc := 19) ok dX1_remember_19 ?_
  refine a_bipush (pc := 20) ok dX1_remember_20 (by decide) ?_
  refine a_irem (pc := 22) ok dX1_remember_22 (by first | omega | (unfold rg; omega) | (simp only [rg] at *; omega) | exact bz_rg _ | grind [rg]) (by first | omega | (unfold rg; omega) | (simp only [rg] at *; omega) | exact bz_rg _ | grind [rg]) ?_
  refine a_putf (pc := 23) ok dX1_remember_23 fp1_21 rfl (by first | rfl | decide) (by first | rfl | decide) (Nat.le_of_ble_eq_true rfl) ?_
  refine a_aload_n (pc := 26) ok dX1_remember_26 rfl ?_
  refine a_aload_n (pc := 27) ok dX1_remember_27 rfl ?_
  refine a_getf (pc := 28) ok dX1_remember_28 fl1_17 rfl rfl ?_
  refine a_iconst (pc := 31) ok dX1_remember_31 ?_
  refine a_iadd (pc := 32) ok dX1_remember_32 ?_
  refine a_bipush (pc := 33) ok dX1_remember_33 (by decide) ?_
  refine a_mmin (pc := 35) ok dX1_remember_35 (ug4 89 (by decide +kernel) rfl) ⟨by decide, by decide, Nat.zero_le _, Nat.zero_le _⟩ (Nat.le_of_ble_eq_true rfl) (by first | omega | (unfold rg; omega) | (simp only [rg] at *; omega) | exact bz_rg _ | grind [rg]) (by first | omega | (unfold rg; omega) | (simp only [rg] at *; omega) | exact bz_rg _ | grind [rg]) ?_
  refine a_putf (pc := 38) ok dX1_remember_38 fp1_17 rfl (by first | rfl | decide) (by first | rfl | decide) (Nat.le_of_ble_eq_true rfl) ?_
  exact a_vret (pc := 41) ok dX1_remember_41 (⟨rfl, rfl⟩)
theorem c_takeBack_4 (hc : 1 ≤ cnt ∧ cnt ≤ 14) : Cd l yX1_takeBack cX1_takeBack 2 none rmX1_takeBack [.ref 0, .ref 58] (mmS cnt 4 σ S) none (mmS (cnt - 1) ((4 + 14 - 1) % 14) σ (σ 3)) := by
  refine Ct.of miX1_takeBack (Nat.le_of_ble_eq_true rfl) ?_
  intro X hXl hN ok
  refine AW.cast (L2 := [some (.ref 0), some (.ref 58)]) ?_ rfl rfl rfl
  refine a_aload_n (pc := 0) ok dX1_takeBack_0 rfl ?_
  refine a_aload_n (pc := 1) ok dX1_takeBack_1 rfl ?_
  refine a_getf (pc := 2) ok dX1_takeBack_2 fl1_21 rfl rfl ?_
  refine a_bipush (pc := 5) ok dX1_takeBack_5 (by decide) ?_
  refine a_iadd (pc := 7) ok dX1_takeBack_7 ?_
  refine a_iconst (pc := 8) ok dX1_takeBack_8 ?_
  refine a_isub (pc := 9) ok dX1_takeBack_9 ?_
  refine a_bipush (pc := 10) ok dX1_takeBack_10 (by decide) ?_
  refine a_irem (pc := 12) ok dX1_takeBack_12 (by first | omega | (unfold rg; omega) | (simp only [rg] at *; omega) | exact bz_rg _ | grind [rg]) (by first | omega | (unfold rg; omega) | (simp only [rg] at *; omega) | exact bz_rg _ | grind [rg]) ?_
  refine a_putf (pc := 13) ok dX1_takeBack_13 fp1_21 rfl (by first | rfl | decide) (by first | rfl | decide) (Nat.le_of_ble_eq_true rfl) ?_
  refine AW.cast (M2 := mmS cnt 3 σ S) ?_ rfl rfl rfl
  refine a_aload_n (pc := 16) ok dX1_takeBack_16 rfl ?_
  refine a_aload_n (pc := 17) ok dX1_takeBack_17 rfl ?_
  refine a_getf (pc := 18) ok dX1_takeBack_18 fl1_11 rfl rfl ?_
  refine a_aload_n (pc := 21) ok dX1_takeBack_21 rfl ?_
  refine a_getf (pc := 22) ok dX1_takeBack_22 fl1_21 rfl rfl ?_
  refine a_aald (pc := 25) ok dX1_takeBack_25 rfl (by decide) (by first | omega | (unfold rg; omega) | (simp only [rg] at *; omega) | exact bz_rg _ | grind [rg]) rfl ?_
  refine a_callVv (pc := 26) ok [58, 59, 60, 61, 14, 15, 16, 17] dX1_takeBack_26 mv1_25 miX4_copyFrom (c_copyFrom) ⟨by decide, by decide, rfl, rfl, Nat.zero_le _, Nat.zero_le _⟩ rfl rfl (Nat.le_of_ble_eq_true rfl) rfl (by decide) rfl rfl rfl ?_
  refine AW.cast (M2 := mmS cnt 3 σ (σ 3)) ?_ rfl rfl rfl
  refine a_aload_n (pc := 29) ok dX1_takeBack_29 rfl ?_
  refine a_dup (pc := 30) ok dX1_takeBack_30 rfl ?_
  refine a_getf (pc := 31) ok dX1_takeBack_31 fl1_17 rfl rfl ?_
  refine a_iconst (pc := 34) ok dX1_takeBack_34 ?_
  refine a_isub (pc := 35) ok dX1_takeBack_35 ?_
  refine a_putf (pc := 36) ok dX1_takeBack_36 fp1_17 rfl (by first | rfl | decide) (by first | rfl | decide) (Nat.le_of_ble_eq_true rfl) ?_
  exact a_vret (pc := 39) ok dX1_takeBack_39 (⟨rfl, rfl⟩)
theorem c_remember_5 (hc : 0 ≤ cnt ∧ cnt ≤ 14) : Cd l yX1_remember cX1_remember 2 none rmX1_remember [.ref 0, .ref 58] (mmS cnt 5 σ S) none (mmS (min (cnt + 1) 14) ((5 + 1) % 14) (fun k => if k = 5 then S else σ k) S) := by
  refine Ct.of miX1_remember (Nat.le_of_ble_eq_true rfl) ?_
  intro X hXl hN ok
  refine AW.cast (L2 := [some (.ref 0), some (.ref 58)]) ?_ rfl rfl rfl
  refine a_aload_n (pc := 0) ok dX1_remember_0 rfl ?_
  refine a_getf (pc := 1) ok dX1_remember_1 fl1_11 rfl rfl ?_
  refine a_aload_n (pc := 4) ok dX1_remember_4 rfl ?_
  refine a_getf (pc := 5) ok dX1_remember_5 fl1_21 rfl rfl ?_
  refine a_aald (pc := 8) ok dX1_remember_8 rfl (by decide) (by first | omega | (unfold rg; omega) | (simp only [rg] at *; omega) | exact bz_rg _ | grind [rg]) rfl ?_
  refine a_aload_n (pc := 9) ok dX1_remember_9 rfl ?_
  refine a_callVv (pc := 10) ok [22, 23, 24, 25, 58, 59, 60, 61] dX1_remember_10 mv1_25 miX4_copyFrom (c_copyFrom) ⟨by decide, by decide, rfl, rfl, Nat.zero_le _, Nat.zero_le _⟩ rfl rfl (Nat.le_of_ble_eq_true rfl) rfl (by decide) rfl rfl rfl ?_
  refine AW.cast (M2 := mmS cnt 5 (fun k => if k = 5 then S else σ k) S) ?_ rfl rfl rfl
  refine a_aload_n (pc := 13) ok dX1_remember_13 rfl ?_
  refine a_aload_n (pc := 14) ok dX1_remember_14 rfl ?_
  refine a_getf (pc := 15) ok dX1_remember_15 fl1_21 rfl rfl ?_
  refine a_iconst (pc := 18) ok dX1_remember_18 ?_
  refine a_iadd (pc := 19) ok dX1_remember_19 ?_
  refine a_bipush (pc := 20) ok dX1_remember_20 (by decide) ?_
  refine a_irem (pc := 22) ok dX1_remember_22 (by first | omega | (unfold rg; omega) | (simp only [rg] at *; omega) | exact bz_rg _ | grind [rg]) (by first | omega | (unfold rg; omega) | (simp only [rg] at *; omega) | exact bz_rg _ | grind [rg]) ?_
  refine a_putf (pc := 23) ok dX1_remember_23 fp1_21 rfl (by first | rfl | decide) (by first | rfl | decide) (Nat.le_of_ble_eq_true rfl) ?_
  refine a_aload_n (pc := 26) ok dX1_remember_26 rfl ?_
  refine a_aload_n (pc := 27) ok dX1_remember_27 rfl ?_
  refine a_getf (pc := 28) ok dX1_remember_28 fl1_17 rfl rfl ?_
  refine a_iconst (pc := 31) ok dX1_remember_31 ?_
  refine a_iadd (pc := 32) ok dX1_remember_32 ?_
  refine a_bipush (pc := 33) ok dX1_remember_33 (by decide) ?_
  refine a_mmin (pc := 35) ok dX1_remember_35 (ug4 89 (by decide +kernel) rfl) ⟨by decide, by decide, Nat.zero_le _, Nat.zero_le _⟩ (Nat.le_of_ble_eq_true rfl) (by first | omega | (unfold rg; omega) | (simp only [rg] at *; omega) | exact bz_rg _ | grind [rg]) (by first | omega | (unfold rg; omega) | (simp only [rg] at *; omega) | exact bz_rg _ | grind [rg]) ?_
  refine a_putf (pc := 38) ok dX1_remember_38 fp1_17 rfl (by first | rfl | decide) (by first | rfl | decide) (Nat.le_of_ble_eq_true rfl) ?_
  exact a_vret (pc := 41) ok dX1_remember_41 (⟨rfl, rfl⟩)
theorem c_takeBack_5 (hc : 1 ≤ cnt ∧ cnt ≤ 14) : Cd l yX1_takeBack cX1_takeBack 2 none rmX1_takeBack [.ref 0, .ref 58] (mmS cnt 5 σ S) none (mmS (cnt - 1) ((5 + 14 - 1) % 14) σ (σ 4)) := by
  refine Ct.of miX1_takeBack (Nat.le_of_ble_eq_true rfl) ?_
  intro X hXl hN ok
  refine AW.cast (L2 := [some (.ref 0), some (.ref 58)]) ?_ rfl rfl rfl
  refine a_aload_n (pc := 0) ok dX1_takeBack_0 rfl ?_
  refine a_aload_n (pc := 1) ok dX1_takeBack_1 rfl ?_
  refine a_getf (pc := 2) ok dX1_takeBack_2 fl1_21 rfl rfl ?_
  refine a_bipush (pc := 5) ok dX1_takeBack_5 (by decide) ?_
  refine a_iadd (pc := 7) ok dX1_takeBack_7 ?_
  refine a_iconst (pc := 8) ok dX1_takeBack_8 ?_
  refine a_isub (pc := 9) ok dX1_takeBack_9 ?_
  refine a_bipush (pc := 10) ok dX1_takeBack_10 (by decide) ?_
  refine a_irem (pc := 12) ok dX1_takeBack_12 (by first | omega | (unfold rg; omega) | (simp only [rg] at *; omega) | exact bz_rg _ | grind [rg]) (by first | omega | (unfold rg; omega) | (simp only [rg] at *; omega) | exact bz_rg _ | grind [rg]) ?_
  refine a_putf (pc := 13) ok dX1_takeBack_13 fp1_21 rfl (by first | rfl | decide) (by first | rfl | decide) (Nat.le_of_ble_eq_true rfl) ?_
  refine AW.cast (M2 := mmS cnt 4 σ S) ?_ rfl rfl rfl
  refine a_aload_n (pc := 16) ok dX1_takeBack_16 rfl ?_
  refine a_aload_n (pc := 17) ok dX1_takeBack_17 rfl ?_
  refine a_getf (pc := 18) ok dX1_takeBack_18 fl1_11 rfl rfl ?_
  refine a_aload_n (pc := 21) ok dX1_takeBack_21 rfl ?_
  refine a_getf (pc := 22) ok dX1_takeBack_22 fl1_21 rfl rfl ?_
  refine a_aald (pc := 25) ok dX1_takeBack_25 rfl (by decide) (by first | omega | (unfold rg; omega) | (simp only [rg] at *; omega) | exact bz_rg _ | grind [rg]) rfl ?_
  refine a_callVv (pc := 26) ok [58, 59, 60, 61, 18, 19, 20, 21] dX1_takeBack_26 mv1_25 miX4_copyFrom (c_copyFrom) ⟨by decide, by decide, rfl, rfl, Nat.zero_le _, Nat.zero_le _⟩ rfl rfl (Nat.le_of_ble_eq_true rfl) rfl (by decide) rfl rfl rfl ?_
  refine AW.cast (M2 := mmS cnt 4 σ (σ 4)) ?_ rfl rfl rfl
  refine a_aload_n (pc := 29) ok dX1_takeBack_29 rfl ?_
  refine a_dup (pc := 30) ok dX1_takeBack_30 rfl ?_
  refine a_getf (pc := 31) ok dX1_takeBack_31 fl1_17 rfl rfl ?_
  refine a_iconst (pc := 34) ok dX1_takeBack_34 ?_
  refine a_isub (pc := 35) ok dX1_takeBack_35 ?_
  refine a_putf (pc := 36) ok dX1_takeBack_36 fp1_17 rfl (by first | rfl | decide) (by first | rfl | decide) (Nat.le_of_ble_eq_true rfl) ?_
  exact a_vret (pc := 39) ok dX1_takeBack_39 (⟨rfl, rfl⟩)
theorem c_remember_6 (hc : 0 ≤ cnt ∧ cnt ≤ 14) : Cd l yX1_remember cX1_remember 2 none rmX1_remember [.ref 0, .ref 58] (mmS cnt 6 σ S) none (mmS (min (cnt + 1) 14) ((6 + 1) % 14) (fun k => if k = 6 then S else σ k) S) := by
  refine Ct.of miX1_remember (Nat.le_of_ble_eq_true rfl) ?_
  intro X hXl hN ok
  refine AW.cast (L2 := [some (.ref 0), some (.ref 58)]) ?_ rfl rfl rfl
  refine a_aload_n (pc := 0) ok dX1_remember_0 rfl ?_
  refine a_getf (pc := 1) ok dX1_remember_1 fl1_11 rfl rfl ?_
  refine a_aload_n (pc := 4) ok dX1_remember_4 rfl ?_
  refine a_getf (pc := 5) ok dX1_remember_5 fl1_21 rfl rfl ?_
  refine a_aald (pc := 8) ok dX1_remember_8 rfl (by decide) (by first | omega | (unfold rg; omega) | (simp only [rg] at *; omega) | exact bz_rg _ | grind [rg]) rfl ?_
  refine a_aload_n (pc := 9) ok dX1_remember_9 rfl ?_
  refine a_callVv (pc := 10) ok [26, 27, 28, 29, 58, 59, 60, 61] dX1_remember_10 mv1_25 miX4_copyFrom (c_copyFrom) ⟨by decide, by decide, rfl, rfl, Nat.zero_le _, Nat.zero_le _⟩ rfl rfl (Nat.le_of_ble_eq_true rfl) rfl (by decide) rfl rfl rfl ?_
  refine AW.cast (M2 := mmS cnt 6 (fun k => if k = 6 then S else σ k) S) ?_ rfl rfl rfl
  refine a_aload_n (pc := 13) ok dX1_remember_13 rfl ?_
  refine a_aload_n (pc := 14) ok dX1_remember_14 rfl ?_
  refine a_getf (pc := 15) ok dX1_remember_15 fl1_21 rfl rfl ?_
  refine a_iconst (pc := 18) ok dX1_remember_18 ?_
  refine a_iadd (pc := 19) ok dX1_remember_19 ?_
  refine a_bipush (pc := 20) ok dX1_remember_20 (by decide) ?_
  refine a_irem (pc := 22) ok dX1_remember_22 (by first | omega | (unfold rg; omega) | (simp only [rg] at *; omega) | exact bz_rg _ | grind [rg]) (by first | omega | (unfold rg; omega) | (simp only [rg] at *; omega) | exact bz_rg _ | grind [rg]) ?_
  refine a_putf (pc := 23) ok dX1_remember_23 fp1_21 rfl (by first | rfl | decide) (by first | rfl | decide) (Nat.le_of_ble_eq_true rfl) ?_
  refine a_aload_n (pc := 26) ok dX1_remember_26 rfl ?_
  refine a_aload_n (pc := 27) ok dX1_remember_27 rfl ?_
  refine a_getf (pc := 28) ok dX1_remember_28 fl1_17 rfl rfl ?_
  refine a_iconst (pc := 31) ok dX1_remember_31 ?_
  refine a_iadd (pc := 32) ok dX1_remember_32 ?_
  refine a_bipush (pc := 33) ok dX1_remember_33 (by decide) ?_
  refine a_mmin (pc := 35) ok dX1_remember_35 (ug4 89 (by decide +kernel) rfl) ⟨by decide, by decide, Nat.zero_le _, Nat.zero_le _⟩ (Nat.le_of_ble_eq_true rfl) (by first | omega | (unfold rg; omega) | (simp only [rg] at *; omega) | exact bz_rg _ | grind [rg]) (by first | omega | (unfold rg; omega) | (simp only [rg] at *; omega) | exact bz_rg _ | grind [rg]) ?_
  refine a_putf (pc := 38) ok dX1_remember_38 fp1_17 rfl (by first | rfl | decide) (by first | rfl | decide) (Nat.le_of_ble_eq_true rfl) ?_
  exact a_vret (pc := 41) ok dX1_remember_41 (⟨rfl, rfl⟩)
theorem c_takeBack_6 (hc : 1 ≤ cnt ∧ cnt ≤ 14) : Cd l yX1_takeBack cX1_takeBack 2 none rmX1_takeBack [.ref 0, .ref 58] (mmS cnt 6 σ S) none (mmS (cnt - 1) ((6 + 14 - 1) % 14) σ (σ 5)) := by
  refine Ct.of miX1_takeBack (Nat.le_of_ble_eq_true rfl) ?_
  intro X hXl hN ok
  refine AW.cast (L2 := [some (.ref 0), some (.ref 58)]) ?_ rfl rfl rfl
  refine a_aload_n (pc := 0) ok dX1_takeBack_0 rfl ?_
  refine a_aload_n (pc := 1) ok dX1_takeBack_1 rfl ?_
  refine a_getf (pc := 2) ok dX1_takeBack_2 fl1_21 rfl rfl ?_
  refine a_bipush (pc := 5) ok dX1_takeBack_5 (by decide) ?_
  refine a_iadd (pc := 7) ok dX1_takeBack_7 ?_
  refine a_iconst (pc := 8) ok dX1_takeBack_8 ?_
  refine a_isub (pc := 9) ok dX1_takeBack_9 ?_
  refine a_bipush (pc := 10) ok dX1_takeBack_10 (by decide) ?_
  refine a_irem (pc := 12) ok dX1_takeBack_12 (by first | omega | (unfold rg; omega) | (simp only [rg] at *; omega) | exact bz_rg _ | grind [rg]) (by first | omega | (unfold rg; omega) | (simp only [rg] at *; omega) | exact bz_rg _ | grind [rg]) ?_
  refine a_putf (pc := 13) ok dX1_takeBack_13 fp1_21 rfl (by first | rfl | decide) (by first | rfl | decide) (Nat.le_of_ble_eq_true rfl) ?_
  refine AW.cast (M2 := mmS cnt 5 σ S) ?_ rfl rfl rfl
  refine a_aload_n (pc := 16) ok dX1_takeBack_16 rfl ?_
  refine a_aload_n (pc := 17) ok dX1_takeBack_17 rfl ?_
  refine a_getf (pc := 18) ok dX1_takeBack_18 fl1_11 rfl rfl ?_
  refine a_aload_n (pc := 21) ok dX1_takeBack_21 rfl ?_
  refine a_getf (pc := 22) ok dX1_takeBack_22 fl1_21 rfl rfl ?_
  refine a_aald (pc := 25) ok dX1_takeBack_25 rfl (by decide) (by first | omega | (unfold rg; omega) | (simp only [rg] at *; omega) | exact bz_rg _ | grind [rg]) rfl ?_
  refine a_callVv (pc := 26) ok [58, 59, 60, 61, 22, 23, 24, 25] dX1_takeBack_26 mv1_25 miX4_copyFrom (c_copyFrom) ⟨by decide, by decide, rfl, rfl, Nat.zero_le _, Nat.zero_le _⟩ rfl rfl (Nat.le_of_ble_eq_true rfl) rfl (by decide) rfl rfl rfl ?_
  refine AW.cast (M2 := mmS cnt 5 σ (σ 5)) ?_ rfl rfl rfl
  refine a_aload_n (pc := 29) ok dX1_takeBack_29 rfl ?_
  refine a_dup (pc := 30) ok dX1_takeBack_30 rfl ?_
  refine a_getf (pc := 31) ok dX1_takeBack_31 fl1_17 rfl rfl ?_
  refine a_iconst (pc := 34) ok dX1_takeBack_34 ?_
  refine a_isub (pc := 35) ok dX1_takeBack_35 ?_
  refine a_putf (pc := 36) ok dX1_takeBack_36 fp1_17 rfl (by first | rfl | decide) (by first | rfl | decide) (Nat.le_of_ble_eq_true rfl) ?_
  exact a_vret (pc := 39) ok dX1_takeBack_39 (⟨rfl, rfl⟩)
theorem c_remember_7 (hc : 0 ≤ cnt ∧ cnt ≤ 14) : Cd l yX1_remember cX1_remember 2 none rmX1_remember [.ref 0, .ref 58] (mmS cnt 7 σ S) none (mmS (min (cnt + 1) 14) ((7 + 1) % 14) (fun k => if k = 7 then S else σ k) S) := by
  refine Ct.of miX1_remember (Nat.le_of_ble_eq_true rfl) ?_
  intro X hXl hN ok
  refine AW.cast (L2 := [some (.ref 0), some (.ref 58)]) ?_ rfl rfl rfl
  refine a_aload_n (pc := 0) ok dX1_remember_0 rfl ?_
  refine a_getf (pc := 1) ok dX1_remember_1 fl1_11 rfl rfl ?_
  refine a_aload_n (pc := 4) ok dX1_remember_4 rfl ?_
  refine a_getf (pc := 5) ok dX1_remember_5 fl1_21 rfl rfl ?_
  refine a_aald (pc := 8) ok dX1_remember_8 rfl (by decide) (by first | omega | (unfold rg; omega) | (simp only [rg] at *; omega) | exact bz_rg _ | grind [rg]) rfl ?_
  refine a_aload_n (pc := 9) ok dX1_remember_9 rfl ?_
  refine a_callVv (pc := 10) ok [30, 31, 32, 33, 58, 59, 60, 61] dX1_remember_10 mv1_25 miX4_copyFrom (c_copyFrom) ⟨by decide, by decide, rfl, rfl, Nat.zero_le _, Nat.zero_le _⟩ rfl rfl (Nat.le_of_ble_eq_true rfl) rfl (by decide) rfl rfl rfl ?_
  refine AW.cast (M2 := mmS cnt 7 (fun k => if k = 7 then S else σ k) S) ?_ rfl rfl rfl
  refine a_aload_n (pc := 13) ok dX1_remember_13 rfl ?_
  refine a_aload_n (pc := 14) ok dX1_remember_14 rfl ?_
  refine a_getf (pc := 15) ok dX1_remember_15 fl1_21 rfl rfl ?_
  refine a_iconst (pc := 18) ok dX1_remember_18 ?_
  refine a_iadd (pc := 19) ok dX1_remember_19 ?_
  refine a_bipush (pc := 20) ok dX1_remember_20 (by decide) ?_
  refine a_irem (pc := 22) ok dX1_remember_22 (by first | omega | (unfold rg; omega) | (simp only [rg] at *; omega) | exact bz_rg _ | grind [rg]) (by first | omega | (unfold rg; omega) | (simp only [rg] at *; omega) | exact bz_rg _ | grind [rg]) ?_
  refine a_putf (pc := 23) ok dX1_remember_23 fp1_21 rfl (by first | rfl | decide) (by first | rfl | decide) (Nat.le_of_ble_eq_true rfl) ?_
  refine a_aload_n (pc := 26) ok dX1_remember_26 rfl ?_
  refine a_aload_n (pc := 27) ok dX1_remember_27 rfl ?_
  refine a_getf (pc := 28) ok dX1_remember_28 fl1_17 rfl rfl ?_
  refine a_iconst (pc := 31) ok dX1_remember_31 ?_
  refine a_iadd (pc := 32) ok dX1_remember_32 ?_
  refine a_bipush (pc := 33) ok dX1_remember_33 (by decide) ?_
  refine a_mmin (pc := 35) ok dX1_remember_35 (ug4 89 (by decide +kernel) rfl) ⟨by decide, by decide, Nat.zero_le _, Nat.zero_le _⟩ (Nat.le_of_ble_eq_true rfl) (by first | omega | (unfold rg; omega) | (simp only [rg] at *; omega) | exact bz_rg _ | grind [rg]) (by first | omega | (unfold rg; omega) | (simp only [rg] at *; omega) | exact bz_rg _ | grind [rg]) ?_
  refine a_putf (pc := 38) ok dX1_remember_38 fp1_17 rfl (by first | rfl | decide) (by first | rfl | decide) (Nat.le_of_ble_eq_true rfl) ?_
  exact a_vret (pc := 41) ok dX1_remember_41 (⟨rfl, rfl⟩)
theorem c_takeBack_7 (hc : 1 ≤ cnt ∧ cnt ≤ 14) : Cd l yX1_takeBack cX1_takeBack 2 none rmX1_takeBack [.ref 0, .ref 58] (mmS cnt 7 σ S) none (mmS (cnt - 1) ((7 + 14 - 1) % 14) σ (σ 6)) := by
  refine Ct.of miX1_takeBack (Nat.le_of_ble_eq_true rfl) ?_
  intro X hXl hN ok
  refine AW.cast (L2 := [some (.ref 0), some (.ref 58)]) ?_ rfl rfl rfl
  refine a_aload_n (pc := 0) ok dX1_takeBack_0 rfl ?_
  refine a_aload_n (pc := 1) ok dX1_takeBack_1 rfl ?_
  refine a_getf (pc := 2) ok dX1_takeBack_2 fl1_21 rfl rfl ?_
  refine a_bipush (pc := 5) ok dX1_takeBack_5 (by decide) ?_
  refine a_iadd (pc := 7) ok dX1_takeBack_7 ?_
  refine a_iconst (pc := 8) ok dX1_takeBack_8 ?_
  refine a_isub (pc := 9) ok dX1_takeBack_9 ?_
  refine a_bipush (pc := 10) ok dX1_takeBack_10 (by decide) ?_
  refine a_irem (pc := 12) ok dX1_takeBack_12 (by first | omega | (unfold rg; omega) | (simp only [rg] at *; omega) | exact bz_rg _ | grind [rg]) (by first | omega | (unfold rg; omega) | (simp only [rg] at *; omega) | exact bz_rg _ | grind [rg]) ?_
  refine a_putf (pc := 13) ok dX1_takeBack_13 fp1_21 rfl (by first | rfl | decide) (by first | rfl | decide) (Nat.le_of_ble_eq_true rfl) ?_
  refine AW.cast (M2 := mmS cnt 6 σ S) ?_ rfl rfl rfl
  refine a_aload_n (pc := 16) ok dX1_takeBack_16 rfl ?_
  refine a_aload_n (pc := 17) ok dX1_takeBack_17 rfl ?_
  refine a_getf (pc := 18) ok dX1_takeBack_18 fl1_11 rfl rfl ?_
  refine a_aload_n (pc := 21) ok dX1_takeBack_21 rfl ?_
  refine a_getf (pc := 22) ok dX1_takeBack_22 fl1_21 rfl rfl ?_
  refine a_aald (pc := 25) ok dX1_takeBack_25 rfl (by decide) (by first | omega | (unfold rg; omega) | (simp only [rg] at *; omega) | exact bz_rg _ | grind [rg]) rfl ?_
  refine a_callVv (pc := 26) ok [58, 59, 60, 61, 26, 27, 28, 29] dX1_takeBack_26 mv1_25 miX4_copyFrom (c_copyFrom) ⟨by decide, by decide, rfl, rfl, Nat.zero_le _, Nat.zero_le _⟩ rfl rfl (Nat.le_of_ble_eq_true rfl) rfl (by decide) rfl rfl rfl ?_
  refine AW.cast (M2 := mmS cnt 6 σ (σ 6)) ?_ rfl rfl rfl
  refine a_aload_n (pc := 29) ok dX1_takeBack_29 rfl ?_
  refine a_dup (pc := 30) ok dX1_takeBack_30 rfl ?_
  refine a_getf (pc := 31) ok dX1_takeBack_31 fl1_17 rfl rfl ?_
  refine a_iconst (pc := 34) ok dX1_takeBack_34 ?_
  refine a_isub (pc := 35) ok dX1_takeBack_35 ?_
  refine a_putf (pc := 36) ok dX1_takeBack_36 fp1_17 rfl (by first | rfl | decide) (by first | rfl | decide) (Nat.le_of_ble_eq_true rfl) ?_
  exact a_vret (pc := 39) ok dX1_takeBack_39 (⟨rfl, rfl⟩)
theorem c_remember_8 (hc : 0 ≤ cnt ∧ cnt ≤ 14) : Cd l yX1_remember cX1_remember 2 none rmX1_remember [.ref 0, .ref 58] (mmS cnt 8 σ S) none (mmS (min (cnt + 1) 14) ((8 + 1) % 14) (fun k => if k = 8 then S else σ k) S) := by
  refine Ct.of miX1_remember (Nat.le_of_ble_eq_true rfl) ?_
  intro X hXl hN ok
  refine AW.cast (L2 := [some (.ref 0), some (.ref 58)]) ?_ rfl rfl rfl
  refine a_aload_n (pc := 0) ok dX1_remember_0 rfl ?_
  refine a_getf (pc := 1) ok dX1_remember_1 fl1_11 rfl rfl ?_
  refine a_aload_n (pc := 4) ok dX1_remember_4 rfl ?_
  refine a_getf (pc := 5) ok dX1_remember_5 fl1_21 rfl rfl ?_
  refine a_aald (pc := 8) ok dX1_remember_8 rfl (by decide) (by first | omega | (unfold rg; omega) | (simp only [rg] at *; omega) | exact bz_rg _ | grind [rg]) rfl ?_
  refine a_aload_n (pc := 9) ok dX1_remember_9 rfl ?_
  refine a_callVv (pc := 10) ok [34, 35, 36, 37, 58, 59, 60, 61] dX1_remember_10 mv1_25 miX4_copyFrom (c_copyFrom) ⟨by decide, by decide, rfl, rfl, Nat.zero_le _, Nat.zero_le _⟩ rfl rfl (Nat.le_of_ble_eq_true rfl) rfl (by decide) rfl rfl rfl ?_
  refine AW.cast (M2 := mmS cnt 8 (fun k => if k = 8 then S else σ k) S) ?_ rfl rfl rfl
  refine a_aload_n (pc := 13) ok dX1_remember_13 rfl ?_
  refine a_aload_n (pc := 14) ok dX1_remember_14 rfl ?_
  refine a_getf (pc := 15) ok dX1_remember_15 fl1_21 rfl rfl ?_
  refine a_iconst (pc := 18) ok dX1_remember_18 ?_
  refine a_iadd (pc := 19) ok dX1_remember_19 ?_
  refine a_bipush (pc := 20) ok dX1_remember_20 (by decide) ?_
  refine a_irem (pc := 22) ok dX1_remember_22 (by first | omega | (unfold rg; omega) | (simp only [rg] at *; omega) | exact bz_rg _ | grind [rg]) (by first | omega | (unfold rg; omega) | (simp only [rg] at *; omega) | exact bz_rg _ | grind [rg]) ?_
  refine a_putf (pc := 23) ok dX1_remember_23 fp1_21 rfl (by first | rfl | decide) (by first | rfl | decide) (Nat.le_of_ble_eq_true rfl) ?_
  refine a_aload_n (pc := 26) ok dX1_remember_26 rfl ?_
  refine a_aload_n (pc := 27) ok dX1_remember_27 rfl ?_
  refine a_getf (pc := 28) ok dX1_remember_28 fl1_17 rfl rfl ?_
  refine a_iconst (pc := 31) ok dX1_remember_31 ?_
  refine a_iadd (pc := 32) ok dX1_remember_32 ?_
  refine a_bipush (pc := 33) ok dX1_remember_33 (by decide) ?_
  refine a_mmin (pc := 35) ok dX1_remember_35 (ug4 89 (by decide +kernel) rfl) ⟨by decide, by decide, Nat.zero_le _, Nat.zero_le _⟩ (Nat.le_of_ble_eq_true rfl) (by first | omega | (unfold rg; omega) | (simp only [rg] at *; omega) | exact bz_rg _ | grind [rg]) (by first | omega | (unfold rg; omega) | (simp only [rg] at *; omega) | exact bz_rg _ | grind [rg]) ?_
  refine a_putf (pc := 38) ok dX1_remember_38 fp1_17 rfl (by first | rfl | decide) (by first | rfl | decide) (Nat.le_of_ble_eq_true rfl) ?_
  exact a_vret (pc := 41) ok dX1_remember_41 (⟨rfl, rfl⟩)
theorem c_takeBack_8 (hc : 1 ≤ cnt ∧ cnt ≤ 14) : Cd l yX1_takeBack cX1_takeBack 2 none rmX1_takeBack [.ref 0, .ref 58] (mmS cnt 8 σ S) none (mmS (cnt - 1) ((8 + 14 - 1) % 14) σ (σ 7)) := by
  refine Ct.of miX1_takeBack (Nat.le_of_ble_eq_true rfl) ?_
  intro X hXl hN ok
  refine AW.cast (L2 := [some (.ref 0), some (.ref 58)]) ?_ rfl rfl rfl
  refine a_aload_n (pc := 0) ok dX1_takeBack_0 rfl ?_
  refine a_aload_n (pc := 1) ok dX1_takeBack_1 rfl ?_
  refine a_getf (pc := 2) ok dX1_takeBack_2 fl1_21 rfl rfl ?_
  refine a_bipush (pc := 5) ok dX1_takeBack_5 (by decide) ?_
  refine a_iadd (pc := 7) ok dX1_takeBack_7 ?_
  refine a_iconst (pc := 8) ok dX1_takeBack_8 ?_
  refine a_isub (pc := 9) ok dX1_takeBack_9 ?_
  refine a_bipush (pc := 10) ok dX1_takeBack_10 (by decide) ?_
  refine a_irem (pc := 12) ok dX1_takeBack_12 (by first | omega | (unfold rg; omega) | (simp only [rg] at *; omega) | exact bz_rg _ | grind [rg]) (by first | omega | (unfold rg; omega) | (simp only [rg] at *; omega) | exact bz_rg _ | grind [rg]) ?_
  refine a_putf (pc := 13) ok dX1_takeBack_13 fp1_21 rfl (by first | rfl | decide) (by first | rfl | decide) (Nat.le_of_ble_eq_true rfl) ?_
  refine AW.cast (M2 := mmS cnt 7 σ S) ?_ rfl rfl rfl
  refine a_aload_n (pc := 16) ok dX1_takeBack_16 rfl ?_
  refine a_aload_n (pc := 17) ok dX1_takeBack_17 rfl ?_
  refine a_getf (pc := 18) ok dX1_takeBack_18 fl1_11 rfl rfl ?_
  refine a_aload_n (pc := 21) ok dX1_takeBack_21 rfl ?_
  refine a_getf (pc := 22) ok dX1_takeBack_22 fl1_21 rfl rfl ?_
  refine a_aald (pc := 25) ok dX1_takeBack_25 rfl (by decide) (by first | omega | (unfold rg; omega) | (simp only [rg] at *; omega) | exact bz_rg _ | grind [rg]) rfl ?_
  refine a_callVv (pc := 26) ok [58, 59, 60, 61, 30, 31, 32, 33] dX1_takeBack_26 mv1_25 miX4_copyFrom (c_copyFrom) ⟨by decide, by decide, rfl, rfl, Nat.zero_le _, Nat.zero_le _⟩ rfl rfl (Nat.le_of_ble_eq_true rfl) rfl (by decide) rfl rfl rfl ?_
  refine AW.cast (M2 := mmS cnt 7 σ (σ 7)) ?_ rfl rfl rfl
  refine a_aload_n (pc := 29) ok dX1_takeBack_29 rfl ?_
  refine a_dup (pc := 30) ok dX1_takeBack_30 rfl ?_
  refine a_getf (pc := 31) ok dX1_takeBack_31 fl1_17 rfl rfl ?_
  refine a_iconst (pc := 34) ok dX1_takeBack_34 ?_
  refine a_isub (pc := 35) ok dX1_takeBack_35 ?_
  refine a_putf (pc := 36) ok dX1_takeBack_36 fp1_17 rfl (by first | rfl | decide) (by first | rfl | decide) (Nat.le_of_ble_eq_true rfl) ?_
  exact a_vret (pc := 39) ok dX1_takeBack_39 (⟨rfl, rfl⟩)
theorem c_remember_9 (hc : 0 ≤ cnt ∧ cnt ≤ 14) : Cd l yX1_remember cX1_remember 2 none rmX1_remember [.ref 0, .ref 58] (mmS cnt 9 σ S) none (mmS (min (cnt + 1) 14) ((9 + 1) % 14) (fun k => if k = 9 then S else σ k) S) := by
  refine Ct.of miX1_remember (Nat.le_of_ble_eq_true rfl) ?_
  intro X hXl hN ok
  refine AW.cast (L2 := [some (.ref 0), some (.ref 58)]) ?_ rfl rfl rfl
  refine a_aload_n (pc := 0) ok dX1_remember_0 rfl ?_
  refine a_getf (pc := 1) ok dX1_remember_1 fl1_11 rfl rfl ?_
  refine a_aload_n (pc := 4) ok dX1_remember_4 rfl ?_
  refine a_getf (pc := 5) ok dX1_remember_5 fl1_21 rfl rfl ?_
  refine a_aald (pc := 8) ok dX1_remember_8 rfl (by decide) (by first | omega | (unfold rg; omega) | (simp only [rg] at *; omega) | exact bz_rg _ | grind [rg]) rfl ?_
  refine a_aload_n (pc := 9) ok dX1_remember_9 rfl ?_
  refine a_callVv (pc := 10) ok [38, 39, 40, 41, 58, 59, 60, 61] dX1_remember_10 mv1_25 miX4_copyFrom (c_copyFrom) ⟨by decide, by decide, rfl, rfl, Nat.zero_le _, Nat.zero_le _⟩ rfl rfl (Nat.le_of_ble_eq_true rfl) rfl (by decide) rfl rfl rfl ?_
  refine AW.cast (M2 := mmS cnt 9 (fun k => if k = 9 then S else σ k) S) ?_ rfl rfl rfl
  refine a_aload_n (pc := 13) ok dX1_remember_13 rfl ?_
  refine a_aload_n (pc := 14) ok dX1_remember_14 rfl ?_
  refine a_getf (pc := 15) ok dX1_remember_15 fl1_21 rfl rfl ?_
  refine a_iconst (pc := 18) ok dX1_remember_18 ?_
  refine a_iadd (pc := 19) ok dX1_remember_19 ?_
  refine a_bipush (pc := 20) ok dX1_remember_20 (by decide) ?_
  refine a_irem (pc := 22) ok dX1_remember_22 (by first | omega | (unfold rg; omega) | (simp only [rg] at *; omega) | exact bz_rg _ | grind [rg]) (by first | omega | (unfold rg; omega) | (simp only [rg] at *; omega) | exact bz_rg _ | grind [rg]) ?_
  refine a_putf (pc := 23) ok dX1_remember_23 fp1_21 rfl (by first | rfl | decide) (by first | rfl | decide) (Nat.le_of_ble_eq_true rfl) ?_
  refine a_aload_n (pc := 26) ok dX1_remember_26 rfl ?_
  refine a_aload_n (pc := 27) ok dX1_remember_27 rfl ?_
  refine a_getf (pc := 28) ok dX1_remember_28 fl1_17 rfl rfl ?_
  refine a_iconst (pc := 31) ok dX1_remember_31 ?_
  refine a_iadd (pc := 32) ok dX1_remember_32 ?_
  refine a_bipush (pc := 33) ok dX1_remember_33 (by decide) ?_
  refine a_mmin (pc := 35) ok dX1_remember_35 (ug4 89 (by decide +kernel) rfl) ⟨by decide, by decide, Nat.zero_le _, Nat.zero_le _⟩ (Nat.le_of_ble_eq_true rfl) (by first | omega | (unfold rg; omega) | (simp only [rg] at *; omega) | exact bz_rg _ | grind [rg]) (by first | omega | (unfold rg; omega) | (simp only [rg] at *; omega) | exact bz_rg _ | grind [rg]) ?_
  refine a_putf (pc := 38) ok dX1_remember_38 fp1_17 rfl (by first | rfl | decide) (by first | rfl | decide) (Nat.le_of_ble_eq_true rfl) ?_
  exact a_vret (pc := 41) ok dX1_remember_41 (⟨rfl, rfl⟩)
theorem c_takeBack_9 (hc : 1 ≤ cnt ∧ cnt ≤ 14) : Cd l yX1_takeBack cX1_takeBack 2 none rmX1_takeBack [.ref 0, .ref 58] (mmS cnt 9 σ S) none (mmS (cnt - 1) ((9 + 14 - 1) % 14) σ (σ 8)) := by
  refine Ct.of miX1_takeBack (Nat.le_of_ble_eq_true rfl) ?_
  intro X hXl hN ok
  refine AW.cast (L2 := [some (.ref 0), some (.ref 58)]) ?_ rfl rfl rfl
  refine a_aload_n (pc := 0) ok dX1_takeBack_0 rfl ?_
  refine a_aload_n (pc := 1) ok dX1_takeBack_1 rfl ?_
  refine a_getf (pc := 2) ok dX1_takeBack_2 fl1_21 rfl rfl ?_
  refine a_bipush (pc := 5) ok dX1_takeBack_5 (by decide) ?_
  refine a_iadd (pc := 7) ok dX1_takeBack_7 ?_
  refine a_iconst (pc := 8) ok dX1_takeBack_8 ?_
  refine a_isub (pc := 9) ok dX1_takeBack_9 ?_
  refine a_bipush (pc := 10) ok dX1_takeBack_10 (by decide) ?_
  refine a_irem (pc := 12) ok dX1_takeBack_12 (by first | omega | (unfold rg; omega) | (simp only [rg] at *; omega) | exact bz_rg _ | grind [rg]) (by first | omega | (unfold rg; omega) | (simp only [rg] at *; omega) | exact bz_rg _ | grind [rg]) ?_
  refine a_putf (pc := 13) ok dX1_takeBack_13 fp1_21 rfl (by first | rfl | decide) (by first | rfl | decide) (Nat.le_of_ble_eq_true rfl) ?_
  refine AW.cast (M2 := mmS cnt 8 σ S) ?_ rfl rfl rfl
  refine a_aload_n (pc := 16) ok dX1_takeBack_16 rfl ?_
  refine a_aload_n (pc := 17) ok dX1_takeBack_17 rfl ?_
  refine a_getf (pc := 18) ok dX1_takeBack_18 fl1_11 rfl rfl ?_
  refine a_aload_n (pc := 21) ok dX1_takeBack_21 rfl ?_
  refine a_getf (pc := 22) ok dX1_takeBack_22 fl1_21 rfl rfl ?_
  refine a_aald (pc := 25) ok dX1_takeBack_25 rfl (by decide) (by first | omega | (unfold rg; omega) | (simp only [rg] at *; omega) | exact bz_rg _ | grind [rg]) rfl ?_
  refine a_callVv (pc := 26) ok [58, 59, 60, 61, 34, 35, 36, 37] dX1_takeBack_26 mv1_25 miX4_copyFrom (c_copyFrom) ⟨by decide, by decide, rfl, rfl, Nat.zero_le _, Nat.zero_le _⟩ rfl rfl (Nat.le_of_ble_eq_true rfl) rfl (by decide) rfl rfl rfl ?_
  refine AW.cast (M2 := mmS cnt 8 σ (σ 8)) ?_ rfl rfl rfl
  refine a_aload_n (pc := 29) ok dX1_takeBack_29 rfl ?_
  refine a_dup (pc := 30) ok dX1_takeBack_30 rfl ?_
  refine a_getf (pc := 31) ok dX1_takeBack_31 fl1_17 rfl rfl ?_
  refine a_iconst (pc := 34) ok dX1_takeBack_34 ?_
  refine a_isub (pc := 35) ok dX1_takeBack_35 ?_
  refine a_putf (pc := 36) ok dX1_takeBack_36 fp1_17 rfl (by first | rfl | decide) (by first | rfl | decide) (Nat.le_of_ble_eq_true rfl) ?_
  exact a_vret (pc := 39) ok dX1_takeBack_39 (⟨rfl, rfl⟩)
theorem c_remember_10 (hc : 0 ≤ cnt ∧ cnt ≤ 14) : Cd l yX1_remember cX1_remember 2 none rmX1_remember [.ref 0, .ref 58] (mmS cnt 10 σ S) none (mmS (min (cnt + 1) 14) ((10 + 1) % 14) (fun k => if k = 10 then S else σ k) S) := by
  refine Ct.of miX1_remember (Nat.le_of_ble_eq_true rfl) ?_
  intro X hXl hN ok
  refine AW.cast (L2 := [some (.ref 0), some (.ref 58)]) ?_ rfl rfl rfl
  refine a_aload_n (pc := 0) ok dX1_remember_0 rfl ?_
  refine a_getf (pc := 1) ok dX1_remember_1 fl1_11 rfl rfl ?_
  refine a_aload_n (pc := 4) ok dX1_remember_4 rfl ?_
  refine a_getf (pc := 5) ok dX1_remember_5 fl1_21 rfl rfl ?_
  refine a_aald (pc := 8) ok dX1_remember_8 rfl (by decide) (by first | omega | (unfold rg; omega) | (simp only [rg] at *; omega) | exact bz_rg _ | grind [rg]) rfl ?_
  refine a_aload_n (pc := 9) ok dX1_remember_9 rfl ?_
  refine a_callVv (pc := 10) ok [42, 43, 44, 45, 58, 59, 60, 61] dX1_remember_10 mv1_25 miX4_copyFrom (c_copyFrom) ⟨by decide, by decide, rfl, rfl, Nat.zero_le _, Nat.zero_le _⟩ rfl rfl (Nat.le_of_ble_eq_true rfl) rfl (by decide) rfl rfl rfl ?_
  refine AW.cast (M2 := mmS cnt 10 (fun k => if k = 10 then S else σ k) S) ?_ rfl rfl rfl
  refine a_aload_n (pc := 13) ok dX1_remember_13 rfl ?_
  refine a_aload_n (pc := 14) ok dX1_remember_14 rfl ?_
  refine a_getf (pc := 15) ok dX1_remember_15 fl1_21 rfl rfl ?_
  refine a_iconst (pc := 18) ok dX1_remember_18 ?_
  refine a_iadd (pc := 19) ok dX1_remember_19 ?_
  refine a_bipush (pc := 20) ok dX1_remember_20 (by decide) ?_
  refine a_irem (pc := 22) ok dX1_remember_22 (by first | omega | (unfold rg; omega) | (simp only [rg] at *; omega) | exact bz_rg _ | grind [rg]) (by first | omega | (unfold rg; omega) | (simp only [rg] at *; omega) | exact bz_rg _ | grind [rg]) ?_
  refine a_putf (pc := 23) ok dX1_remember_23 fp1_21 rfl (by first | rfl | decide) (by first | rfl | decide) (Nat.le_of_ble_eq_true rfl) ?_
  refine a_aload_n (pc := 26) ok dX1_remember_26 rfl ?_
  refine a_aload_n (pc := 27) ok dX1_remember_27 rfl ?_
  refine a_getf (pc := 28) ok dX1_remember_28 fl1_17 rfl rfl ?_
  refine a_iconst (pc := 31) ok dX1_remember_31 ?_
  refine a_iadd (pc := 32) ok dX1_remember_32 ?_
  refine a_bipush (pc := 33) ok dX1_remember_33 (by decide) ?_
  refine a_mmin (pc := 35) ok dX1_remember_35 (ug4 89 (by decide +kernel) rfl) ⟨by decide, by decide, Nat.zero_le _, Nat.zero_le _⟩ (Nat.le_of_ble_eq_true rfl) (by first | omega | (unfold rg; omega) | (simp only [rg] at *; omega) | exact bz_rg _ | grind [rg]) (by first | omega | (unfold rg; omega) | (simp only [rg] at *; omega) | exact bz_rg _ | grind [rg]) ?_
  refine a_putf (pc := 38) ok dX1_remember_38 fp1_17 rfl (by first | rfl | decide) (by first | rfl | decide) (Nat.le_of_ble_eq_true rfl) ?_
  exact a_vret (pc := 41) ok dX1_remember_41 (⟨rfl, rfl⟩)
theorem c_takeBack_10 (hc : 1 ≤ cnt ∧ cnt ≤ 14) : Cd l yX1_takeBack cX1_takeBack 2 none rmX1_takeBack [.ref 0, .ref 58] (mmS cnt 10 σ S) none (mmS (cnt - 1) ((10 + 14 - 1) % 14) σ (σ 9)) := by
  refine Ct.of miX1_takeBack (Nat.le_of_ble_eq_true rfl) ?_
  intro X hXl hN ok
  refine AW.cast (L2 := [some (.ref 0), some (.ref 58)]) ?_ rfl rfl rfl
  refine a_aload_n (pc := 0) ok dX1_takeBack_0 rfl ?_
  refine a_aload_n (pc := 1) ok dX1_takeBack_1 rfl ?_
  refine a_getf (pc := 2) ok dX1_takeBack_2 fl1_21 rfl rfl ?_
  refine a_bipush (pc := 5) ok dX1_takeBack_5 (by decide) ?_
  refine a_iadd (pc := 7) ok dX1_takeBack_7 ?_
  refine a_iconst (pc := 8) ok dX1_takeBack_8 ?_
  refine a_isub (pc := 9) ok dX1_takeBack_9 ?_
  refine a_bipush (pc := 10) ok dX1_takeBack_10 (by decide) ?_
  refine a_irem (pc := 12) ok dX1_takeBack_12 (by first | omega | (unfold rg; omega) | (simp only [rg] at *; omega) | exact bz_rg _ | grind [rg]) (by first | omega | (unfold rg; omega) | (simp only [rg] at *; omega) | exact bz_rg _ | grind [rg]) ?_
  refine a_putf (pc := 13) ok dX1_takeBack_13 fp1_21 rfl (by first | rfl | decide) (by first | rfl | decide) (Nat.le_of_ble_eq_true rfl) ?_
  refine AW.cast (M2 := mmS cnt 9 σ S) ?_ rfl rfl rfl
  refine a_aload_n (pc := 16) ok dX1_takeBack_16 rfl ?_
  refine a_aload_n (pc := 17) ok dX1_takeBack_17 rfl ?_
  refine a_getf (pc := 18) ok dX1_takeBack_18 fl1_11 rfl rfl ?_
  refine a_aload_n (pc := 21) ok dX1_takeBack_21 rfl ?_
  refine a_getf (pc := 22) ok dX1_takeBack_22 fl1_21 rfl rfl ?_
  refine a_aald (pc := 25) ok dX1_takeBack_25 rfl (by decide) (by first | omega | (unfold rg; omega) | (simp only [rg] at *; omega) | exact bz_rg _ | grind [rg]) rfl ?_
  refine a_callVv (pc := 26) ok [58, 59, 60, 61, 38, 39, 40, 41] dX1_takeBack_26 mv1_25 miX4_copyFrom (c_copyFrom) ⟨by decide, by decide, rfl, rfl, Nat.zero_le _, Nat.zero_le _⟩ rfl rfl (Nat.le_of_ble_eq_true rfl) rfl (by decide) rfl rfl rfl ?_
  refine AW.cast (M2 := mmS cnt 9 σ (σ 9)) ?_ rfl rfl rfl
  refine a_aload_n (pc := 29) ok dX1_takeBack_29 rfl ?_
  refine a_dup (pc := 30) ok dX1_takeBack_30 rfl ?_
  refine a_getf (pc := 31) ok dX1_takeBack_31 fl1_17 rfl rfl ?_
  refine a_iconst (pc := 34) ok dX1_takeBack_34 ?_
  refine a_isub (pc := 35) ok dX1_takeBack_35 ?_
  refine a_putf (pc := 36) ok dX1_takeBack_36 fp1_17 rfl (by first | rfl | decide) (by first | rfl | decide) (Nat.le_of_ble_eq_true rfl) ?_
  exact a_vret (pc := 39) ok dX1_takeBack_39 (⟨rfl, rfl⟩)
theorem c_remember_11 (hc : 0 ≤ cnt ∧ cnt ≤ 14) : Cd l yX1_remember cX1_remember 2 none rmX1_remember [.ref 0, .ref 58] (mmS cnt 11 σ S) none (mmS (min (cnt + 1) 14) ((11 + 1) % 14) (fun k => if k = 11 then S else σ k) S) := by
  refine Ct.of miX1_remember (Nat.le_of_ble_eq_true rfl) ?_
  intro X hXl hN ok
  refine AW.cast (L2 := [some (.ref 0), some (.ref 58)]) ?_ rfl rfl rfl
  refine a_aload_n (pc := 0) ok dX1_remember_0 rfl ?_
  refine a_getf (pc := 1) ok dX1_remember_1 fl1_11 rfl rfl ?_
  refine a_aload_n (pc := 4) ok dX1_remember_4 rfl ?_
  refine a_getf (pc := 5) ok dX1_remember_5 fl1_21 rfl rfl ?_
  refine a_aald (pc := 8) ok dX1_remember_8 rfl (by decide) (by first | omega | (unfold rg; omega) | (simp only [rg] at *; omega) | exact bz_rg _ | grind [rg]) rfl ?_
  refine a_aload_n (pc := 9) ok dX1_remember_9 rfl ?_
  refine a_callVv (pc := 10) ok [46, 47, 48, 49, 58, 59, 60, 61] dX1_remember_10 mv1_25 miX4_copyFrom (c_copyFrom) ⟨by decide, by decide, rfl, rfl, Nat.zero_le _, Nat.zero_le _⟩ rfl rfl (Nat.le_of_ble_eq_true rfl) rfl (by decide) rfl rfl rfl ?_
  refine AW.cast (M2 := mmS cnt 11 (fun k => if k = 11 then S else σ k) S) ?_ rfl rfl rfl
  refine a_aload_n (pc := 13) ok dX1_remember_13 rfl ?_
  refine a_aload_n (pc := 14) ok dX1_remember_14 rfl ?_
  refine a_getf (pc := 15) ok dX1_remember_15 fl1_21 rfl rfl ?_
  refine a_iconst (pc := 18) ok dX1_remember_18 ?_
  refine a_iadd (pc := 19) ok dX1_remember_19 ?_
  refine a_bipush (pc := 20) ok dX1_remember_20 (by decide) ?_
  refine a_irem (pc := 22) ok dX1_remember_22 (by first | omega | (unfold rg; omega) | (simp only [rg] at *; omega) | exact bz_rg _ | grind [rg]) (by first | omega | (unfold rg; omega) | (simp only [rg] at *; omega) | exact bz_rg _ | grind [rg]) ?_
  refine a_putf (pc := 23) ok dX1_remember_23 fp1_21 rfl (by first | rfl | decide) (by first | rfl | decide) (Nat.le_of_ble_eq_true rfl) ?_
  refine a_aload_n (pc := 26) ok dX1_remember_26 rfl ?_
  refine a_aload_n (pc := 27) ok dX1_remember_27 rfl ?_
  refine a_getf (pc := 28) ok dX1_remember_28 fl1_17 rfl rfl ?_
  refine a_iconst (pc := 31) ok dX1_remember_31 ?_
  refine a_iadd (pc := 32) ok dX1_remember_32 ?_
  refine a_bipush (pc := 33) ok dX1_remember_33 (by decide) ?_
  refine a_mmin (pc := 35) ok dX1_remember_35 (ug4 89 (by decide +kernel) rfl) ⟨by decide, by decide, Nat.zero_le _, Nat.zero_le _⟩ (Nat.le_of_ble_eq_true rfl) (by first | omega | (unfold rg; omega) | (simp only [rg] at *; omega) | exact bz_rg _ | grind [rg]) (by first | omega | (unfold rg; omega) | (simp only [rg] at *; omega) | exact bz_rg _ | grind [rg]) ?_
  refine a_putf (pc := 38) ok dX1_remember_38 fp1_17 rfl (by first | rfl | decide) (by first | rfl | decide) (Nat.le_of_ble_eq_true rfl) ?_
  exact a_vret (pc := 41) ok dX1_remember_41 (⟨rfl, rfl⟩)
theorem c_takeBack_11 (hc : 1 ≤ cnt ∧ cnt ≤ 14) : Cd l yX1_takeBack cX1_takeBack 2 none rmX1_takeBack [.ref 0, .ref 58] (mmS cnt 11 σ S) none (mmS (cnt - 1) ((11 + 14 - 1) % 14) σ (σ 10)) := by
  refine Ct.of miX1_takeBack (Nat.le_of_ble_eq_true rfl) ?_
  intro X hXl hN ok
  refine AW.cast (L2 := [some (.ref 0), some (.ref 58)]) ?_ rfl rfl rfl
  refine a_aload_n (pc := 0) ok dX1_takeBack_0 rfl ?_
  refine a_aload_n (pc := 1) ok dX1_takeBack_1 rfl ?_
  refine a_getf (pc := 2) ok dX1_takeBack_2 fl1_21 rfl rfl ?_
  refine a_bipush (pc := 5) ok dX1_takeBack_5 (by decide) ?_
  refine a_iadd (pc := 7) ok dX1_takeBack_7 ?_
  refine a_iconst (pc := 8) ok dX1_takeBack_8 ?_
  refine a_isub (pc := 9) ok dX1_takeBack_9 ?_
  refine a_bipush (pc := 10) ok dX1_takeBack_10 (by decide) ?_
  refine a_irem (pc := 12) ok dX1_takeBack_12 (by first | omega | (unfold rg; omega) | (simp only [rg] at *; omega) | exact bz_rg _ | grind [rg]) (by first | omega | (unfold rg; omega) | (simp only [rg] at *; omega) | exact bz_rg _ | grind [rg]) ?_
  refine a_putf (pc := 13) ok dX1_takeBack_13 fp1_21 rfl (by first | rfl | decide) (by first | rfl | decide) (Nat.le_of_ble_eq_true rfl) ?_
  refine AW.cast (M2 := mmS cnt 10 σ S) ?_ rfl rfl rfl
  refine a_aload_n (pc := 16) ok dX1_takeBack_16 rfl ?_
  refine a_aload_n (pc := 17) ok dX1_takeBack_17 rfl ?_
  refine a_getf (pc := 18) ok dX1_takeBack_18 fl1_11 rfl rfl ?_
  refine a_aload_n (pc := 21) ok dX1_takeBack_21 rfl ?_
  refine a_getf (pc := 22) ok dX1_takeBack_22 fl1_21 rfl rfl ?_
  refine a_aald (pc := 25) ok dX1_takeBack_25 rfl (by decide) (by first | omega | (unfold rg; omega) | (simp only [rg] at *; omega) | exact bz_rg _ | grind [rg]) rfl ?_
  refine a_callVv (pc := 26) ok [58, 59, 60, 61, 42, 43, 44, 45] dX1_takeBack_26 mv1_25 miX4_copyFrom (c_copyFrom) ⟨by decide, by decide, rfl, rfl, Nat.zero_le _, Nat.zero_le _⟩ rfl rfl (Nat.le_of_ble_eq_true rfl) rfl (by decide) rfl rfl rfl ?_
  refine AW.cast (M2 := mmS cnt 10 σ (σ 10)) ?_ rfl rfl rfl
  refine a_aload_n (pc := 29) ok dX1_takeBack_29 rfl ?_
  refine a_dup (pc := 30) ok dX1_takeBack_30 rfl ?_
  refine a_getf (pc := 31) ok dX1_takeBack_31 fl1_17 rfl rfl ?_
  refine a_iconst (pc := 34) ok dX1_takeBack_34 ?_
  refine a_isub (pc := 35) ok dX1_takeBack_35 ?_
  refine a_putf (pc := 36) ok dX1_takeBack_36 fp1_17 rfl (by first | rfl | decide) (by first | rfl | decide) (Nat.le_of_ble_eq_true rfl) ?_
  exact a_vret (pc := 39) ok dX1_takeBack_39 (⟨rfl, rfl⟩)
theorem c_remember_12 (hc : 0 ≤ cnt ∧ cnt ≤ 14) : Cd l yX1_remember cX1_remember 2 none rmX1_remember [.ref 0, .ref 58] (mmS cnt 12 σ S) none (mmS (min (cnt + 1) 14) ((12 + 1) % 14) (fun k => if k = 12 then S else σ k) S) := by
  refine Ct.of miX1_remember (Nat.le_of_ble_eq_true rfl) ?_
  intro X hXl hN ok
  refine AW.cast (L2 := [some (.ref 0), some (.ref 58)]) ?_ rfl rfl rfl
  refine a_aload_n (pc := 0) ok dX1_remember_0 rfl ?_
  refine a_getf (pc := 1) ok dX1_remember_1 fl1_11 rfl rfl ?_
  refine a_aload_n (pc := 4) ok dX1_remember_4 rfl ?_
  refine a_getf (pc := 5) ok dX1_remember_5 fl1_21 rfl rfl ?_
  refine a_aald (pc := 8) ok dX1_remember_8 rfl (by decide) (by first | omega | (unfold rg; omega) | (simp only [rg] at *; omega) | exact bz_rg _ | grind [rg]) rfl ?_
  refine a_aload_n (pc := 9) ok dX1_remember_9 rfl ?_
  refine a_callVv (pc := 10) ok [50, 51, 52, 53, 58, 59, 60, 61] dX1_remember_10 mv1_25 miX4_copyFrom (c_copyFrom) ⟨by decide, by decide, rfl, rfl, Nat.zero_le _, Nat.zero_le _⟩ rfl rfl (Nat.le_of_ble_eq_true rfl) rfl (by decide) rfl rfl rfl ?_
  refine AW.cast (M2 := mmS cnt 12 (fun k => if k = 12 then S else σ k) S) ?_ rfl rfl rfl
  refine a_aload_n (pc := 13) ok dX1_remember_13 rfl ?_
  refine a_aload_n (pc := 14) ok dX1_remember_14 rfl ?_
  refine a_getf (pc := 15) ok dX1_remember_15 fl1_21 rfl rfl ?_
  refine a_iconst (pc := 18) ok dX1_remember_18 ?_
  refine a_iadd (pc := 19) ok dX1_remember_19 ?_
  refine a_bipush (pc := 20) ok dX1_remember_20 (by decide) ?_
  refine a_irem (pc := 22) ok dX1_remember_22 (by first | omega | (unfold rg; omega) | (simp only [rg] at *; omega) | exact bz_rg _ | grind [rg]) (by first | omega | (unfold rg; omega) | (simp only [rg] at *; omega) | exact bz_rg _ | grind [rg]) ?_
  refine a_putf (pc := 23) ok dX1_remember_23 fp1_21 rfl (by first | rfl | decide) (by first | rfl | decide) (Nat.le_of_ble_eq_true rfl) ?_
  refine a_aload_n (pc := 26) ok dX1_remember_26 rfl ?_
  refine a_aload_n (pc := 27) ok dX1_remember_27 rfl ?_
  refine a_getf (pc := 28) ok dX1_remember_28 fl1_17 rfl rfl ?_
  refine a_iconst (pc := 31) ok dX1_remember_31 ?_
  refine a_iadd (pc := 32) ok dX1_remember_32 ?_
  refine a_bipush (pc := 33) ok dX1_remember_33 (by decide) ?_
  refine a_mmin (pc := 35) ok dX1_remember_35 (ug4 89 (by decide +kernel) rfl) ⟨by decide, by decide, Nat.zero_le _, Nat.zero_le _⟩ (Nat.le_of_ble_eq_true rfl) (by first | omega | (unfold rg; omega) | (simp only [rg] at *; omega) | exact bz_rg _ | grind [rg]) (by first | omega | (unfold rg; omega) | (simp only [rg] at *; omega) | exact bz_rg _ | grind [rg]) ?_
  refine a_putf (pc := 38) ok dX1_remember_38 fp1_17 rfl (by first | rfl | decide) (by first | rfl | decide) (Nat.le_of_ble_eq_true rfl) ?_
  exact a_vret (pc := 41) ok dX1_remember_41 (⟨rfl, rfl⟩)
theorem c_takeBack_12 (hc : 1 ≤ cnt ∧ cnt ≤ 14) : Cd l yX1_takeBack cX1_takeBack 2 none rmX1_takeBack [.ref 0, .ref 58] (mmS cnt 12 σ S) none (mmS (cnt - 1) ((12 + 14 - 1) % 14) σ (σ 11)) := by
  refine Ct.of miX1_takeBack (Nat.le_of_ble_eq_true rfl) ?_
  intro X hXl hN ok
  refine AW.cast (L2 := [some (.ref 0), some (.ref 58)]) ?_ rfl rfl rfl
  refine a_aload_n (pc := 0) ok dX1_takeBack_0 rfl ?_
  refine a_aload_n (pc := 1) ok dX1_takeBack_1 rfl ?_
  refine a_getf (pc := 2) ok dX1_takeBack_2 fl1_21 rfl rfl ?_
  refine a_bipush (pc := 5) ok dX1_takeBack_5 (by decide) ?_
  refine a_iadd (pc := 7) ok dX1_takeBack_7 ?_
  refine a_iconst (pc := 8) ok dX1_takeBack_8 ?_
  refine a_isub (pc := 9) ok dX1_takeBack_9 ?_
  refine a_bipush (pc := 10) ok dX1_takeBack_10 (by decide) ?_
  refine a_irem (pc := 12) ok dX1_takeBack_12 (by first | omega | (unfold rg; omega) | (simp only [rg] at *; omega) | exact bz_rg _ | grind [rg]) (by first | omega | (unfold rg; omega) | (simp only [rg] at *; omega) | exact bz_rg _ | grind [rg]) ?_
  refine a_putf (pc := 13) ok dX1_takeBack_13 fp1_21 rfl (by first | rfl | decide) (by first | rfl | decide) (Nat.le_of_ble_eq_true rfl) ?_
  refine AW.cast (M2 := mmS cnt 11 σ S) ?_ rfl rfl rfl
  refine a_aload_n (pc := 16) ok dX1_takeBack_16 rfl ?_
  refine a_aload_n (pc := 17) ok dX1_takeBack_17 rfl ?_
  refine a_getf (pc := 18) ok dX1_takeBack_18 fl1_11 rfl rfl ?_
  refine a_aload_n (pc := 21) ok dX1_takeBack_21 rfl ?_
  refine a_getf (pc := 22) ok dX1_takeBack_22 fl1_21 rfl rfl ?_
  refine a_aald (pc := 25) ok dX1_takeBack_25 rfl (by decide) (by first | omega | (unfold rg; omega) | (simp only [rg] at *; omega) | exact bz_rg _ | grind [rg]) rfl ?_
  refine a_callVv (pc := 26) ok [58, 59, 60, 61, 46, 47, 48, 49] dX1_takeBack_26 mv1_25 miX4_copyFrom (c_copyFrom) ⟨by decide, by decide, rfl, rfl, Nat.zero_le _, Nat.zero_le _⟩ rfl rfl (Nat.le_of_ble_eq_true rfl) rfl (by decide) rfl rfl rfl ?_
  refine AW.cast (M2 := mmS cnt 11 σ (σ 11)) ?_ rfl rfl rfl
  refine a_aload_n (pc := 29) ok dX1_takeBack_29 rfl ?_
  refine a_dup (pc := 30) ok dX1_takeBack_30 rfl ?_
  refine a_getf (pc := 31) ok dX1_takeBack_31 fl1_17 rfl rfl ?_
  refine a_iconst (pc := 34) ok dX1_takeBack_34 ?_
  refine a_isub (pc := 35) ok dX1_takeBack_35 ?_
  refine a_putf (pc := 36) ok dX1_takeBack_36 fp1_17 rfl (by first | rfl | decide) (by first | rfl | decide) (Nat.le_of_ble_eq_true rfl) ?_
  exact a_vret (pc := 39) ok dX1_takeBack_39 (⟨rfl, rfl⟩)
theorem c_remember_13 (hc : 0 ≤ cnt ∧ cnt ≤ 14) : Cd l yX1_remember cX1_remember 2 none rmX1_remember [.ref 0, .ref 58] (mmS cnt 13 σ S) none (mmS (min (cnt + 1) 14) ((13 + 1) % 14) (fun k => if k = 13 then S else σ k) S) := by
  refine Ct.of miX1_remember (Nat.le_of_ble_eq_true rfl) ?_
  intro X hXl hN ok
  refine AW.cast (L2 := [some (.ref 0), some (.ref 58)]) ?_ rfl rfl rfl
  refine a_aload_n (pc := 0) ok dX1_remember_0 rfl ?_
  refine a_getf (pc := 1) ok dX1_remember_1 fl1_11 rfl rfl ?_
  refine a_aload_n (pc := 4) ok dX1_remember_4 rfl ?_
  refine a_getf (pc := 5) ok dX1_remember_5 fl1_21 rfl rfl ?_
  refine a_aald (pc := 8) ok dX1_remember_8 rfl (by decide) (by first | omega | (unfold rg; omega) | (simp only [rg] at *; omega) | exact bz_rg _ | grind [rg]) rfl ?_
  refine a_aload_n (pc := 9) ok dX1_remember_9 rfl ?_
  refine a_callVv (pc := 10) ok [54, 55, 56, 57, 58, 59, 60, 61] dX1_remember_10 mv1_25 miX4_copyFrom (c_copyFrom) ⟨by decide, by decide, rfl, rfl, Nat.zero_le _, Nat.zero_le _⟩ rfl rfl (Nat.le_of_ble_eq_true rfl) rfl (by decide) rfl rfl rfl ?_
  refine AW.cast (M2 := mmS cnt 13 (fun k => if k = 13 then S else σ k) S) ?_ rfl rfl rfl
  refine a_aload_n (pc := 13) ok dX1_remember_13 rfl ?_
  refine a_aload_n (pc := 14) ok dX1_remember_14 rfl ?_
  refine a_getf (pc := 15) ok dX1_remember_15 fl1_21 rfl rfl ?_
  refine a_iconst (pc := 18) ok dX1_remember_18 ?_
  refine a_iadd (pc := 19) ok dX1_remember_19 ?_
  refine a_bipush (pc := 20) ok dX1_remember_20 (by decide) ?_
  refine a_irem (pc := 22) ok dX1_remember_22 (by first | omega | (unfold rg; omega) | (simp only [rg] at *; omega) | exact bz_rg _ | grind [rg]) (by first | omega | (unfold rg; omega) | (simp only [rg] at *; omega) | exact bz_rg _ | grind [rg]) ?_
  refine a_putf (pc := 23) ok dX1_remember_23 fp1_21 rfl (by first | rfl | decide) (by first | rfl | decide) (Nat.le_of_ble_eq_true rfl) ?_
  refine a_aload_n (pc := 26) ok dX1_remember_26 rfl ?_
  refine a_aload_n (pc := 27) ok dX1_remember_27 rfl ?_
  refine a_getf (pc := 28) ok dX1_remember_28 fl1_17 rfl rfl ?_
  refine a_iconst (pc := 31) ok dX1_remember_31 ?_
  refine a_iadd (pc := 32) ok dX1_remember_32 ?_
  refine a_bipush (pc := 33) ok dX1_remember_33 (by decide) ?_
  refine a_mmin (pc := 35) ok dX1_remember_35 (ug4 89 (by decide +kernel) rfl) ⟨by decide, by decide, Nat.zero_le _, Nat.zero_le _⟩ (Nat.le_of_ble_eq_true rfl) (by first | omega | (unfold rg; omega) | (simp only [rg] at *; omega) | exact bz_rg _ | grind [rg]) (by first | omega | (unfold rg; omega) | (simp only [rg] at *; omega) | exact bz_rg _ | grind [rg]) ?_
  refine a_putf (pc := 38) ok dX1_remember_38 fp1_17 rfl (by first | rfl | decide) (by first | rfl | decide) (Nat.le_of_ble_eq_true rfl) ?_
  exact a_vret (pc := 41) ok dX1_remember_41 (⟨rfl, rfl⟩)
theorem c_takeBack_13 (hc : 1 ≤ cnt ∧ cnt ≤ 14) : Cd l yX1_takeBack cX1_takeBack 2 none rmX1_takeBack [.ref 0, .ref 58] (mmS cnt 13 σ S) none (mmS (cnt - 1) ((13 + 14 - 1) % 14) σ (σ 12)) := by
  refine Ct.of miX1_takeBack (Nat.le_of_ble_eq_true rfl) ?_
  intro X hXl hN ok
  refine AW.cast (L2 := [some (.ref 0), some (.ref 58)]) ?_ rfl rfl rfl
  refine a_aload_n (pc := 0) ok dX1_takeBack_0 rfl ?_
  refine a_aload_n (pc := 1) ok dX1_takeBack_1 rfl ?_
  refine a_getf (pc := 2) ok dX1_takeBack_2 fl1_21 rfl rfl ?_
  refine a_bipush (pc := 5) ok dX1_takeBack_5 (by decide) ?_
  refine a_iadd (pc := 7) ok dX1_takeBack_7 ?_
  refine a_iconst (pc := 8) ok dX1_takeBack_8 ?_
  refine a_isub (pc := 9) ok dX1_takeBack_9 ?_
  refine a_bipush (pc := 10) ok dX1_takeBack_10 (by decide) ?_
  refine a_irem (pc := 12) ok dX1_takeBack_12 (by first | omega | (unfold rg; omega) | (simp only [rg] at *; omega) | exact bz_rg _ | grind [rg]) (by first | omega | (unfold rg; omega) | (simp only [rg] at *; omega) | exact bz_rg _ | grind [rg]) ?_
  refine a_putf (pc := 13) ok dX1_takeBack_13 fp1_21 rfl (by first | rfl | decide) (by first | rfl | decide) (Nat.le_of_ble_eq_true rfl) ?_
  refine AW.cast (M2 := mmS cnt 12 σ S) ?_ rfl rfl rfl
  refine a_aload_n (pc := 16) ok dX1_takeBack_16 rfl ?_
  refine a_aload_n (pc := 17) ok dX1_takeBack_17 rfl ?_
  refine a_getf (pc := 18) ok dX1_takeBack_18 fl1_11 rfl rfl ?_
  refine a_aload_n (pc := 21) ok dX1_takeBack_21 rfl ?_
  refine a_getf (pc := 22) ok dX1_takeBack_22 fl1_21 rfl rfl ?_
  refine a_aald (pc := 25) ok dX1_takeBack_25 rfl (by decide) (by first | omega | (unfold rg; omega) | (simp only [rg] at *; omega) | exact bz_rg _ | grind [rg]) rfl ?_
  refine a_callVv (pc := 26) ok [58, 59, 60, 61, 50, 51, 52, 53] dX1_takeBack_26 mv1_25 miX4_copyFrom (c_copyFrom) ⟨by decide, by decide, rfl, rfl, Nat.zero_le _, Nat.zero_le _⟩ rfl rfl (Nat.le_of_ble_eq_true rfl) rfl (by decide) rfl rfl rfl ?_
  refine AW.cast (M2 := mmS cnt 12 σ (σ 12)) ?_ rfl rfl rfl
  refine a_aload_n (pc := 29) ok dX1_takeBack_29 rfl ?_
  refine a_dup (pc := 30) ok dX1_takeBack_30 rfl ?_
  refine a_getf (pc := 31) ok dX1_takeBack_31 fl1_17 rfl rfl ?_
  refine a_iconst (pc := 34) ok dX1_takeBack_34 ?_
  refine a_isub (pc := 35) ok dX1_takeBack_35 ?_
  refine a_putf (pc := 36) ok dX1_takeBack_36 fp1_17 rfl (by first | rfl | decide) (by first | rfl | decide) (Nat.le_of_ble_eq_true rfl) ?_
  exact a_vret (pc := 39) ok dX1_takeBack_39 (⟨rfl, rfl⟩)
theorem c_remember (hc : 0 ≤ cnt ∧ cnt ≤ 14) (hx : 0 ≤ nx ∧ nx < 14) : Cd l yX1_remember cX1_remember 2 none rmX1_remember [.ref 0, .ref 58] (mmS cnt nx σ S) none (mmS (min (cnt + 1) 14) ((nx + 1) % 14) (fun k => if k = nx.toNat then S else σ k) S) := by
  rcases (show nx = 0 ∨ nx = 1 ∨ nx = 2 ∨ nx = 3 ∨ nx = 4 ∨ nx = 5 ∨ nx = 6 ∨ nx = 7 ∨ nx = 8 ∨ nx = 9 ∨ nx = 10 ∨ nx = 11 ∨ nx = 12 ∨ nx = 13 by omega) with rfl | rfl | rfl | rfl | rfl | rfl | rfl | rfl | rfl | rfl | rfl | rfl | rfl | rfl
  · exact c_remember_0 hc
  · exact c_remember_1 hc
  · exact c_remember_2 hc
  · exact c_remember_3 hc
  · exact c_remember_4 hc
  · exact c_remember_5 hc
  · exact c_remember_6 hc
  · exact c_remember_7 hc
  · exact c_remember_8 hc
  · exact c_remember_9 hc
  · exact c_remember_10 hc
  · exact c_remember_11 hc
  · exact c_remember_12 hc
  · exact c_remember_13 hc
theorem c_takeBack (hc : 1 ≤ cnt ∧ cnt ≤ 14) (hx : 0 ≤ nx ∧ nx < 14) : Cd l yX1_takeBack cX1_takeBack 2 none rmX1_takeBack [.ref 0, .ref 58] (mmS cnt nx σ S) none (mmS (cnt - 1) ((nx + 13) % 14) σ (σ ((nx + 13) % 14).toNat)) := by
  rcases (show nx = 0 ∨ nx = 1 ∨ nx = 2 ∨ nx = 3 ∨ nx = 4 ∨ nx = 5 ∨ nx = 6 ∨ nx = 7 ∨ nx = 8 ∨ nx = 9 ∨ nx = 10 ∨ nx = 11 ∨ nx = 12 ∨ nx = 13 by omega) with rfl | rfl | rfl | rfl | rfl | rfl | rfl | rfl | rfl | rfl | rfl | rfl | rfl | rfl
  · exact c_takeBack_0 hc
  · exact c_takeBack_1 hc
  · exact c_takeBack_2 hc
  · exact c_takeBack_3 hc
  · exact c_takeBack_4 hc
  · exact c_takeBack_5 hc
  · exact c_takeBack_6 hc
  · exact c_takeBack_7 hc
  · exact c_takeBack_8 hc
  · exact c_takeBack_9 hc
  · exact c_takeBack_10 hc
  · exact c_takeBack_11 hc
  · exact c_takeBack_12 hc
  · exact c_takeBack_13 hc
end ME
