/-! THE CLASS: actions. Printed by wip/whole/gen/mk71.py. -/
section CM2
variable {l : Launch} {S : St} {Rg : Nat → Option Nat} {kn nk : Int} {gb : Int → Int} {cnt nx : Int} {σ : Nat → St}
theorem ring_I : (fun i => (ringP 6 i).map (rn [0, 1, 2, 3, 4, 5, 6, 7, 8, 9, 10, 11, 12, 13, 14, 15, 16, 17, 18, 19, 20, 21, 22, 23, 24, 25, 26, 27, 28, 29, 30, 31, 32, 33, 34, 35, 36, 37, 38, 39, 40, 41, 42, 43, 44, 45, 46, 47, 48, 49, 50, 51, 52, 53, 54, 55, 56, 57, 58, 59, 60, 61, 62, 63, 64, 65, 66, 67, 68, 69, 70, 71])) = ringP 6 := ring_eq 6 6 _ (by decide)
theorem c_beginW (hc : 0 ≤ cnt ∧ cnt ≤ 14) (hx : 0 ≤ nx ∧ nx < 14) : Cd l yX6_beginAction cX6_beginAction 1 none rmX6_beginAction [.ref 0] (clM (ringP 6) kn nk S gb cnt nx σ) none (clM (ringP 6) (0) (0) S gb (min (cnt + 1) 14) ((nx + 1) % 14) (σP S nx σ)) := c_beginAction hc hx
theorem dX6_plate_0 : decode cX6_plate 0 = .ok (.iload_n 1, 1) := by decide +kernel
theorem dX6_plate_1 : decode cX6_plate 1 = .ok (.iconst 1, 1) := by decide +kernel
theorem dX6_plate_2 : decode cX6_plate 2 = .ok (.bipush 12, 2) := by decide +kernel
theorem dX6_plate_4 : decode cX6_plate 4 = .ok (.invokestatic 76, 3) := by decide +kernel
theorem dX6_plate_7 : decode cX6_plate 7 = .ok (.iload_n 2, 1) := by decide +kernel
theorem dX6_plate_8 : decode cX6_plate 8 = .ok (.iconst 1, 1) := by decide +kernel
theorem dX6_plate_9 : decode cX6_plate 9 = .ok (.bipush 12, 2) := by decide +kernel
theorem dX6_plate_11 : decode cX6_plate 11 = .ok (.invokestatic 76, 3) := by decide +kernel
theorem dX6_plate_14 : decode cX6_plate 14 = .ok (.aload_n 0, 1) := by decide +kernel
theorem dX6_plate_15 : decode cX6_plate 15 = .ok (.invokevirtual 296, 3) := by decide +kernel
theorem dX6_plate_18 : decode cX6_plate 18 = .ok (.aload_n 0, 1) := by decide +kernel
theorem dX6_plate_19 : decode cX6_plate 19 = .ok (.getfield 19, 3) := by decide +kernel
theorem dX6_plate_22 : decode cX6_plate 22 = .ok (.iload_n 1, 1) := by decide +kernel
theorem dX6_plate_23 : decode cX6_plate 23 = .ok (.iload_n 2, 1) := by decide +kernel
theorem dX6_plate_24 : decode cX6_plate 24 = .ok (.invokevirtual 299, 3) := by decide +kernel
theorem dX6_plate_27 : decode cX6_plate 27 = .ok (.aload_n 0, 1) := by decide +kernel
theorem dX6_plate_28 : decode cX6_plate 28 = .ok (.getfield 19, 3) := by decide +kernel
theorem dX6_plate_31 : decode cX6_plate 31 = .ok (.invokevirtual 302, 3) := by decide +kernel
theorem dX6_plate_34 : decode cX6_plate 34 = .ok (.ireturn, 1) := by decide +kernel
set_option maxRecDepth 100000 in
theorem c_aplate {c r : Int} (hS : SV S) (hc : 0 ≤ cnt ∧ cnt ≤ 14) (hx : 0 ≤ nx ∧ nx < 14) (h : kPlate c r = 0) (hv : rg c) (hw : rg r) : Cd l yX6_plate cX6_plate 3 (some .int) rmX6_plate [.ref 0, iv c, iv r] (clM (ringP 6) kn nk S gb cnt nx σ) (some (iv (c * r))) (clM (ringP 6) (0) (0) (stN S c r) gb (min (cnt + 1) 14) ((nx + 1) % 14) (σP S nx σ)) := by
  refine Ct.of miX6_plate (Nat.le_of_ble_eq_true rfl) ?_
  intro X hXl hN ok
  refine AW.cast (L2 := [some (.ref 0), some (iv c), some (iv r)]) ?_ rfl rfl rfl
  have hd := hS.1
  have k1 : (1 ≤ c ∧ c ≤ 12) ∧ 1 ≤ r ∧ r ≤ 12 := Classical.byContradiction fun z => by unfold kPlate at h; rw [if_neg z] at h; omega
  refine a_iload_n (pc := 0) ok dX6_plate_0 rfl ?_
  refine a_iconst (pc := 1) ok dX6_plate_1 ?_
  refine a_bipush (pc := 2) ok dX6_plate_2 (by decide) ?_
  refine a_callSv (pc := 4) ok [] dX6_plate_4 mv6_76 miX6_mustBeWithin (c_mustBeWithin k1.1 hv (by unfold rg; omega) (by unfold rg; omega)) ⟨by decide, by decide, rfl, rfl, Nat.zero_le _, Nat.zero_le _⟩ rfl rfl (Nat.le_of_ble_eq_true rfl) rfl (by decide) rfl ?_
  refine a_iload_n (pc := 7) ok dX6_plate_7 rfl ?_
  refine a_iconst (pc := 8) ok dX6_plate_8 ?_
  refine a_bipush (pc := 9) ok dX6_plate_9 (by decide) ?_
  refine a_callSv (pc := 11) ok [] dX6_plate_11 mv6_76 miX6_mustBeWithin (c_mustBeWithin k1.2 hw (by unfold rg; omega) (by unfold rg; omega)) ⟨by decide, by decide, rfl, rfl, Nat.zero_le _, Nat.zero_le _⟩ rfl rfl (Nat.le_of_ble_eq_true rfl) rfl (by decide) rfl ?_
  refine a_aload_n (pc := 14) ok dX6_plate_14 rfl ?_
  refine AW.cast (M2 := (clM (fun i => (ringP 6 i).map (rn [0, 1, 2, 3, 4, 5, 6, 7, 8, 9, 10, 11, 12, 13, 14, 15, 16, 17, 18, 19, 20, 21, 22, 23, 24, 25, 26, 27, 28, 29, 30, 31, 32, 33, 34, 35, 36, 37, 38, 39, 40, 41, 42, 43, 44, 45, 46, 47, 48, 49, 50, 51, 52, 53, 54, 55, 56, 57, 58, 59, 60, 61, 62, 63, 64, 65, 66, 67, 68, 69, 70, 71])) kn nk S gb cnt nx σ)) ?_ rfl rfl (congrArg (fun f => (clM (f) kn nk S gb cnt nx σ)) ring_I.symm)
  refine x_callVv (pc := 15) ok [0, 1, 2, 3, 4, 5, 6, 7, 8, 9, 10, 11, 12, 13, 14, 15, 16, 17, 18, 19, 20, 21, 22, 23, 24, 25, 26, 27, 28, 29, 30, 31, 32, 33, 34, 35, 36, 37, 38, 39, 40, 41, 42, 43, 44, 45, 46, 47, 48, 49, 50, 51, 52, 53, 54, 55, 56, 57, 58, 59, 60, 61, 62, 63, 64, 65, 66, 67, 68, 69, 70, 71] 64 dX6_plate_15 mv6_296 miX6_beginAction (c_beginW hc hx) ⟨by decide, by decide, rfl, rfl, Nat.zero_le _, Nat.zero_le _⟩ rfl rfl (Nat.le_of_ble_eq_true rfl) rfl rfl (by decide) rfl rfl rfl ?_
  refine AW.cast (M2 := (clM (ringP 6) (0) (0) S gb (min (cnt + 1) 14) ((nx + 1) % 14) (σP S nx σ))) ?_ rfl rfl (congrArg (fun f => (clM (f) (0) (0) S gb (min (cnt + 1) 14) ((nx + 1) % 14) (σP S nx σ))) ring_I)
  refine a_aload_n (pc := 18) ok dX6_plate_18 rfl ?_
  refine a_getf (pc := 19) ok dX6_plate_19 fl6_19 rfl rfl ?_
  refine a_iload_n (pc := 22) ok dX6_plate_22 rfl ?_
  refine a_iload_n (pc := 23) ok dX6_plate_23 rfl ?_
  refine a_callVv (pc := 24) ok [1, 2, 3, 4] dX6_plate_24 mv6_299 miX4_takePlate (c_takePlate) ⟨by decide, by decide, rfl, rfl, Nat.zero_le _, Nat.zero_le _⟩ rfl rfl (Nat.le_of_ble_eq_true rfl) rfl (by decide) rfl rfl rfl ?_
  refine a_aload_n (pc := 27) ok dX6_plate_27 rfl ?_
  refine a_getf (pc := 28) ok dX6_plate_28 fl6_19 rfl rfl ?_
  refine a_callVp (pc := 31) ok [1, 2, 3, 4] dX6_plate_31 mv6_302 miX4_cellCount (c_cellCount) ⟨by decide, by decide, rfl, rfl, Nat.zero_le _, Nat.zero_le _⟩ rfl rfl (Nat.le_of_ble_eq_true rfl) rfl (by decide) rfl rfl ?_
  exact a_iret (pc := 34) ok dX6_plate_34 (⟨rfl, rfl⟩)
theorem dX6_cell_0 : decode cX6_cell 0 = .ok (.aload_n 0, 1) := by decide +kernel
theorem dX6_cell_1 : decode cX6_cell 1 = .ok (.getfield 19, 3) := by decide +kernel
theorem dX6_cell_4 : decode cX6_cell 4 = .ok (.iload_n 1, 1) := by decide +kernel
theorem dX6_cell_5 : decode cX6_cell 5 = .ok (.iload_n 2, 1) := by decide +kernel
theorem dX6_cell_6 : decode cX6_cell 6 = .ok (.invokevirtual 199, 3) := by decide +kernel
theorem dX6_cell_9 : decode cX6_cell 9 = .ok (.invokestatic 203, 3) := by decide +kernel
theorem dX6_cell_12 : decode cX6_cell 12 = .ok (.iload_n 3, 1) := by decide +kernel
theorem dX6_cell_13 : decode cX6_cell 13 = .ok (.iconst 0, 1) := by decide +kernel
theorem dX6_cell_14 : decode cX6_cell 14 = .ok (.bipush 99, 2) := by decide +kernel
theorem dX6_cell_16 : decode cX6_cell 16 = .ok (.invokestatic 76, 3) := by decide +kernel
theorem dX6_cell_19 : decode cX6_cell 19 = .ok (.aload_n 0, 1) := by decide +kernel
theorem dX6_cell_20 : decode cX6_cell 20 = .ok (.invokevirtual 296, 3) := by decide +kernel
theorem dX6_cell_23 : decode cX6_cell 23 = .ok (.aload_n 0, 1) := by decide +kernel
theorem dX6_cell_24 : decode cX6_cell 24 = .ok (.getfield 19, 3) := by decide +kernel
theorem dX6_cell_27 : decode cX6_cell 27 = .ok (.iload_n 1, 1) := by decide +kernel
theorem dX6_cell_28 : decode cX6_cell 28 = .ok (.iload_n 2, 1) := by decide +kernel
theorem dX6_cell_29 : decode cX6_cell 29 = .ok (.iload_n 3, 1) := by decide +kernel
theorem dX6_cell_30 : decode cX6_cell 30 = .ok (.invokevirtual 305, 3) := by decide +kernel
theorem dX6_cell_33 : decode cX6_cell 33 = .ok (.ireturn, 1) := by decide +kernel
set_option maxRecDepth 100000 in
theorem c_acell {x y g : Int} (hS : SV S) (hc : 0 ≤ cnt ∧ cnt ≤ 14) (hx : 0 ≤ nx ∧ nx < 14) (h : kPut S x y g = 0) (hx1 : rg x) (hy : rg y) (hg : rg g) : Cd l yX6_cell cX6_cell 4 (some .int) rmX6_cell [.ref 0, iv x, iv y, iv g] (clM (ringP 6) kn nk S gb cnt nx σ) (some (iv (sG S (y * sC S + x)))) (clM (ringP 6) (0) (0) (gP S x y g) gb (min (cnt + 1) 14) ((nx + 1) % 14) (σP S nx σ)) := by
  refine Ct.of miX6_cell (Nat.le_of_ble_eq_true rfl) ?_
  intro X hXl hN ok
  refine AW.cast (L2 := [some (.ref 0), some (iv x), some (iv y), some (iv g)]) ?_ rfl rfl rfl
  have hd := hS.1
  have k1 : (0 ≤ x ∧ x < sC S) ∧ (0 ≤ y ∧ y < sR S) ∧ 0 ≤ g ∧ g ≤ 99 := by
    unfold kPut at h
    repeat' split at h
    all_goals omega
  have hcel := xy_cel hd k1.1 k1.2.1
  have hc3 := dim_cells hd
  have hc1 := hcel.1
  have hc2 := hcel.2
  refine a_aload_n (pc := 0) ok dX6_cell_0 rfl ?_
  refine a_getf (pc := 1) ok dX6_cell_1 fl6_19 rfl rfl ?_
  refine a_iload_n (pc := 4) ok dX6_cell_4 rfl ?_
  refine a_iload_n (pc := 5) ok dX6_cell_5 rfl ?_
  refine a_callVp (pc := 6) ok [1, 2, 3, 4] dX6_cell_6 mv6_199 miX4_hasCell (c_hasCell hd hx1 hy) ⟨by decide, by decide, rfl, rfl, Nat.zero_le _, Nat.zero_le _⟩ rfl rfl (Nat.le_of_ble_eq_true rfl) rfl (by decide) rfl rfl ?_
  refine a_callSv (pc := 9) ok [] dX6_cell_9 mv6_203 miX6_mustExist (c_mustExist (bz_pos ⟨k1.1.1, k1.1.2, k1.2.1.1, k1.2.1.2⟩)) ⟨by decide, by decide, rfl, rfl, Nat.zero_le _, Nat.zero_le _⟩ rfl rfl (Nat.le_of_ble_eq_true rfl) rfl (by decide) rfl ?_
  refine a_iload_n (pc := 12) ok dX6_cell_12 rfl ?_
  refine a_iconst (pc := 13) ok dX6_cell_13 ?_
  refine a_bipush (pc := 14) ok dX6_cell_14 (by decide) ?_
  refine a_callSv (pc := 16) ok [] dX6_cell_16 mv6_76 miX6_mustBeWithin (c_mustBeWithin k1.2.2 hg (by unfold rg; omega) (by unfold rg; omega)) ⟨by decide, by decide, rfl, rfl, Nat.zero_le _, Nat.zero_le _⟩ rfl rfl (Nat.le_of_ble_eq_true rfl) rfl (by decide) rfl ?_
  refine a_aload_n (pc := 19) ok dX6_cell_19 rfl ?_
  refine AW.cast (M2 := (clM (fun i => (ringP 6 i).map (rn [0, 1, 2, 3, 4, 5, 6, 7, 8, 9, 10, 11, 12, 13, 14, 15, 16, 17, 18, 19, 20, 21, 22, 23, 24, 25, 26, 27, 28, 29, 30, 31, 32, 33, 34, 35, 36, 37, 38, 39, 40, 41, 42, 43, 44, 45, 46, 47, 48, 49, 50, 51, 52, 53, 54, 55, 56, 57, 58, 59, 60, 61, 62, 63, 64, 65, 66, 67, 68, 69, 70, 71])) kn nk S gb cnt nx σ)) ?_ rfl rfl (congrArg (fun f => (clM (f) kn nk S gb cnt nx σ)) ring_I.symm)
  refine x_callVv (pc := 20) ok [0, 1, 2, 3, 4, 5, 6, 7, 8, 9, 10, 11, 12, 13, 14, 15, 16, 17, 18, 19, 20, 21, 22, 23, 24, 25, 26, 27, 28, 29, 30, 31, 32, 33, 34, 35, 36, 37, 38, 39, 40, 41, 42, 43, 44, 45, 46, 47, 48, 49, 50, 51, 52, 53, 54, 55, 56, 57, 58, 59, 60, 61, 62, 63, 64, 65, 66, 67, 68, 69, 70, 71] 64 dX6_cell_20 mv6_296 miX6_beginAction (c_beginW hc hx) ⟨by decide, by decide, rfl, rfl, Nat.zero_le _, Nat.zero_le _⟩ rfl rfl (Nat.le_of_ble_eq_true rfl) rfl rfl (by decide) rfl rfl rfl ?_
  refine AW.cast (M2 := (clM (ringP 6) (0) (0) S gb (min (cnt + 1) 14) ((nx + 1) % 14) (σP S nx σ))) ?_ rfl rfl (congrArg (fun f => (clM (f) (0) (0) S gb (min (cnt + 1) 14) ((nx + 1) % 14) (σP S nx σ))) ring_I)
  refine a_aload_n (pc := 23) ok dX6_cell_23 rfl ?_
  refine a_getf (pc := 24) ok dX6_cell_24 fl6_19 rfl rfl ?_
  refine a_iload_n (pc := 27) ok dX6_cell_27 rfl ?_
  refine a_iload_n (pc := 28) ok dX6_cell_28 rfl ?_
  refine a_iload_n (pc := 29) ok dX6_cell_29 rfl ?_
  refine a_callVi (pc := 30) ok [1, 2, 3, 4] dX6_cell_30 mv6_305 miX4_setGrey (c_setGrey (c := sC S) (by omega)) ⟨by decide, by decide, rfl, rfl, Nat.zero_le _, Nat.zero_le _⟩ rfl rfl (Nat.le_of_ble_eq_true rfl) rfl (by decide) rfl rfl rfl ?_
  exact a_iret (pc := 33) ok dX6_cell_33 (⟨rfl, rfl⟩)
theorem dX6_box_0 : decode cX6_box 0 = .ok (.aload_n 0, 1) := by decide +kernel
theorem dX6_box_1 : decode cX6_box 1 = .ok (.getfield 19, 3) := by decide +kernel
theorem dX6_box_4 : decode cX6_box 4 = .ok (.iload_n 1, 1) := by decide +kernel
theorem dX6_box_5 : decode cX6_box 5 = .ok (.iload_n 3, 1) := by decide +kernel
theorem dX6_box_6 : decode cX6_box 6 = .ok (.invokevirtual 199, 3) := by decide +kernel
theorem dX6_box_9 : decode cX6_box 9 = .ok (.ifCond .eq 20, 3) := by decide +kernel
theorem dX6_box_12 : decode cX6_box 12 = .ok (.aload_n 0, 1) := by decide +kernel
theorem dX6_box_13 : decode cX6_box 13 = .ok (.getfield 19, 3) := by decide +kernel
theorem dX6_box_16 : decode cX6_box 16 = .ok (.iload_n 2, 1) := by decide +kernel
theorem dX6_box_17 : decode cX6_box 17 = .ok (.iload 4, 2) := by decide +kernel
theorem dX6_box_19 : decode cX6_box 19 = .ok (.invokevirtual 199, 3) := by decide +kernel
theorem dX6_box_22 : decode cX6_box 22 = .ok (.ifCond .eq 7, 3) := by decide +kernel
theorem dX6_box_25 : decode cX6_box 25 = .ok (.iconst 1, 1) := by decide +kernel
theorem dX6_box_26 : decode cX6_box 26 = .ok (.goto 4, 3) := by decide +kernel
theorem dX6_box_29 : decode cX6_box 29 = .ok (.iconst 0, 1) := by decide +kernel
theorem dX6_box_30 : decode cX6_box 30 = .ok (.invokestatic 203, 3) := by decide +kernel
theorem dX6_box_33 : decode cX6_box 33 = .ok (.iload 5, 2) := by decide +kernel
theorem dX6_box_35 : decode cX6_box 35 = .ok (.iconst 0, 1) := by decide +kernel
theorem dX6_box_36 : decode cX6_box 36 = .ok (.bipush 99, 2) := by decide +kernel
theorem dX6_box_38 : decode cX6_box 38 = .ok (.invokestatic 76, 3) := by decide +kernel
theorem dX6_box_41 : decode cX6_box 41 = .ok (.iload_n 2, 1) := by decide +kernel
theorem dX6_box_42 : decode cX6_box 42 = .ok (.iload_n 1, 1) := by decide +kernel
theorem dX6_box_43 : decode cX6_box 43 = .ok (.if_icmp .lt 9, 3) := by decide +kernel
theorem dX6_box_46 : decode cX6_box 46 = .ok (.iload 4, 2) := by decide +kernel
theorem dX6_box_48 : decode cX6_box 48 = .ok (.iload_n 3, 1) := by decide +kernel
theorem dX6_box_49 : decode cX6_box 49 = .ok (.if_icmp .ge 14, 3) := by decide +kernel
theorem dX6_box_52 : decode cX6_box 52 = .ok (.new 309, 3) := by decide +kernel
theorem dX6_box_55 : decode cX6_box 55 = .ok (.dup, 1) := by decide +kernel
theorem dX6_box_56 : decode cX6_box 56 = .ok (.ldc_w 311, 3) := by decide +kernel
theorem dX6_box_59 : decode cX6_box 59 = .ok (.invokespecial 313, 3) := by decide +kernel
theorem dX6_box_62 : decode cX6_box 62 = .ok (.athrow, 1) := by decide +kernel
theorem dX6_box_63 : decode cX6_box 63 = .ok (.aload_n 0, 1) := by decide +kernel
theorem dX6_box_64 : decode cX6_box 64 = .ok (.invokevirtual 296, 3) := by decide +kernel
theorem dX6_box_67 : decode cX6_box 67 = .ok (.aload_n 0, 1) := by decide +kernel
theorem dX6_box_68 : decode cX6_box 68 = .ok (.getfield 19, 3) := by decide +kernel
theorem dX6_box_71 : decode cX6_box 71 = .ok (.iload_n 1, 1) := by decide +kernel
theorem dX6_box_72 : decode cX6_box 72 = .ok (.iload_n 2, 1) := by decide +kernel
theorem dX6_box_73 : decode cX6_box 73 = .ok (.iload_n 3, 1) := by decide +kernel
theorem dX6_box_74 : decode cX6_box 74 = .ok (.iload 4, 2) := by decide +kernel
theorem dX6_box_76 : decode cX6_box 76 = .ok (.iload 5, 2) := by decide +kernel
theorem dX6_box_78 : decode cX6_box 78 = .ok (.invokevirtual 314, 3) := by decide +kernel
theorem dX6_box_81 : decode cX6_box 81 = .ok (.ireturn, 1) := by decide +kernel
set_option maxRecDepth 100000 in
theorem c_abox {x0 x1 y0 y1 g : Int} (hS : SV S) (hc : 0 ≤ cnt ∧ cnt ≤ 14) (hx : 0 ≤ nx ∧ nx < 14) (h : kBox S x0 x1 y0 y1 g = 0) (h1 : rg x0) (h2 : rg x1) (h3 : rg y0) (h4 : rg y1) (hg : rg g) : Cd l yX6_box cX6_box 6 (some .int) rmX6_box [.ref 0, iv x0, iv x1, iv y0, iv y1, iv g] (clM (ringP 6) kn nk S gb cnt nx σ) (some (iv ((boxF (sC S) g x0 (x1 - x0 + 1).toNat y0 (y1 - y0 + 1).toNat (sG S, 0)).2))) (clM (ringP 6) (0) (0) (gB S x0 x1 y0 y1 g) gb (min (cnt + 1) 14) ((nx + 1) % 14) (σP S nx σ)) := by
  refine Ct.of miX6_box (Nat.le_of_ble_eq_true rfl) ?_
  intro X hXl hN ok
  refine AW.cast (L2 := [some (.ref 0), some (iv x0), some (iv x1), some (iv y0), some (iv y1), some (iv g)]) ?_ rfl rfl rfl
  have hd := hS.1
  have k1 : (0 ≤ g ∧ g ≤ 99) ∧ inP (sC S) (sR S) x0 y0 ∧ inP (sC S) (sR S) x1 y1 ∧ x0 ≤ x1 ∧ y0 ≤ y1 := by
    unfold kBox at h
    split at h
    · omega
    · split at h
      · assumption
      · omega
  obtain ⟨k2, ⟨a1, a2, a3, a4⟩, ⟨b1, b2, b3, b4⟩, k3, k4⟩ := k1
  refine a_aload_n (pc := 0) ok dX6_box_0 rfl ?_
  refine a_getf (pc := 1) ok dX6_box_1 fl6_19 rfl rfl ?_
  refine a_iload_n (pc := 4) ok dX6_box_4 rfl ?_
  refine a_iload_n (pc := 5) ok dX6_box_5 rfl ?_
  refine a_callVp (pc := 6) ok [1, 2, 3, 4] dX6_box_6 mv6_199 miX4_hasCell (c_hasCell hd h1 h3) ⟨by decide, by decide, rfl, rfl, Nat.zero_le _, Nat.zero_le _⟩ rfl rfl (Nat.le_of_ble_eq_true rfl) rfl (by decide) rfl rfl ?_
  refine a_if_eq (pc := 9) (tgt := 29) ok dX6_box_9 (by decide) (by exact bz_rg _) (fun c9 => ?_) (fun c9 => ?_)
  · exact False.elim (bz_0.mp c9 ⟨a1, a2, a3, a4⟩)
  · refine a_aload_n (pc := 12) ok dX6_box_12 rfl ?_
    refine a_getf (pc := 13) ok dX6_box_13 fl6_19 rfl rfl ?_
    refine a_iload_n (pc := 16) ok dX6_box_16 rfl ?_
    refine a_iload (pc := 17) ok dX6_box_17 rfl ?_
    refine a_callVp (pc := 19) ok [1, 2, 3, 4] dX6_box_19 mv6_199 miX4_hasCell (c_hasCell hd h2 h4) ⟨by decide, by decide, rfl, rfl, Nat.zero_le _, Nat.zero_le _⟩ rfl rfl (Nat.le_of_ble_eq_true rfl) rfl (by decide) rfl rfl ?_
    refine a_if_eq (pc := 22) (tgt := 29) ok dX6_box_22 (by decide) (by exact bz_rg _) (fun c22 => ?_) (fun c22 => ?_)
    · exact False.elim (bz_0.mp c22 ⟨b1, b2, b3, b4⟩)
    · refine a_iconst (pc := 25) ok dX6_box_25 ?_
      refine a_goto (pc := 26) (tgt := 30) ok dX6_box_26 (by decide) ?_
      refine a_callSv (pc := 30) ok [] dX6_box_30 mv6_203 miX6_mustExist (c_mustExist rfl) ⟨by decide, by decide, rfl, rfl, Nat.zero_le _, Nat.zero_le _⟩ rfl rfl (Nat.le_of_ble_eq_true rfl) rfl (by decide) rfl ?_
      refine a_iload (pc := 33) ok dX6_box_33 rfl ?_
      refine a_iconst (pc := 35) ok dX6_box_35 ?_
      refine a_bipush (pc := 36) ok dX6_box_36 (by decide) ?_
      refine a_callSv (pc := 38) ok [] dX6_box_38 mv6_76 miX6_mustBeWithin (c_mustBeWithin k2 hg (by unfold rg; omega) (by unfold rg; omega)) ⟨by decide, by decide, rfl, rfl, Nat.zero_le _, Nat.zero_le _⟩ rfl rfl (Nat.le_of_ble_eq_true rfl) rfl (by decide) rfl ?_
      refine a_iload_n (pc := 41) ok dX6_box_41 rfl ?_
      refine a_iload_n (pc := 42) ok dX6_box_42 rfl ?_
      refine a_icmp_lt (pc := 43) (tgt := 52) ok dX6_box_43 (by decide) (by first | omega | (unfold rg; omega) | (simp only [rg] at *; omega) | exact bz_rg _ | grind [rg]) (by first | omega | (unfold rg; omega) | (simp only [rg] at *; omega) | exact bz_rg _ | grind [rg]) (fun c43 => ?_) (fun c43 => ?_)
      · omega
      · refine a_iload (pc := 46) ok dX6_box_46 rfl ?_
        refine a_iload_n (pc := 48) ok dX6_box_48 rfl ?_
        refine a_icmp_ge (pc := 49) (tgt := 63) ok dX6_box_49 (by decide) (by first | omega | (unfold rg; omega) | (simp only [rg] at *; omega) | exact bz_rg _ | grind [rg]) (by first | omega | (unfold rg; omega) | (simp only [rg] at *; omega) | exact bz_rg _ | grind [rg]) (fun c49 => ?_) (fun c49 => ?_)
        · refine a_aload_n (pc := 63) ok dX6_box_63 rfl ?_
          refine AW.cast (M2 := (clM (fun i => (ringP 6 i).map (rn [0, 1, 2, 3, 4, 5, 6, 7, 8, 9, 10, 11, 12, 13, 14, 15, 16, 17, 18, 19, 20, 21, 22, 23, 24, 25, 26, 27, 28, 29, 30, 31, 32, 33, 34, 35, 36, 37, 38, 39, 40, 41, 42, 43, 44, 45, 46, 47, 48, 49, 50, 51, 52, 53, 54, 55, 56, 57, 58, 59, 60, 61, 62, 63, 64, 65, 66, 67, 68, 69, 70, 71])) kn nk S gb cnt nx σ)) ?_ rfl rfl (congrArg (fun f => (clM (f) kn nk S gb cnt nx σ)) ring_I.symm)
          refine x_callVv (pc := 64) ok [0, 1, 2, 3, 4, 5, 6, 7, 8, 9, 10, 11, 12, 13, 14, 15, 16, 17, 18, 19, 20, 21, 22, 23, 24, 25, 26, 27, 28, 29, 30, 31, 32, 33, 34, 35, 36, 37, 38, 39, 40, 41, 42, 43, 44, 45, 46, 47, 48, 49, 50, 51, 52, 53, 54, 55, 56, 57, 58, 59, 60, 61, 62, 63, 64, 65, 66, 67, 68, 69, 70, 71] 64 dX6_box_64 mv6_296 miX6_beginAction (c_beginW hc hx) ⟨by decide, by decide, rfl, rfl, Nat.zero_le _, Nat.zero_le _⟩ rfl rfl (Nat.le_of_ble_eq_true rfl) rfl rfl (by decide) rfl rfl rfl ?_
          refine AW.cast (M2 := (clM (ringP 6) (0) (0) S gb (min (cnt + 1) 14) ((nx + 1) % 14) (σP S nx σ))) ?_ rfl rfl (congrArg (fun f => (clM (f) (0) (0) S gb (min (cnt + 1) 14) ((nx + 1) % 14) (σP S nx σ))) ring_I)
          refine a_aload_n (pc := 67) ok dX6_box_67 rfl ?_
          refine a_getf (pc := 68) ok dX6_box_68 fl6_19 rfl rfl ?_
          refine a_iload_n (pc := 71) ok dX6_box_71 rfl ?_
          refine a_iload_n (pc := 72) ok dX6_box_72 rfl ?_
          refine a_iload_n (pc := 73) ok dX6_box_73 rfl ?_
          refine a_iload (pc := 74) ok dX6_box_74 rfl ?_
          refine a_iload (pc := 76) ok dX6_box_76 rfl ?_
          refine a_callVi (pc := 78) ok [1, 2, 3, 4] dX6_box_78 mv6_314 miX4_fillBox (c_fillBox hd ⟨a1, k3, b2⟩ ⟨a3, k4, b4⟩ (SV_rg hS).1 hg) ⟨by decide, by decide, rfl, rfl, Nat.zero_le _, Nat.zero_le _⟩ rfl rfl (Nat.le_of_ble_eq_true rfl) rfl (by decide) rfl rfl rfl ?_
          exact a_iret (pc := 81) ok dX6_box_81 (⟨rfl, rfl⟩)
        · omega
theorem dX6_threshold_0 : decode cX6_threshold 0 = .ok (.iload_n 1, 1) := by decide +kernel
theorem dX6_threshold_1 : decode cX6_threshold 1 = .ok (.iconst 1, 1) := by decide +kernel
theorem dX6_threshold_2 : decode cX6_threshold 2 = .ok (.bipush 99, 2) := by decide +kernel
theorem dX6_threshold_4 : decode cX6_threshold 4 = .ok (.invokestatic 76, 3) := by decide +kernel
theorem dX6_threshold_7 : decode cX6_threshold 7 = .ok (.aload_n 0, 1) := by decide +kernel
theorem dX6_threshold_8 : decode cX6_threshold 8 = .ok (.getfield 19, 3) := by decide +kernel
theorem dX6_threshold_11 : decode cX6_threshold 11 = .ok (.iload_n 1, 1) := by decide +kernel
theorem dX6_threshold_12 : decode cX6_threshold 12 = .ok (.iload_n 2, 1) := by decide +kernel
theorem dX6_threshold_13 : decode cX6_threshold 13 = .ok (.invokevirtual 318, 3) := by decide +kernel
theorem dX6_threshold_16 : decode cX6_threshold 16 = .ok (.ifCond .ne 14, 3) := by decide +kernel
theorem dX6_threshold_19 : decode cX6_threshold 19 = .ok (.new 84, 3) := by decide +kernel
theorem dX6_threshold_22 : decode cX6_threshold 22 = .ok (.dup, 1) := by decide +kernel
theorem dX6_threshold_23 : decode cX6_threshold 23 = .ok (.ldc_w 321, 3) := by decide +kernel
theorem dX6_threshold_26 : decode cX6_threshold 26 = .ok (.invokespecial 88, 3) := by decide +kernel
theorem dX6_threshold_29 : decode cX6_threshold 29 = .ok (.athrow, 1) := by decide +kernel
theorem dX6_threshold_30 : decode cX6_threshold 30 = .ok (.aload_n 0, 1) := by decide +kernel
theorem dX6_threshold_31 : decode cX6_threshold 31 = .ok (.invokevirtual 296, 3) := by decide +kernel
theorem dX6_threshold_34 : decode cX6_threshold 34 = .ok (.aload_n 0, 1) := by decide +kernel
theorem dX6_threshold_35 : decode cX6_threshold 35 = .ok (.getfield 19, 3) := by decide +kernel
theorem dX6_threshold_38 : decode cX6_threshold 38 = .ok (.iload_n 1, 1) := by decide +kernel
theorem dX6_threshold_39 : decode cX6_threshold 39 = .ok (.iload_n 2, 1) := by decide +kernel
theorem dX6_threshold_40 : decode cX6_threshold 40 = .ok (.invokevirtual 323, 3) := by decide +kernel
theorem dX6_threshold_43 : decode cX6_threshold 43 = .ok (.ireturn, 1) := by decide +kernel
set_option maxRecDepth 100000 in
theorem c_athreshold {v b : Int} (hS : SV S) (hc : 0 ≤ cnt ∧ cnt ≤ 14) (hx : 0 ≤ nx ∧ nx < 14) (h : kPart S v b = 0) (hv : rg v) (hb : rg b) : Cd l yX6_threshold cX6_threshold 3 (some .int) rmX6_threshold [.ref 0, iv v, iv b] (clM (ringP 6) kn nk S gb cnt nx σ) (some (iv (chN (sN S) b))) (clM (ringP 6) (0) (0) (gT S v b) gb (min (cnt + 1) 14) ((nx + 1) % 14) (σP S nx σ)) := by
  refine Ct.of miX6_threshold (Nat.le_of_ble_eq_true rfl) ?_
  intro X hXl hN ok
  refine AW.cast (L2 := [some (.ref 0), some (iv v), some (iv b)]) ?_ rfl rfl rfl
  have hd := hS.1
  have k1 : (1 ≤ v ∧ v ≤ 99) ∧ canT (sT S) (sN S) v b = true := by
    unfold kPart at h
    split at h
    · omega
    · rename_i z
      split at h
      · rename_i y; exact ⟨Decidable.not_not.mp z, y⟩
      · omega
  refine a_iload_n (pc := 0) ok dX6_threshold_0 rfl ?_
  refine a_iconst (pc := 1) ok dX6_threshold_1 ?_
  refine a_bipush (pc := 2) ok dX6_threshold_2 (by decide) ?_
  refine a_callSv (pc := 4) ok [] dX6_threshold_4 mv6_76 miX6_mustBeWithin (c_mustBeWithin k1.1 hv (by unfold rg; omega) (by unfold rg; omega)) ⟨by decide, by decide, rfl, rfl, Nat.zero_le _, Nat.zero_le _⟩ rfl rfl (Nat.le_of_ble_eq_true rfl) rfl (by decide) rfl ?_
  refine a_aload_n (pc := 7) ok dX6_threshold_7 rfl ?_
  refine a_getf (pc := 8) ok dX6_threshold_8 fl6_19 rfl rfl ?_
  refine a_iload_n (pc := 11) ok dX6_threshold_11 rfl ?_
  refine a_iload_n (pc := 12) ok dX6_threshold_12 rfl ?_
  refine a_callVp (pc := 13) ok [1, 2, 3, 4] dX6_threshold_13 mv6_318 miX4_canChangeThreshold (c_canChangeThreshold hS.2.2.2.2.1 (SV_T99 hS) hv hb) ⟨by decide, by decide, rfl, rfl, Nat.zero_le _, Nat.zero_le _⟩ rfl rfl (Nat.le_of_ble_eq_true rfl) rfl (by decide) rfl rfl ?_
  refine a_if_ne (pc := 16) (tgt := 30) ok dX6_threshold_16 (by decide) (by exact bz_rg _) (fun c16 => ?_) (fun c16 => ?_)
  · refine a_aload_n (pc := 30) ok dX6_threshold_30 rfl ?_
    refine AW.cast (M2 := (clM (fun i => (ringP 6 i).map (rn [0, 1, 2, 3, 4, 5, 6, 7, 8, 9, 10, 11, 12, 13, 14, 15, 16, 17, 18, 19, 20, 21, 22, 23, 24, 25, 26, 27, 28, 29, 30, 31, 32, 33, 34, 35, 36, 37, 38, 39, 40, 41, 42, 43, 44, 45, 46, 47, 48, 49, 50, 51, 52, 53, 54, 55, 56, 57, 58, 59, 60, 61, 62, 63, 64, 65, 66, 67, 68, 69, 70, 71])) kn nk S gb cnt nx σ)) ?_ rfl rfl (congrArg (fun f => (clM (f) kn nk S gb cnt nx σ)) ring_I.symm)
    refine x_callVv (pc := 31) ok [0, 1, 2, 3, 4, 5, 6, 7, 8, 9, 10, 11, 12, 13, 14, 15, 16, 17, 18, 19, 20, 21, 22, 23, 24, 25, 26, 27, 28, 29, 30, 31, 32, 33, 34, 35, 36, 37, 38, 39, 40, 41, 42, 43, 44, 45, 46, 47, 48, 49, 50, 51, 52, 53, 54, 55, 56, 57, 58, 59, 60, 61, 62, 63, 64, 65, 66, 67, 68, 69, 70, 71] 64 dX6_threshold_31 mv6_296 miX6_beginAction (c_beginW hc hx) ⟨by decide, by decide, rfl, rfl, Nat.zero_le _, Nat.zero_le _⟩ rfl rfl (Nat.le_of_ble_eq_true rfl) rfl rfl (by decide) rfl rfl rfl ?_
    refine AW.cast (M2 := (clM (ringP 6) (0) (0) S gb (min (cnt + 1) 14) ((nx + 1) % 14) (σP S nx σ))) ?_ rfl rfl (congrArg (fun f => (clM (f) (0) (0) S gb (min (cnt + 1) 14) ((nx + 1) % 14) (σP S nx σ))) ring_I)
    refine a_aload_n (pc := 34) ok dX6_threshold_34 rfl ?_
    refine a_getf (pc := 35) ok dX6_threshold_35 fl6_19 rfl rfl ?_
    refine a_iload_n (pc := 38) ok dX6_threshold_38 rfl ?_
    refine a_iload_n (pc := 39) ok dX6_threshold_39 rfl ?_
    refine a_callVi (pc := 40) ok [1, 2, 3, 4] dX6_threshold_40 mv6_323 miX4_changeThreshold (c_changeThreshold hS.2.2.2.2.1 (SV_T99 hS) hS.2.2.2.1 hv hb k1.2) ⟨by decide, by decide, rfl, rfl, Nat.zero_le _, Nat.zero_le _⟩ rfl rfl (Nat.le_of_ble_eq_true rfl) rfl (by decide) rfl rfl rfl ?_
    exact a_iret (pc := 43) ok dX6_threshold_43 (⟨rfl, rfl⟩)
  · exact False.elim (bz_0.mp (by first | exact c16 | exact Decidable.not_not.mp c16) k1.2)
theorem dX6_share_0 : decode cX6_share 0 = .ok (.iload_n 1, 1) := by decide +kernel
theorem dX6_share_1 : decode cX6_share 1 = .ok (.iconst 0, 1) := by decide +kernel
theorem dX6_share_2 : decode cX6_share 2 = .ok (.iconst 5, 1) := by decide +kernel
theorem dX6_share_3 : decode cX6_share 3 = .ok (.invokestatic 76, 3) := by decide +kernel
theorem dX6_share_6 : decode cX6_share 6 = .ok (.aload_n 0, 1) := by decide +kernel
theorem dX6_share_7 : decode cX6_share 7 = .ok (.invokevirtual 296, 3) := by decide +kernel
theorem dX6_share_10 : decode cX6_share 10 = .ok (.aload_n 0, 1) := by decide +kernel
theorem dX6_share_11 : decode cX6_share 11 = .ok (.getfield 19, 3) := by decide +kernel
theorem dX6_share_14 : decode cX6_share 14 = .ok (.iload_n 1, 1) := by decide +kernel
theorem dX6_share_15 : decode cX6_share 15 = .ok (.invokevirtual 327, 3) := by decide +kernel
theorem dX6_share_18 : decode cX6_share 18 = .ok (.ireturn, 1) := by decide +kernel
set_option maxRecDepth 100000 in
theorem c_ashare {v : Int} (hS : SV S) (hc : 0 ≤ cnt ∧ cnt ≤ 14) (hx : 0 ≤ nx ∧ nx < 14) (h : kIn v 0 5 = 0) (hv : rg v) : Cd l yX6_share cX6_share 2 (some .int) rmX6_share [.ref 0, iv v] (clM (ringP 6) kn nk S gb cnt nx σ) (some (iv ((shK (sG S) (sC S * sR S).toNat v (sT S) v.toNat).2))) (clM (ringP 6) (0) (0) (gH S v) gb (min (cnt + 1) 14) ((nx + 1) % 14) (σP S nx σ)) := by
  refine Ct.of miX6_share (Nat.le_of_ble_eq_true rfl) ?_
  intro X hXl hN ok
  refine AW.cast (L2 := [some (.ref 0), some (iv v)]) ?_ rfl rfl rfl
  have hd := hS.1
  have k1 := kIn_0 h
  refine a_iload_n (pc := 0) ok dX6_share_0 rfl ?_
  refine a_iconst (pc := 1) ok dX6_share_1 ?_
  refine a_iconst (pc := 2) ok dX6_share_2 ?_
  refine a_callSv (pc := 3) ok [] dX6_share_3 mv6_76 miX6_mustBeWithin (c_mustBeWithin k1 hv (by unfold rg; omega) (by unfold rg; omega)) ⟨by decide, by decide, rfl, rfl, Nat.zero_le _, Nat.zero_le _⟩ rfl rfl (Nat.le_of_ble_eq_true rfl) rfl (by decide) rfl ?_
  refine a_aload_n (pc := 6) ok dX6_share_6 rfl ?_
  refine AW.cast (M2 := (clM (fun i => (ringP 6 i).map (rn [0, 1, 2, 3, 4, 5, 6, 7, 8, 9, 10, 11, 12, 13, 14, 15, 16, 17, 18, 19, 20, 21, 22, 23, 24, 25, 26, 27, 28, 29, 30, 31, 32, 33, 34, 35, 36, 37, 38, 39, 40, 41, 42, 43, 44, 45, 46, 47, 48, 49, 50, 51, 52, 53, 54, 55, 56, 57, 58, 59, 60, 61, 62, 63, 64, 65, 66, 67, 68, 69, 70, 71])) kn nk S gb cnt nx σ)) ?_ rfl rfl (congrArg (fun f => (clM (f) kn nk S gb cnt nx σ)) ring_I.symm)
  refine x_callVv (pc := 7) ok [0, 1, 2, 3, 4, 5, 6, 7, 8, 9, 10, 11, 12, 13, 14, 15, 16, 17, 18, 19, 20, 21, 22, 23, 24, 25, 26, 27, 28, 29, 30, 31, 32, 33, 34, 35, 36, 37, 38, 39, 40, 41, 42, 43, 44, 45, 46, 47, 48, 49, 50, 51, 52, 53, 54, 55, 56, 57, 58, 59, 60, 61, 62, 63, 64, 65, 66, 67, 68, 69, 70, 71] 64 dX6_share_7 mv6_296 miX6_beginAction (c_beginW hc hx) ⟨by decide, by decide, rfl, rfl, Nat.zero_le _, Nat.zero_le _⟩ rfl rfl (Nat.le_of_ble_eq_true rfl) rfl rfl (by decide) rfl rfl rfl ?_
  refine AW.cast (M2 := (clM (ringP 6) (0) (0) S gb (min (cnt + 1) 14) ((nx + 1) % 14) (σP S nx σ))) ?_ rfl rfl (congrArg (fun f => (clM (f) (0) (0) S gb (min (cnt + 1) 14) ((nx + 1) % 14) (σP S nx σ))) ring_I)
  refine a_aload_n (pc := 10) ok dX6_share_10 rfl ?_
  refine a_getf (pc := 11) ok dX6_share_11 fl6_19 rfl rfl ?_
  refine a_iload_n (pc := 14) ok dX6_share_14 rfl ?_
  refine a_callVi (pc := 15) ok [1, 2, 3, 4] dX6_share_15 mv6_327 miX4_shareThresholds (c_shareThresholds hd hS.2.1 hS.2.2.1 k1) ⟨by decide, by decide, rfl, rfl, Nat.zero_le _, Nat.zero_le _⟩ rfl rfl (Nat.le_of_ble_eq_true rfl) rfl (by decide) rfl rfl rfl ?_
  exact a_iret (pc := 18) ok dX6_share_18 (⟨rfl, rfl⟩)
theorem dX6_least_0 : decode cX6_least 0 = .ok (.iload_n 1, 1) := by decide +kernel
theorem dX6_least_1 : decode cX6_least 1 = .ok (.iconst 1, 1) := by decide +kernel
theorem dX6_least_2 : decode cX6_least 2 = .ok (.bipush 30, 2) := by decide +kernel
theorem dX6_least_4 : decode cX6_least 4 = .ok (.invokestatic 76, 3) := by decide +kernel
theorem dX6_least_7 : decode cX6_least 7 = .ok (.aload_n 0, 1) := by decide +kernel
theorem dX6_least_8 : decode cX6_least 8 = .ok (.invokevirtual 296, 3) := by decide +kernel
theorem dX6_least_11 : decode cX6_least 11 = .ok (.aload_n 0, 1) := by decide +kernel
theorem dX6_least_12 : decode cX6_least 12 = .ok (.getfield 19, 3) := by decide +kernel
theorem dX6_least_15 : decode cX6_least 15 = .ok (.getfield 165, 3) := by decide +kernel
theorem dX6_least_18 : decode cX6_least 18 = .ok (.istore_n 2, 1) := by decide +kernel
theorem dX6_least_19 : decode cX6_least 19 = .ok (.aload_n 0, 1) := by decide +kernel
theorem dX6_least_20 : decode cX6_least 20 = .ok (.getfield 19, 3) := by decide +kernel
theorem dX6_least_23 : decode cX6_least 23 = .ok (.iload_n 1, 1) := by decide +kernel
theorem dX6_least_24 : decode cX6_least 24 = .ok (.putfield 165, 3) := by decide +kernel
theorem dX6_least_27 : decode cX6_least 27 = .ok (.iload_n 2, 1) := by decide +kernel
theorem dX6_least_28 : decode cX6_least 28 = .ok (.ireturn, 1) := by decide +kernel
set_option maxRecDepth 100000 in
theorem c_aleast {v : Int} (hS : SV S) (hc : 0 ≤ cnt ∧ cnt ≤ 14) (hx : 0 ≤ nx ∧ nx < 14) (h : kIn v 1 30 = 0) (hv : rg v) : Cd l yX6_least cX6_least 3 (some .int) rmX6_least [.ref 0, iv v] (clM (ringP 6) kn nk S gb cnt nx σ) (some (iv (sE S))) (clM (ringP 6) (0) (0) (setE S v) gb (min (cnt + 1) 14) ((nx + 1) % 14) (σP S nx σ)) := by
  refine Ct.of miX6_least (Nat.le_of_ble_eq_true rfl) ?_
  intro X hXl hN ok
  refine AW.cast (L2 := [some (.ref 0), some (iv v), none]) ?_ rfl rfl rfl
  have hd := hS.1
  have k1 := kIn_0 h
  refine a_iload_n (pc := 0) ok dX6_least_0 rfl ?_
  refine a_iconst (pc := 1) ok dX6_least_1 ?_
  refine a_bipush (pc := 2) ok dX6_least_2 (by decide) ?_
  refine a_callSv (pc := 4) ok [] dX6_least_4 mv6_76 miX6_mustBeWithin (c_mustBeWithin k1 hv (by unfold rg; omega) (by unfold rg; omega)) ⟨by decide, by decide, rfl, rfl, Nat.zero_le _, Nat.zero_le _⟩ rfl rfl (Nat.le_of_ble_eq_true rfl) rfl (by decide) rfl ?_
  refine a_aload_n (pc := 7) ok dX6_least_7 rfl ?_
  refine AW.cast (M2 := (clM (fun i => (ringP 6 i).map (rn [0, 1, 2, 3, 4, 5, 6, 7, 8, 9, 10, 11, 12, 13, 14, 15, 16, 17, 18, 19, 20, 21, 22, 23, 24, 25, 26, 27, 28, 29, 30, 31, 32, 33, 34, 35, 36, 37, 38, 39, 40, 41, 42, 43, 44, 45, 46, 47, 48, 49, 50, 51, 52, 53, 54, 55, 56, 57, 58, 59, 60, 61, 62, 63, 64, 65, 66, 67, 68, 69, 70, 71])) kn nk S gb cnt nx σ)) ?_ rfl rfl (congrArg (fun f => (clM (f) kn nk S gb cnt nx σ)) ring_I.symm)
  refine x_callVv (pc := 8) ok [0, 1, 2, 3, 4, 5, 6, 7, 8, 9, 10, 11, 12, 13, 14, 15, 16, 17, 18, 19, 20, 21, 22, 23, 24, 25, 26, 27, 28, 29, 30, 31, 32, 33, 34, 35, 36, 37, 38, 39, 40, 41, 42, 43, 44, 45, 46, 47, 48, 49, 50, 51, 52, 53, 54, 55, 56, 57, 58, 59, 60, 61, 62, 63, 64, 65, 66, 67, 68, 69, 70, 71] 64 dX6_least_8 mv6_296 miX6_beginAction (c_beginW hc hx) ⟨by decide, by decide, rfl, rfl, Nat.zero_le _, Nat.zero_le _⟩ rfl rfl (Nat.le_of_ble_eq_true rfl) rfl rfl (by decide) rfl rfl rfl ?_
  refine AW.cast (M2 := (clM (ringP 6) (0) (0) S gb (min (cnt + 1) 14) ((nx + 1) % 14) (σP S nx σ))) ?_ rfl rfl (congrArg (fun f => (clM (f) (0) (0) S gb (min (cnt + 1) 14) ((nx + 1) % 14) (σP S nx σ))) ring_I)
  refine a_aload_n (pc := 11) ok dX6_least_11 rfl ?_
  refine a_getf (pc := 12) ok dX6_least_12 fl6_19 rfl rfl ?_
  refine a_getf (pc := 15) ok dX6_least_15 fl6_165 rfl rfl ?_
  refine a_istore_n (pc := 18) ok dX6_least_18 rfl (by rw [hN]; decide) ?_
  refine a_aload_n (pc := 19) ok dX6_least_19 rfl ?_
  refine a_getf (pc := 20) ok dX6_least_20 fl6_19 rfl rfl ?_
  refine a_iload_n (pc := 23) ok dX6_least_23 rfl ?_
  refine a_putf (pc := 24) ok dX6_least_24 fp6_165 rfl (by first | rfl | decide) (by first | rfl | decide) (Nat.le_of_ble_eq_true rfl) ?_
  refine a_iload_n (pc := 27) ok dX6_least_27 rfl ?_
  exact a_iret (pc := 28) ok dX6_least_28 (⟨rfl, rfl⟩)
theorem dX6_hatch_0 : decode cX6_hatch 0 = .ok (.iload_n 1, 1) := by decide +kernel
theorem dX6_hatch_1 : decode cX6_hatch 1 = .ok (.iconst 0, 1) := by decide +kernel
theorem dX6_hatch_2 : decode cX6_hatch 2 = .ok (.iconst 5, 1) := by decide +kernel
theorem dX6_hatch_3 : decode cX6_hatch 3 = .ok (.invokestatic 330, 3) := by decide +kernel
theorem dX6_hatch_6 : decode cX6_hatch 6 = .ok (.invokestatic 203, 3) := by decide +kernel
theorem dX6_hatch_9 : decode cX6_hatch 9 = .ok (.iload_n 2, 1) := by decide +kernel
theorem dX6_hatch_10 : decode cX6_hatch 10 = .ok (.iconst 0, 1) := by decide +kernel
theorem dX6_hatch_11 : decode cX6_hatch 11 = .ok (.bipush 9, 2) := by decide +kernel
theorem dX6_hatch_13 : decode cX6_hatch 13 = .ok (.invokestatic 76, 3) := by decide +kernel
theorem dX6_hatch_16 : decode cX6_hatch 16 = .ok (.aload_n 0, 1) := by decide +kernel
theorem dX6_hatch_17 : decode cX6_hatch 17 = .ok (.invokevirtual 296, 3) := by decide +kernel
theorem dX6_hatch_20 : decode cX6_hatch 20 = .ok (.aload_n 0, 1) := by decide +kernel
theorem dX6_hatch_21 : decode cX6_hatch 21 = .ok (.getfield 19, 3) := by decide +kernel
theorem dX6_hatch_24 : decode cX6_hatch 24 = .ok (.getfield 284, 3) := by decide +kernel
theorem dX6_hatch_27 : decode cX6_hatch 27 = .ok (.iload_n 1, 1) := by decide +kernel
theorem dX6_hatch_28 : decode cX6_hatch 28 = .ok (.iaload, 1) := by decide +kernel
theorem dX6_hatch_29 : decode cX6_hatch 29 = .ok (.istore_n 3, 1) := by decide +kernel
theorem dX6_hatch_30 : decode cX6_hatch 30 = .ok (.aload_n 0, 1) := by decide +kernel
theorem dX6_hatch_31 : decode cX6_hatch 31 = .ok (.getfield 19, 3) := by decide +kernel
theorem dX6_hatch_34 : decode cX6_hatch 34 = .ok (.getfield 284, 3) := by decide +kernel
theorem dX6_hatch_37 : decode cX6_hatch 37 = .ok (.iload_n 1, 1) := by decide +kernel
theorem dX6_hatch_38 : decode cX6_hatch 38 = .ok (.iload_n 2, 1) := by decide +kernel
theorem dX6_hatch_39 : decode cX6_hatch 39 = .ok (.iastore, 1) := by decide +kernel
theorem dX6_hatch_40 : decode cX6_hatch 40 = .ok (.iload_n 3, 1) := by decide +kernel
theorem dX6_hatch_41 : decode cX6_hatch 41 = .ok (.ireturn, 1) := by decide +kernel
set_option maxRecDepth 100000 in
theorem c_ahatch {b v : Int} (hS : SV S) (hc : 0 ≤ cnt ∧ cnt ≤ 14) (hx : 0 ≤ nx ∧ nx < 14) (h : kHatch b v = 0) (hb : rg b) (hv : rg v) : Cd l yX6_hatch cX6_hatch 4 (some .int) rmX6_hatch [.ref 0, iv b, iv v] (clM (ringP 6) kn nk S gb cnt nx σ) (some (iv (sH S b))) (clM (ringP 6) (0) (0) (setH S b v) gb (min (cnt + 1) 14) ((nx + 1) % 14) (σP S nx σ)) := by
  refine Ct.of miX6_hatch (Nat.le_of_ble_eq_true rfl) ?_
  intro X hXl hN ok
  refine AW.cast (L2 := [some (.ref 0), some (iv b), some (iv v), none]) ?_ rfl rfl rfl
  have hd := hS.1
  have k1 : (0 ≤ b ∧ b ≤ 5) ∧ 0 ≤ v ∧ v ≤ 9 := by
    unfold kHatch at h
    repeat' split at h
    all_goals omega
  refine a_iload_n (pc := 0) ok dX6_hatch_0 rfl ?_
  refine a_iconst (pc := 1) ok dX6_hatch_1 ?_
  refine a_iconst (pc := 2) ok dX6_hatch_2 ?_
  refine a_callSp (pc := 3) ok [] dX6_hatch_3 mv6_330 miX6_isWithin (c_isWithin hb (by unfold rg; omega) (by unfold rg; omega)) ⟨by decide, by decide, rfl, rfl, Nat.zero_le _, Nat.zero_le _⟩ rfl rfl (Nat.le_of_ble_eq_true rfl) rfl (by decide) ?_
  refine a_callSv (pc := 6) ok [] dX6_hatch_6 mv6_203 miX6_mustExist (c_mustExist (bz_pos k1.1)) ⟨by decide, by decide, rfl, rfl, Nat.zero_le _, Nat.zero_le _⟩ rfl rfl (Nat.le_of_ble_eq_true rfl) rfl (by decide) rfl ?_
  refine a_iload_n (pc := 9) ok dX6_hatch_9 rfl ?_
  refine a_iconst (pc := 10) ok dX6_hatch_10 ?_
  refine a_bipush (pc := 11) ok dX6_hatch_11 (by decide) ?_
  refine a_callSv (pc := 13) ok [] dX6_hatch_13 mv6_76 miX6_mustBeWithin (c_mustBeWithin k1.2 hv (by unfold rg; omega) (by unfold rg; omega)) ⟨by decide, by decide, rfl, rfl, Nat.zero_le _, Nat.zero_le _⟩ rfl rfl (Nat.le_of_ble_eq_true rfl) rfl (by decide) rfl ?_
  refine a_aload_n (pc := 16) ok dX6_hatch_16 rfl ?_
  refine AW.cast (M2 := (clM (fun i => (ringP 6 i).map (rn [0, 1, 2, 3, 4, 5, 6, 7, 8, 9, 10, 11, 12, 13, 14, 15, 16, 17, 18, 19, 20, 21, 22, 23, 24, 25, 26, 27, 28, 29, 30, 31, 32, 33, 34, 35, 36, 37, 38, 39, 40, 41, 42, 43, 44, 45, 46, 47, 48, 49, 50, 51, 52, 53, 54, 55, 56, 57, 58, 59, 60, 61, 62, 63, 64, 65, 66, 67, 68, 69, 70, 71])) kn nk S gb cnt nx σ)) ?_ rfl rfl (congrArg (fun f => (clM (f) kn nk S gb cnt nx σ)) ring_I.symm)
  refine x_callVv (pc := 17) ok [0, 1, 2, 3, 4, 5, 6, 7, 8, 9, 10, 11, 12, 13, 14, 15, 16, 17, 18, 19, 20, 21, 22, 23, 24, 25, 26, 27, 28, 29, 30, 31, 32, 33, 34, 35, 36, 37, 38, 39, 40, 41, 42, 43, 44, 45, 46, 47, 48, 49, 50, 51, 52, 53, 54, 55, 56, 57, 58, 59, 60, 61, 62, 63, 64, 65, 66, 67, 68, 69, 70, 71] 64 dX6_hatch_17 mv6_296 miX6_beginAction (c_beginW hc hx) ⟨by decide, by decide, rfl, rfl, Nat.zero_le _, Nat.zero_le _⟩ rfl rfl (Nat.le_of_ble_eq_true rfl) rfl rfl (by decide) rfl rfl rfl ?_
  refine AW.cast (M2 := (clM (ringP 6) (0) (0) S gb (min (cnt + 1) 14) ((nx + 1) % 14) (σP S nx σ))) ?_ rfl rfl (congrArg (fun f => (clM (f) (0) (0) S gb (min (cnt + 1) 14) ((nx + 1) % 14) (σP S nx σ))) ring_I)
  refine a_aload_n (pc := 20) ok dX6_hatch_20 rfl ?_
  refine a_getf (pc := 21) ok dX6_hatch_21 fl6_19 rfl rfl ?_
  refine a_getf (pc := 24) ok dX6_hatch_24 fl6_284 rfl rfl ?_
  refine a_iload_n (pc := 27) ok dX6_hatch_27 rfl ?_
  refine a_iald (pc := 28) ok dX6_hatch_28 rfl (by first | decide | omega) (by first | omega | (unfold rg; omega) | (simp only [rg] at *; omega) | exact bz_rg _ | grind [rg]) ?_
  refine a_istore_n (pc := 29) ok dX6_hatch_29 rfl (by rw [hN]; decide) ?_
  refine a_aload_n (pc := 30) ok dX6_hatch_30 rfl ?_
  refine a_getf (pc := 31) ok dX6_hatch_31 fl6_19 rfl rfl ?_
  refine a_getf (pc := 34) ok dX6_hatch_34 fl6_284 rfl rfl ?_
  refine a_iload_n (pc := 37) ok dX6_hatch_37 rfl ?_
  refine a_iload_n (pc := 38) ok dX6_hatch_38 rfl ?_
  refine a_iast (pc := 39) ok dX6_hatch_39 rfl (by first | decide | omega) (by first | omega | (unfold rg; omega) | (simp only [rg] at *; omega) | exact bz_rg _ | grind [rg]) ?_
  refine a_iload_n (pc := 40) ok dX6_hatch_40 rfl ?_
  exact a_iret (pc := 41) ok dX6_hatch_41 (⟨rfl, rfl⟩)
theorem dX6_line_0 : decode cX6_line 0 = .ok (.iload_n 1, 1) := by decide +kernel
theorem dX6_line_1 : decode cX6_line 1 = .ok (.iconst 0, 1) := by decide +kernel
theorem dX6_line_2 : decode cX6_line 2 = .ok (.bipush 9, 2) := by decide +kernel
theorem dX6_line_4 : decode cX6_line 4 = .ok (.invokestatic 76, 3) := by decide +kernel
theorem dX6_line_7 : decode cX6_line 7 = .ok (.aload_n 0, 1) := by decide +kernel
theorem dX6_line_8 : decode cX6_line 8 = .ok (.invokevirtual 296, 3) := by decide +kernel
theorem dX6_line_11 : decode cX6_line 11 = .ok (.aload_n 0, 1) := by decide +kernel
theorem dX6_line_12 : decode cX6_line 12 = .ok (.getfield 19, 3) := by decide +kernel
theorem dX6_line_15 : decode cX6_line 15 = .ok (.getfield 193, 3) := by decide +kernel
theorem dX6_line_18 : decode cX6_line 18 = .ok (.istore_n 2, 1) := by decide +kernel
theorem dX6_line_19 : decode cX6_line 19 = .ok (.aload_n 0, 1) := by decide +kernel
theorem dX6_line_20 : decode cX6_line 20 = .ok (.getfield 19, 3) := by decide +kernel
theorem dX6_line_23 : decode cX6_line 23 = .ok (.iload_n 1, 1) := by decide +kernel
theorem dX6_line_24 : decode cX6_line 24 = .ok (.putfield 193, 3) := by decide +kernel
theorem dX6_line_27 : decode cX6_line 27 = .ok (.iload_n 2, 1) := by decide +kernel
theorem dX6_line_28 : decode cX6_line 28 = .ok (.ireturn, 1) := by decide +kernel
set_option maxRecDepth 100000 in
theorem c_aline {v : Int} (hS : SV S) (hc : 0 ≤ cnt ∧ cnt ≤ 14) (hx : 0 ≤ nx ∧ nx < 14) (h : kIn v 0 9 = 0) (hv : rg v) : Cd l yX6_line cX6_line 3 (some .int) rmX6_line [.ref 0, iv v] (clM (ringP 6) kn nk S gb cnt nx σ) (some (iv (sI S))) (clM (ringP 6) (0) (0) (setI S v) gb (min (cnt + 1) 14) ((nx + 1) % 14) (σP S nx σ)) := by
  refine Ct.of miX6_line (Nat.le_of_ble_eq_true rfl) ?_
  intro X hXl hN ok
  refine AW.cast (L2 := [some (.ref 0), some (iv v), none]) ?_ rfl rfl rfl
  have hd := hS.1
  have k1 := kIn_0 h
  refine a_iload_n (pc := 0) ok dX6_line_0 rfl ?_
  refine a_iconst (pc := 1) ok dX6_line_1 ?_
  refine a_bipush (pc := 2) ok dX6_line_2 (by decide) ?_
  refine a_callSv (pc := 4) ok [] dX6_line_4 mv6_76 miX6_mustBeWithin (c_mustBeWithin k1 hv (by unfold rg; omega) (by unfold rg; omega)) ⟨by decide, by decide, rfl, rfl, Nat.zero_le _, Nat.zero_le _⟩ rfl rfl (Nat.le_of_ble_eq_true rfl) rfl (by decide) rfl ?_
  refine a_aload_n (pc := 7) ok dX6_line_7 rfl ?_
  refine AW.cast (M2 := (clM (fun i => (ringP 6 i).map (rn [0, 1, 2, 3, 4, 5, 6, 7, 8, 9, 10, 11, 12, 13, 14, 15, 16, 17, 18, 19, 20, 21, 22, 23, 24, 25, 26, 27, 28, 29, 30, 31, 32, 33, 34, 35, 36, 37, 38, 39, 40, 41, 42, 43, 44, 45, 46, 47, 48, 49, 50, 51, 52, 53, 54, 55, 56, 57, 58, 59, 60, 61, 62, 63, 64, 65, 66, 67, 68, 69, 70, 71])) kn nk S gb cnt nx σ)) ?_ rfl rfl (congrArg (fun f => (clM (f) kn nk S gb cnt nx σ)) ring_I.symm)
  refine x_callVv (pc := 8) ok [0, 1, 2, 3, 4, 5, 6, 7, 8, 9, 10, 11, 12, 13, 14, 15, 16, 17, 18, 19, 20, 21, 22, 23, 24, 25, 26, 27, 28, 29, 30, 31, 32, 33, 34, 35, 36, 37, 38, 39, 40, 41, 42, 43, 44, 45, 46, 47, 48, 49, 50, 51, 52, 53, 54, 55, 56, 57, 58, 59, 60, 61, 62, 63, 64, 65, 66, 67, 68, 69, 70, 71] 64 dX6_line_8 mv6_296 miX6_beginAction (c_beginW hc hx) ⟨by decide, by decide, rfl, rfl, Nat.zero_le _, Nat.zero_le _⟩ rfl rfl (Nat.le_of_ble_eq_true rfl) rfl rfl (by decide) rfl rfl rfl ?_
  refine AW.cast (M2 := (clM (ringP 6) (0) (0) S gb (min (cnt + 1) 14) ((nx + 1) % 14) (σP S nx σ))) ?_ rfl rfl (congrArg (fun f => (clM (f) (0) (0) S gb (min (cnt + 1) 14) ((nx + 1) % 14) (σP S nx σ))) ring_I)
  refine a_aload_n (pc := 11) ok dX6_line_11 rfl ?_
  refine a_getf (pc := 12) ok dX6_line_12 fl6_19 rfl rfl ?_
  refine a_getf (pc := 15) ok dX6_line_15 fl6_193 rfl rfl ?_
  refine a_istore_n (pc := 18) ok dX6_line_18 rfl (by rw [hN]; decide) ?_
  refine a_aload_n (pc := 19) ok dX6_line_19 rfl ?_
  refine a_getf (pc := 20) ok dX6_line_20 fl6_19 rfl rfl ?_
  refine a_iload_n (pc := 23) ok dX6_line_23 rfl ?_
  refine a_putf (pc := 24) ok dX6_line_24 fp6_193 rfl (by first | rfl | decide) (by first | rfl | decide) (Nat.le_of_ble_eq_true rfl) ?_
  refine a_iload_n (pc := 27) ok dX6_line_27 rfl ?_
  exact a_iret (pc := 28) ok dX6_line_28 (⟨rfl, rfl⟩)
theorem dX6_blur_0 : decode cX6_blur 0 = .ok (.aload_n 0, 1) := by decide +kernel
theorem dX6_blur_1 : decode cX6_blur 1 = .ok (.invokevirtual 296, 3) := by decide +kernel
theorem dX6_blur_4 : decode cX6_blur 4 = .ok (.aload_n 0, 1) := by decide +kernel
theorem dX6_blur_5 : decode cX6_blur 5 = .ok (.getfield 19, 3) := by decide +kernel
theorem dX6_blur_8 : decode cX6_blur 8 = .ok (.aload_n 0, 1) := by decide +kernel
theorem dX6_blur_9 : decode cX6_blur 9 = .ok (.getfield 72, 3) := by decide +kernel
theorem dX6_blur_12 : decode cX6_blur 12 = .ok (.invokevirtual 149, 3) := by decide +kernel
theorem dX6_blur_15 : decode cX6_blur 15 = .ok (.ireturn, 1) := by decide +kernel
set_option maxRecDepth 100000 in
theorem c_ablur  (hS : SV S) (hc : 0 ≤ cnt ∧ cnt ≤ 14) (hx : 0 ≤ nx ∧ nx < 14)  : Cd l yX6_blur cX6_blur 1 (some .int) rmX6_blur [.ref 0] (clM (ringP 6) kn nk S gb cnt nx σ) (some (iv (cntK (fun j => decide (blF (sC S) (sR S) (sG S) j ≠ sG S j)) (sC S * sR S).toNat))) (clM (ringP 6) (0) (0) (gU S) (sG S) (min (cnt + 1) 14) ((nx + 1) % 14) (σP S nx σ)) := by
  refine Ct.of miX6_blur (Nat.le_of_ble_eq_true rfl) ?_
  intro X hXl hN ok
  refine AW.cast (L2 := [some (.ref 0)]) ?_ rfl rfl rfl
  have hd := hS.1
  refine a_aload_n (pc := 0) ok dX6_blur_0 rfl ?_
  refine AW.cast (M2 := (clM (fun i => (ringP 6 i).map (rn [0, 1, 2, 3, 4, 5, 6, 7, 8, 9, 10, 11, 12, 13, 14, 15, 16, 17, 18, 19, 20, 21, 22, 23, 24, 25, 26, 27, 28, 29, 30, 31, 32, 33, 34, 35, 36, 37, 38, 39, 40, 41, 42, 43, 44, 45, 46, 47, 48, 49, 50, 51, 52, 53, 54, 55, 56, 57, 58, 59, 60, 61, 62, 63, 64, 65, 66, 67, 68, 69, 70, 71])) kn nk S gb cnt nx σ)) ?_ rfl rfl (congrArg (fun f => (clM (f) kn nk S gb cnt nx σ)) ring_I.symm)
  refine x_callVv (pc := 1) ok [0, 1, 2, 3, 4, 5, 6, 7, 8, 9, 10, 11, 12, 13, 14, 15, 16, 17, 18, 19, 20, 21, 22, 23, 24, 25, 26, 27, 28, 29, 30, 31, 32, 33, 34, 35, 36, 37, 38, 39, 40, 41, 42, 43, 44, 45, 46, 47, 48, 49, 50, 51, 52, 53, 54, 55, 56, 57, 58, 59, 60, 61, 62, 63, 64, 65, 66, 67, 68, 69, 70, 71] 64 dX6_blur_1 mv6_296 miX6_beginAction (c_beginW hc hx) ⟨by decide, by decide, rfl, rfl, Nat.zero_le _, Nat.zero_le _⟩ rfl rfl (Nat.le_of_ble_eq_true rfl) rfl rfl (by decide) rfl rfl rfl ?_
  refine AW.cast (M2 := (clM (ringP 6) (0) (0) S gb (min (cnt + 1) 14) ((nx + 1) % 14) (σP S nx σ))) ?_ rfl rfl (congrArg (fun f => (clM (f) (0) (0) S gb (min (cnt + 1) 14) ((nx + 1) % 14) (σP S nx σ))) ring_I)
  refine a_aload_n (pc := 4) ok dX6_blur_4 rfl ?_
  refine a_getf (pc := 5) ok dX6_blur_5 fl6_19 rfl rfl ?_
  refine a_aload_n (pc := 8) ok dX6_blur_8 rfl ?_
  refine a_getf (pc := 9) ok dX6_blur_9 fl6_72 rfl rfl ?_
  refine a_callVi (pc := 12) ok [1, 2, 3, 4, 5] dX6_blur_12 mv6_149 miX4_blurGreys (c_blurGreys hd hS.2.1) ⟨by decide, by decide, rfl, rfl, Nat.zero_le _, Nat.zero_le _⟩ rfl rfl (Nat.le_of_ble_eq_true rfl) rfl (by decide) rfl rfl rfl ?_
  exact a_iret (pc := 15) ok dX6_blur_15 (⟨rfl, rfl⟩)
theorem dX6_invert_0 : decode cX6_invert 0 = .ok (.aload_n 0, 1) := by decide +kernel
theorem dX6_invert_1 : decode cX6_invert 1 = .ok (.invokevirtual 296, 3) := by decide +kernel
theorem dX6_invert_4 : decode cX6_invert 4 = .ok (.aload_n 0, 1) := by decide +kernel
theorem dX6_invert_5 : decode cX6_invert 5 = .ok (.getfield 19, 3) := by decide +kernel
theorem dX6_invert_8 : decode cX6_invert 8 = .ok (.invokevirtual 153, 3) := by decide +kernel
theorem dX6_invert_11 : decode cX6_invert 11 = .ok (.pop, 1) := by decide +kernel
theorem dX6_invert_12 : decode cX6_invert 12 = .ok (.aload_n 0, 1) := by decide +kernel
theorem dX6_invert_13 : decode cX6_invert 13 = .ok (.getfield 19, 3) := by decide +kernel
theorem dX6_invert_16 : decode cX6_invert 16 = .ok (.invokevirtual 196, 3) := by decide +kernel
theorem dX6_invert_19 : decode cX6_invert 19 = .ok (.ireturn, 1) := by decide +kernel
set_option maxRecDepth 100000 in
theorem c_ainvert  (hS : SV S) (hc : 0 ≤ cnt ∧ cnt ≤ 14) (hx : 0 ≤ nx ∧ nx < 14)  : Cd l yX6_invert cX6_invert 1 (some .int) rmX6_invert [.ref 0] (clM (ringP 6) kn nk S gb cnt nx σ) (some (iv (sumK (sG (gI S)) (sC S * sR S).toNat))) (clM (ringP 6) (0) (0) (gI S) gb (min (cnt + 1) 14) ((nx + 1) % 14) (σP S nx σ)) := by
  refine Ct.of miX6_invert (Nat.le_of_ble_eq_true rfl) ?_
  intro X hXl hN ok
  refine AW.cast (L2 := [some (.ref 0)]) ?_ rfl rfl rfl
  have hd := hS.1
  refine a_aload_n (pc := 0) ok dX6_invert_0 rfl ?_
  refine AW.cast (M2 := (clM (fun i => (ringP 6 i).map (rn [0, 1, 2, 3, 4, 5, 6, 7, 8, 9, 10, 11, 12, 13, 14, 15, 16, 17, 18, 19, 20, 21, 22, 23, 24, 25, 26, 27, 28, 29, 30, 31, 32, 33, 34, 35, 36, 37, 38, 39, 40, 41, 42, 43, 44, 45, 46, 47, 48, 49, 50, 51, 52, 53, 54, 55, 56, 57, 58, 59, 60, 61, 62, 63, 64, 65, 66, 67, 68, 69, 70, 71])) kn nk S gb cnt nx σ)) ?_ rfl rfl (congrArg (fun f => (clM (f) kn nk S gb cnt nx σ)) ring_I.symm)
  refine x_callVv (pc := 1) ok [0, 1, 2, 3, 4, 5, 6, 7, 8, 9, 10, 11, 12, 13, 14, 15, 16, 17, 18, 19, 20, 21, 22, 23, 24, 25, 26, 27, 28, 29, 30, 31, 32, 33, 34, 35, 36, 37, 38, 39, 40, 41, 42, 43, 44, 45, 46, 47, 48, 49, 50, 51, 52, 53, 54, 55, 56, 57, 58, 59, 60, 61, 62, 63, 64, 65, 66, 67, 68, 69, 70, 71] 64 dX6_invert_1 mv6_296 miX6_beginAction (c_beginW hc hx) ⟨by decide, by decide, rfl, rfl, Nat.zero_le _, Nat.zero_le _⟩ rfl rfl (Nat.le_of_ble_eq_true rfl) rfl rfl (by decide) rfl rfl rfl ?_
  refine AW.cast (M2 := (clM (ringP 6) (0) (0) S gb (min (cnt + 1) 14) ((nx + 1) % 14) (σP S nx σ))) ?_ rfl rfl (congrArg (fun f => (clM (f) (0) (0) S gb (min (cnt + 1) 14) ((nx + 1) % 14) (σP S nx σ))) ring_I)
  refine a_aload_n (pc := 4) ok dX6_invert_4 rfl ?_
  refine a_getf (pc := 5) ok dX6_invert_5 fl6_19 rfl rfl ?_
  refine a_callVi (pc := 8) ok [1, 2, 3, 4] dX6_invert_8 mv6_153 miX4_invertGreys (c_invertGreys hd) ⟨by decide, by decide, rfl, rfl, Nat.zero_le _, Nat.zero_le _⟩ rfl rfl (Nat.le_of_ble_eq_true rfl) rfl (by decide) rfl rfl rfl ?_
  refine a_pop (pc := 11) ok dX6_invert_11 rfl ?_
  refine a_aload_n (pc := 12) ok dX6_invert_12 rfl ?_
  refine a_getf (pc := 13) ok dX6_invert_13 fl6_19 rfl rfl ?_
  refine a_callVp (pc := 16) ok [1, 2, 3, 4] dX6_invert_16 mv6_196 miX4_sumOfGreys (c_sumOfGreys (G := sG (gI S)) hd) ⟨by decide, by decide, rfl, rfl, Nat.zero_le _, Nat.zero_le _⟩ rfl rfl (Nat.le_of_ble_eq_true rfl) rfl (by decide) rfl rfl ?_
  exact a_iret (pc := 19) ok dX6_invert_19 (⟨rfl, rfl⟩)
theorem dX6_spread_0 : decode cX6_spread 0 = .ok (.iload_n 1, 1) := by decide +kernel
theorem dX6_spread_1 : decode cX6_spread 1 = .ok (.iconst 1, 1) := by decide +kernel
theorem dX6_spread_2 : decode cX6_spread 2 = .ok (.bipush 49, 2) := by decide +kernel
theorem dX6_spread_4 : decode cX6_spread 4 = .ok (.invokestatic 76, 3) := by decide +kernel
theorem dX6_spread_7 : decode cX6_spread 7 = .ok (.aload_n 0, 1) := by decide +kernel
theorem dX6_spread_8 : decode cX6_spread 8 = .ok (.invokevirtual 296, 3) := by decide +kernel
theorem dX6_spread_11 : decode cX6_spread 11 = .ok (.aload_n 0, 1) := by decide +kernel
theorem dX6_spread_12 : decode cX6_spread 12 = .ok (.getfield 19, 3) := by decide +kernel
theorem dX6_spread_15 : decode cX6_spread 15 = .ok (.iload_n 1, 1) := by decide +kernel
theorem dX6_spread_16 : decode cX6_spread 16 = .ok (.invokevirtual 333, 3) := by decide +kernel
theorem dX6_spread_19 : decode cX6_spread 19 = .ok (.ireturn, 1) := by decide +kernel
set_option maxRecDepth 100000 in
theorem c_aspread {v : Int} (hS : SV S) (hc : 0 ≤ cnt ∧ cnt ≤ 14) (hx : 0 ≤ nx ∧ nx < 14) (h : kIn v 1 49 = 0) (hv : rg v) : Cd l yX6_spread cX6_spread 2 (some .int) rmX6_spread [.ref 0, iv v] (clM (ringP 6) kn nk S gb cnt nx σ) (some (iv (cntK (fun j => decide (spF v (sG S j) ≠ sG S j)) (sC S * sR S).toNat))) (clM (ringP 6) (0) (0) (gQ S v) gb (min (cnt + 1) 14) ((nx + 1) % 14) (σP S nx σ)) := by
  refine Ct.of miX6_spread (Nat.le_of_ble_eq_true rfl) ?_
  intro X hXl hN ok
  refine AW.cast (L2 := [some (.ref 0), some (iv v)]) ?_ rfl rfl rfl
  have hd := hS.1
  have k1 := kIn_0 h
  refine a_iload_n (pc := 0) ok dX6_spread_0 rfl ?_
  refine a_iconst (pc := 1) ok dX6_spread_1 ?_
  refine a_bipush (pc := 2) ok dX6_spread_2 (by decide) ?_
  refine a_callSv (pc := 4) ok [] dX6_spread_4 mv6_76 miX6_mustBeWithin (c_mustBeWithin k1 hv (by unfold rg; omega) (by unfold rg; omega)) ⟨by decide, by decide, rfl, rfl, Nat.zero_le _, Nat.zero_le _⟩ rfl rfl (Nat.le_of_ble_eq_true rfl) rfl (by decide) rfl ?_
  refine a_aload_n (pc := 7) ok dX6_spread_7 rfl ?_
  refine AW.cast (M2 := (clM (fun i => (ringP 6 i).map (rn [0, 1, 2, 3, 4, 5, 6, 7, 8, 9, 10, 11, 12, 13, 14, 15, 16, 17, 18, 19, 20, 21, 22, 23, 24, 25, 26, 27, 28, 29, 30, 31, 32, 33, 34, 35, 36, 37, 38, 39, 40, 41, 42, 43, 44, 45, 46, 47, 48, 49, 50, 51, 52, 53, 54, 55, 56, 57, 58, 59, 60, 61, 62, 63, 64, 65, 66, 67, 68, 69, 70, 71])) kn nk S gb cnt nx σ)) ?_ rfl rfl (congrArg (fun f => (clM (f) kn nk S gb cnt nx σ)) ring_I.symm)
  refine x_callVv (pc := 8) ok [0, 1, 2, 3, 4, 5, 6, 7, 8, 9, 10, 11, 12, 13, 14, 15, 16, 17, 18, 19, 20, 21, 22, 23, 24, 25, 26, 27, 28, 29, 30, 31, 32, 33, 34, 35, 36, 37, 38, 39, 40, 41, 42, 43, 44, 45, 46, 47, 48, 49, 50, 51, 52, 53, 54, 55, 56, 57, 58, 59, 60, 61, 62, 63, 64, 65, 66, 67, 68, 69, 70, 71] 64 dX6_spread_8 mv6_296 miX6_beginAction (c_beginW hc hx) ⟨by decide, by decide, rfl, rfl, Nat.zero_le _, Nat.zero_le _⟩ rfl rfl (Nat.le_of_ble_eq_true rfl) rfl rfl (by decide) rfl rfl rfl ?_
  refine AW.cast (M2 := (clM (ringP 6) (0) (0) S gb (min (cnt + 1) 14) ((nx + 1) % 14) (σP S nx σ))) ?_ rfl rfl (congrArg (fun f => (clM (f) (0) (0) S gb (min (cnt + 1) 14) ((nx + 1) % 14) (σP S nx σ))) ring_I)
  refine a_aload_n (pc := 11) ok dX6_spread_11 rfl ?_
  refine a_getf (pc := 12) ok dX6_spread_12 fl6_19 rfl rfl ?_
  refine a_iload_n (pc := 15) ok dX6_spread_15 rfl ?_
  refine a_callVi (pc := 16) ok [1, 2, 3, 4] dX6_spread_16 mv6_333 miX4_spreadGreys (c_spreadGreys hd hS.2.1 k1) ⟨by decide, by decide, rfl, rfl, Nat.zero_le _, Nat.zero_le _⟩ rfl rfl (Nat.le_of_ble_eq_true rfl) rfl (by decide) rfl rfl rfl ?_
  exact a_iret (pc := 19) ok dX6_spread_19 (⟨rfl, rfl⟩)
theorem dX6_noise_0 : decode cX6_noise 0 = .ok (.iload_n 3, 1) := by decide +kernel
theorem dX6_noise_1 : decode cX6_noise 1 = .ok (.iconst 1, 1) := by decide +kernel
theorem dX6_noise_2 : decode cX6_noise 2 = .ok (.bipush 50, 2) := by decide +kernel
theorem dX6_noise_4 : decode cX6_noise 4 = .ok (.invokestatic 76, 3) := by decide +kernel
theorem dX6_noise_7 : decode cX6_noise 7 = .ok (.aload_n 0, 1) := by decide +kernel
theorem dX6_noise_8 : decode cX6_noise 8 = .ok (.invokevirtual 296, 3) := by decide +kernel
theorem dX6_noise_11 : decode cX6_noise 11 = .ok (.aload_n 0, 1) := by decide +kernel
theorem dX6_noise_12 : decode cX6_noise 12 = .ok (.getfield 19, 3) := by decide +kernel
theorem dX6_noise_15 : decode cX6_noise 15 = .ok (.lload_n 1, 1) := by decide +kernel
theorem dX6_noise_16 : decode cX6_noise 16 = .ok (.iload_n 3, 1) := by decide +kernel
theorem dX6_noise_17 : decode cX6_noise 17 = .ok (.invokevirtual 336, 3) := by decide +kernel
theorem dX6_noise_20 : decode cX6_noise 20 = .ok (.ireturn, 1) := by decide +kernel
set_option maxRecDepth 100000 in
theorem c_anoise {x v : Int} (hS : SV S) (hc : 0 ≤ cnt ∧ cnt ≤ 14) (hx : 0 ≤ nx ∧ nx < 14) (h : kIn v 1 50 = 0) (hv : rg v) : Cd l yX6_noise cX6_noise 4 (some .int) rmX6_noise [.ref 0, jv x, iv v] (clM (ringP 6) kn nk S gb cnt nx σ) (some (iv (cntK (fun j => decide (noF (sG S) x v j ≠ sG S j)) (sC S * sR S).toNat))) (clM (ringP 6) (0) (0) (gO S x v) gb (min (cnt + 1) 14) ((nx + 1) % 14) (σP S nx σ)) := by
  refine Ct.of miX6_noise (Nat.le_of_ble_eq_true rfl) ?_
  intro X hXl hN ok
  refine AW.cast (L2 := [some (.ref 0), some (jv x), none, some (iv v)]) ?_ rfl rfl rfl
  have hd := hS.1
  have k1 := kIn_0 h
  refine a_iload_n (pc := 0) ok dX6_noise_0 rfl ?_
  refine a_iconst (pc := 1) ok dX6_noise_1 ?_
  refine a_bipush (pc := 2) ok dX6_noise_2 (by decide) ?_
  refine a_callSv (pc := 4) ok [] dX6_noise_4 mv6_76 miX6_mustBeWithin (c_mustBeWithin k1 hv (by unfold rg; omega) (by unfold rg; omega)) ⟨by decide, by decide, rfl, rfl, Nat.zero_le _, Nat.zero_le _⟩ rfl rfl (Nat.le_of_ble_eq_true rfl) rfl (by decide) rfl ?_
  refine a_aload_n (pc := 7) ok dX6_noise_7 rfl ?_
  refine AW.cast (M2 := (clM (fun i => (ringP 6 i).map (rn [0, 1, 2, 3, 4, 5, 6, 7, 8, 9, 10, 11, 12, 13, 14, 15, 16, 17, 18, 19, 20, 21, 22, 23, 24, 25, 26, 27, 28, 29, 30, 31, 32, 33, 34, 35, 36, 37, 38, 39, 40, 41, 42, 43, 44, 45, 46, 47, 48, 49, 50, 51, 52, 53, 54, 55, 56, 57, 58, 59, 60, 61, 62, 63, 64, 65, 66, 67, 68, 69, 70, 71])) kn nk S gb cnt nx σ)) ?_ rfl rfl (congrArg (fun f => (clM (f) kn nk S gb cnt nx σ)) ring_I.symm)
  refine x_callVv (pc := 8) ok [0, 1, 2, 3, 4, 5, 6, 7, 8, 9, 10, 11, 12, 13, 14, 15, 16, 17, 18, 19, 20, 21, 22, 23, 24, 25, 26, 27, 28, 29, 30, 31, 32, 33, 34, 35, 36, 37, 38, 39, 40, 41, 42, 43, 44, 45, 46, 47, 48, 49, 50, 51, 52, 53, 54, 55, 56, 57, 58, 59, 60, 61, 62, 63, 64, 65, 66, 67, 68, 69, 70, 71] 64 dX6_noise_8 mv6_296 miX6_beginAction (c_beginW hc hx) ⟨by decide, by decide, rfl, rfl, Nat.zero_le _, Nat.zero_le _⟩ rfl rfl (Nat.le_of_ble_eq_true rfl) rfl rfl (by decide) rfl rfl rfl ?_
  refine AW.cast (M2 := (clM (ringP 6) (0) (0) S gb (min (cnt + 1) 14) ((nx + 1) % 14) (σP S nx σ))) ?_ rfl rfl (congrArg (fun f => (clM (f) (0) (0) S gb (min (cnt + 1) 14) ((nx + 1) % 14) (σP S nx σ))) ring_I)
  refine a_aload_n (pc := 11) ok dX6_noise_11 rfl ?_
  refine a_getf (pc := 12) ok dX6_noise_12 fl6_19 rfl rfl ?_
  refine a_lload_n (pc := 15) ok dX6_noise_15 rfl ?_
  refine a_iload_n (pc := 16) ok dX6_noise_16 rfl ?_
  refine a_callVi (pc := 17) ok [1, 2, 3, 4] dX6_noise_17 mv6_336 miX4_addNoise (c_addNoise hd hS.2.1 k1) ⟨by decide, by decide, rfl, rfl, Nat.zero_le _, Nat.zero_le _⟩ rfl rfl (Nat.le_of_ble_eq_true rfl) rfl (by decide) rfl rfl rfl ?_
  exact a_iret (pc := 20) ok dX6_noise_20 (⟨rfl, rfl⟩)
end CM2
