/-! STATE: counts, cells, sums. -/
section ST1
variable {l : Launch}
/-- Arrays.fill -/
theorem dAF_fill_0 : decode cAF_fill 0 = .ok (.iconst 0, 1) := by decide +kernel
theorem dAF_fill_1 : decode cAF_fill 1 = .ok (.istore_n 2, 1) := by decide +kernel
theorem dAF_fill_2 : decode cAF_fill 2 = .ok (.aload_n 0, 1) := by decide +kernel
theorem dAF_fill_3 : decode cAF_fill 3 = .ok (.arraylength, 1) := by decide +kernel
theorem dAF_fill_4 : decode cAF_fill 4 = .ok (.istore_n 3, 1) := by decide +kernel
theorem dAF_fill_5 : decode cAF_fill 5 = .ok (.iload_n 2, 1) := by decide +kernel
theorem dAF_fill_6 : decode cAF_fill 6 = .ok (.iload_n 3, 1) := by decide +kernel
theorem dAF_fill_7 : decode cAF_fill 7 = .ok (.if_icmp .ge 13, 3) := by decide +kernel
theorem dAF_fill_10 : decode cAF_fill 10 = .ok (.aload_n 0, 1) := by decide +kernel
theorem dAF_fill_11 : decode cAF_fill 11 = .ok (.iload_n 2, 1) := by decide +kernel
theorem dAF_fill_12 : decode cAF_fill 12 = .ok (.iload_n 1, 1) := by decide +kernel
theorem dAF_fill_13 : decode cAF_fill 13 = .ok (.iastore, 1) := by decide +kernel
theorem dAF_fill_14 : decode cAF_fill 14 = .ok (.iinc 2 1, 3) := by decide +kernel
theorem dAF_fill_17 : decode cAF_fill 17 = .ok (.goto (-12), 3) := by decide +kernel
theorem dAF_fill_20 : decode cAF_fill 20 = .ok (.return_, 1) := by decide +kernel
theorem c_fill {n : Nat} {f : Int → Int} {v : Int} (hn : n < 2147483648) : Cd l yAF_fill cAF_fill 4 none rmAF_fill [.ref 0, iv v] [ia n f] none [ia n (fun _ => v)] := by
  refine Ct.of miAF_fill (Nat.le_of_ble_eq_true rfl) ?_
  intro X hXl hN ok
  refine AW.cast (L2 := [some (.ref 0), some (iv v), none, none]) ?_ rfl rfl rfl
  have loop : ∀ k : Nat, k ≤ n → AW X 0 0 5 [some (.ref 0), some (iv v), some (iv k), some (iv n)] [] [ia n (fun j => if j < k then v else f j)] := by
    refine wfl (fun k : Nat => n - k) (fun k => k ≤ n) _ ?_
    intro k hk ih
    refine a_iload_n (pc := 5) ok dAF_fill_5 rfl ?_
    refine a_iload_n (pc := 6) ok dAF_fill_6 rfl ?_
    refine a_icmp_ge (pc := 7) (tgt := 20) ok dAF_fill_7 (by decide) (by first | omega | (unfold rg; omega) | (simp only [rg] at *; omega) | exact bz_rg _ | grind [rg]) (by first | omega | (unfold rg; omega) | (simp only [rg] at *; omega) | exact bz_rg _ | grind [rg]) (fun c7 => ?_) (fun c7 => ?_)
    · refine AW.ext (q := 0) (g := fun _ => v) rfl (fun j _ _ => if_pos (by omega)) ?_
      exact a_vret (pc := 20) ok dAF_fill_20 (⟨rfl, rfl⟩)
    · refine a_aload_n (pc := 10) ok dAF_fill_10 rfl ?_
      refine a_iload_n (pc := 11) ok dAF_fill_11 rfl ?_
      refine a_iload_n (pc := 12) ok dAF_fill_12 rfl ?_
      refine a_iast (pc := 13) ok dAF_fill_13 rfl (by first | decide | omega) (by first | omega | (unfold rg; omega) | (simp only [rg] at *; omega) | exact bz_rg _ | grind [rg]) ?_
      refine a_iinc (pc := 14) ok dAF_fill_14 rfl rfl (by rw [hN]; decide) ?_
      refine a_goto (pc := 17) (tgt := 5) ok dAF_fill_17 (by decide) ?_
      refine AW.cast (ih (k + 1) (by omega) (by omega)) rfl rfl ?_
      have e : up (fun j => if j < (k : Int) then v else f j) (k : Int) v = fun j => if j < ((k + 1 : Nat) : Int) then v else f j := by
        funext j; simp only [up]; by_cases h1 : j = (k : Int) <;> by_cases h2 : j < (k : Int) <;> simp [h1, h2] <;> omega
      show [ia n (up (fun j => if j < (k : Int) then v else f j) (k : Int) v)] = _
      rw [e]
  refine a_iconst (pc := 0) ok dAF_fill_0 ?_
  refine a_istore_n (pc := 1) ok dAF_fill_1 rfl (by rw [hN]; decide) ?_
  refine a_aload_n (pc := 2) ok dAF_fill_2 rfl ?_
  refine a_alen (pc := 3) ok dAF_fill_3 rfl ?_
  refine a_istore_n (pc := 4) ok dAF_fill_4 rfl (by rw [hN]; decide) ?_
  refine AW.ext (q := 0) (g := fun j => if j < ((0 : Nat) : Int) then v else f j) rfl (fun j h _ => (if_neg (by omega)).symm) ?_
  exact loop 0 (Nat.zero_le _)
/-- the cells of a State: itself, greys, thresholds, hatchings -/
abbrev stM (c r : Int) (G T : Int → Int) (n le : Int) (Hh : Int → Int) (li : Int) : List va_E := [ob 4 [iv c, iv r, .ref 1, .ref 2, iv n, iv le, .ref 3, iv li], ia 144 G, ia 5 T, ia 6 Hh]
/-- a plate's measures -/
def dim (c r : Int) : Prop := 1 ≤ c ∧ c ≤ 12 ∧ 1 ≤ r ∧ r ≤ 12
theorem dim_cells {c r : Int} (h : dim c r) : 1 ≤ c * r ∧ c * r ≤ 144 := by
  obtain ⟨h1, h2, h3, h4⟩ := h
  have a := Int.mul_le_mul h2 h4 (by omega) (by omega)
  have b := Int.mul_le_mul h1 h3 (by omega) (by omega)
  omega
theorem dim_at {c r x y : Int} (h : dim c r) (hx : 0 ≤ x ∧ x < c) (hy : 0 ≤ y ∧ y < r) : 0 ≤ y * c + x ∧ y * c + x < c * r ∧ c * r ≤ 144 := by
  have hc := dim_cells h
  obtain ⟨h1, h2, h3, h4⟩ := h
  have a : 0 ≤ y * c := Int.mul_nonneg hy.1 (by omega)
  have b : (y + 1) * c ≤ r * c := Int.mul_le_mul_of_nonneg_right (by omega) (by omega)
  have e : (y + 1) * c = y * c + c := by rw [Int.add_mul, Int.one_mul]
  have f : r * c = c * r := Int.mul_comm r c
  omega
section
variable {c r n le li : Int} {G T Hh : Int → Int}
theorem dX4_cellCount_0 : decode cX4_cellCount 0 = .ok (.aload_n 0, 1) := by decide +kernel
theorem dX4_cellCount_1 : decode cX4_cellCount 1 = .ok (.getfield 38, 3) := by decide +kernel
theorem dX4_cellCount_4 : decode cX4_cellCount 4 = .ok (.aload_n 0, 1) := by decide +kernel
theorem dX4_cellCount_5 : decode cX4_cellCount 5 = .ok (.getfield 41, 3) := by decide +kernel
theorem dX4_cellCount_8 : decode cX4_cellCount 8 = .ok (.imul, 1) := by decide +kernel
theorem dX4_cellCount_9 : decode cX4_cellCount 9 = .ok (.ireturn, 1) := by decide +kernel
theorem c_cellCount : Cd l yX4_cellCount cX4_cellCount 1 (some .int) rmX4_cellCount [.ref 0] (stM c r G T n le Hh li) (some (iv (c * r))) (stM c r G T n le Hh li) := by
  refine Ct.of miX4_cellCount (Nat.le_of_ble_eq_true rfl) ?_
  intro X hXl hN ok
  refine AW.cast (L2 := [some (.ref 0)]) ?_ rfl rfl rfl
  refine a_aload_n (pc := 0) ok dX4_cellCount_0 rfl ?_
  refine a_getf (pc := 1) ok dX4_cellCount_1 fl4_38 rfl rfl ?_
  refine a_aload_n (pc := 4) ok dX4_cellCount_4 rfl ?_
  refine a_getf (pc := 5) ok dX4_cellCount_5 fl4_41 rfl rfl ?_
  refine a_imul (pc := 8) ok dX4_cellCount_8 ?_
  exact a_iret (pc := 9) ok dX4_cellCount_9 (⟨rfl, rfl⟩)
/-- is there such a cell -/
abbrev inP (c r x y : Int) : Prop := 0 ≤ x ∧ x < c ∧ 0 ≤ y ∧ y < r
theorem dX4_hasCell_0 : decode cX4_hasCell 0 = .ok (.iload_n 1, 1) := by decide +kernel
theorem dX4_hasCell_1 : decode cX4_hasCell 1 = .ok (.ifCond .lt 27, 3) := by decide +kernel
theorem dX4_hasCell_4 : decode cX4_hasCell 4 = .ok (.iload_n 1, 1) := by decide +kernel
theorem dX4_hasCell_5 : decode cX4_hasCell 5 = .ok (.aload_n 0, 1) := by decide +kernel
theorem dX4_hasCell_6 : decode cX4_hasCell 6 = .ok (.getfield 38, 3) := by decide +kernel
theorem dX4_hasCell_9 : decode cX4_hasCell 9 = .ok (.if_icmp .ge 19, 3) := by decide +kernel
theorem dX4_hasCell_12 : decode cX4_hasCell 12 = .ok (.iload_n 2, 1) := by decide +kernel
theorem dX4_hasCell_13 : decode cX4_hasCell 13 = .ok (.ifCond .lt 15, 3) := by decide +kernel
theorem dX4_hasCell_16 : decode cX4_hasCell 16 = .ok (.iload_n 2, 1) := by decide +kernel
theorem dX4_hasCell_17 : decode cX4_hasCell 17 = .ok (.aload_n 0, 1) := by decide +kernel
theorem dX4_hasCell_18 : decode cX4_hasCell 18 = .ok (.getfield 41, 3) := by decide +kernel
theorem dX4_hasCell_21 : decode cX4_hasCell 21 = .ok (.if_icmp .ge 7, 3) := by decide +kernel
theorem dX4_hasCell_24 : decode cX4_hasCell 24 = .ok (.iconst 1, 1) := by decide +kernel
theorem dX4_hasCell_25 : decode cX4_hasCell 25 = .ok (.goto 4, 3) := by decide +kernel
theorem dX4_hasCell_28 : decode cX4_hasCell 28 = .ok (.iconst 0, 1) := by decide +kernel
theorem dX4_hasCell_29 : decode cX4_hasCell 29 = .ok (.ireturn, 1) := by decide +kernel
theorem c_hasCell {x y : Int} (hd : dim c r) (hx : rg x) (hy : rg y) : Cd l yX4_hasCell cX4_hasCell 3 (some .boolean) rmX4_hasCell [.ref 0, iv x, iv y] (stM c r G T n le Hh li) (some (iv (bz (inP c r x y)))) (stM c r G T n le Hh li) := by
  refine Ct.of miX4_hasCell (Nat.le_of_ble_eq_true rfl) ?_
  intro X hXl hN ok
  refine AW.cast (L2 := [some (.ref 0), some (iv x), some (iv y)]) ?_ rfl rfl rfl
  obtain ⟨h1, h2, h3, h4⟩ := hd
  refine a_iload_n (pc := 0) ok dX4_hasCell_0 rfl ?_
  refine a_if_lt (pc := 1) (tgt := 28) ok dX4_hasCell_1 (by decide) (by first | omega | (unfold rg; omega) | (simp only [rg] at *; omega) | exact bz_rg _ | grind [rg]) (fun c1 => ?_) (fun c1 => ?_)
  · refine a_iconst (pc := 28) ok dX4_hasCell_28 ?_
    exact a_zret (pc := 29) ok dX4_hasCell_29 (by first | rfl | exact nb_bz _ | decide) (⟨by first | rfl | exact congrArg (fun z => some (iv z)) (bz_pos (by first | omega | grind)).symm | exact congrArg (fun z => some (iv z)) (bz_neg (by first | omega | grind)).symm, rfl⟩)
  · refine a_iload_n (pc := 4) ok dX4_hasCell_4 rfl ?_
    refine a_aload_n (pc := 5) ok dX4_hasCell_5 rfl ?_
    refine a_getf (pc := 6) ok dX4_hasCell_6 fl4_38 rfl rfl ?_
    refine a_icmp_ge (pc := 9) (tgt := 28) ok dX4_hasCell_9 (by decide) (by first | omega | (unfold rg; omega) | (simp only [rg] at *; omega) | exact bz_rg _ | grind [rg]) (by first | omega | (unfold rg; omega) | (simp only [rg] at *; omega) | exact bz_rg _ | grind [rg]) (fun c9 => ?_) (fun c9 => ?_)
    · refine a_iconst (pc := 28) ok dX4_hasCell_28 ?_
      exact a_zret (pc := 29) ok dX4_hasCell_29 (by first | rfl | exact nb_bz _ | decide) (⟨by first | rfl | exact congrArg (fun z => some (iv z)) (bz_pos (by first | omega | grind)).symm | exact congrArg (fun z => some (iv z)) (bz_neg (by first | omega | grind)).symm, rfl⟩)
    · refine a_iload_n (pc := 12) ok dX4_hasCell_12 rfl ?_
      refine a_if_lt (pc := 13) (tgt := 28) ok dX4_hasCell_13 (by decide) (by first | omega | (unfold rg; omega) | (simp only [rg] at *; omega) | exact bz_rg _ | grind [rg]) (fun c13 => ?_) (fun c13 => ?_)
      · refine a_iconst (pc := 28) ok dX4_hasCell_28 ?_
        exact a_zret (pc := 29) ok dX4_hasCell_29 (by first | rfl | exact nb_bz _ | decide) (⟨by first | rfl | exact congrArg (fun z => some (iv z)) (bz_pos (by first | omega | grind)).symm | exact congrArg (fun z => some (iv z)) (bz_neg (by first | omega | grind)).symm, rfl⟩)
      · refine a_iload_n (pc := 16) ok dX4_hasCell_16 rfl ?_
        refine a_aload_n (pc := 17) ok dX4_hasCell_17 rfl ?_
        refine a_getf (pc := 18) ok dX4_hasCell_18 fl4_41 rfl rfl ?_
        refine a_icmp_ge (pc := 21) (tgt := 28) ok dX4_hasCell_21 (by decide) (by first | omega | (unfold rg; omega) | (simp only [rg] at *; omega) | exact bz_rg _ | grind [rg]) (by first | omega | (unfold rg; omega) | (simp only [rg] at *; omega) | exact bz_rg _ | grind [rg]) (fun c21 => ?_) (fun c21 => ?_)
        · refine a_iconst (pc := 28) ok dX4_hasCell_28 ?_
          exact a_zret (pc := 29) ok dX4_hasCell_29 (by first | rfl | exact nb_bz _ | decide) (⟨by first | rfl | exact congrArg (fun z => some (iv z)) (bz_pos (by first | omega | grind)).symm | exact congrArg (fun z => some (iv z)) (bz_neg (by first | omega | grind)).symm, rfl⟩)
        · refine a_iconst (pc := 24) ok dX4_hasCell_24 ?_
          refine a_goto (pc := 25) (tgt := 29) ok dX4_hasCell_25 (by decide) ?_
          exact a_zret (pc := 29) ok dX4_hasCell_29 (by first | rfl | exact nb_bz _ | decide) (⟨by first | rfl | exact congrArg (fun z => some (iv z)) (bz_pos (by first | omega | grind)).symm | exact congrArg (fun z => some (iv z)) (bz_neg (by first | omega | grind)).symm, rfl⟩)
theorem dX4_cellNumber_0 : decode cX4_cellNumber 0 = .ok (.iload_n 2, 1) := by decide +kernel
theorem dX4_cellNumber_1 : decode cX4_cellNumber 1 = .ok (.aload_n 0, 1) := by decide +kernel
theorem dX4_cellNumber_2 : decode cX4_cellNumber 2 = .ok (.getfield 38, 3) := by decide +kernel
theorem dX4_cellNumber_5 : decode cX4_cellNumber 5 = .ok (.imul, 1) := by decide +kernel
theorem dX4_cellNumber_6 : decode cX4_cellNumber 6 = .ok (.iload_n 1, 1) := by decide +kernel
theorem dX4_cellNumber_7 : decode cX4_cellNumber 7 = .ok (.iadd, 1) := by decide +kernel
theorem dX4_cellNumber_8 : decode cX4_cellNumber 8 = .ok (.ireturn, 1) := by decide +kernel
theorem c_cellNumber {x y : Int} : Cd l yX4_cellNumber cX4_cellNumber 3 (some .int) rmX4_cellNumber [.ref 0, iv x, iv y] (stM c r G T n le Hh li) (some (iv (y * c + x))) (stM c r G T n le Hh li) := by
  refine Ct.of miX4_cellNumber (Nat.le_of_ble_eq_true rfl) ?_
  intro X hXl hN ok
  refine AW.cast (L2 := [some (.ref 0), some (iv x), some (iv y)]) ?_ rfl rfl rfl
  refine a_iload_n (pc := 0) ok dX4_cellNumber_0 rfl ?_
  refine a_aload_n (pc := 1) ok dX4_cellNumber_1 rfl ?_
  refine a_getf (pc := 2) ok dX4_cellNumber_2 fl4_38 rfl rfl ?_
  refine a_imul (pc := 5) ok dX4_cellNumber_5 ?_
  refine a_iload_n (pc := 6) ok dX4_cellNumber_6 rfl ?_
  refine a_iadd (pc := 7) ok dX4_cellNumber_7 ?_
  exact a_iret (pc := 8) ok dX4_cellNumber_8 (⟨rfl, rfl⟩)
theorem dX4_greyAt_0 : decode cX4_greyAt 0 = .ok (.aload_n 0, 1) := by decide +kernel
theorem dX4_greyAt_1 : decode cX4_greyAt 1 = .ok (.getfield 9, 3) := by decide +kernel
theorem dX4_greyAt_4 : decode cX4_greyAt 4 = .ok (.iload_n 2, 1) := by decide +kernel
theorem dX4_greyAt_5 : decode cX4_greyAt 5 = .ok (.aload_n 0, 1) := by decide +kernel
theorem dX4_greyAt_6 : decode cX4_greyAt 6 = .ok (.getfield 38, 3) := by decide +kernel
theorem dX4_greyAt_9 : decode cX4_greyAt 9 = .ok (.imul, 1) := by decide +kernel
theorem dX4_greyAt_10 : decode cX4_greyAt 10 = .ok (.iload_n 1, 1) := by decide +kernel
theorem dX4_greyAt_11 : decode cX4_greyAt 11 = .ok (.iadd, 1) := by decide +kernel
theorem dX4_greyAt_12 : decode cX4_greyAt 12 = .ok (.iaload, 1) := by decide +kernel
theorem dX4_greyAt_13 : decode cX4_greyAt 13 = .ok (.ireturn, 1) := by decide +kernel
theorem c_greyAt {x y : Int} (hd : dim c r) (hx : 0 ≤ x ∧ x < c) (hy : 0 ≤ y ∧ y < r) : Cd l yX4_greyAt cX4_greyAt 3 (some .int) rmX4_greyAt [.ref 0, iv x, iv y] (stM c r G T n le Hh li) (some (iv (G (y * c + x)))) (stM c r G T n le Hh li) := by
  refine Ct.of miX4_greyAt (Nat.le_of_ble_eq_true rfl) ?_
  intro X hXl hN ok
  refine AW.cast (L2 := [some (.ref 0), some (iv x), some (iv y)]) ?_ rfl rfl rfl
  have h := dim_at hd hx hy
  refine a_aload_n (pc := 0) ok dX4_greyAt_0 rfl ?_
  refine a_getf (pc := 1) ok dX4_greyAt_1 fl4_9 rfl rfl ?_
  refine a_iload_n (pc := 4) ok dX4_greyAt_4 rfl ?_
  refine a_aload_n (pc := 5) ok dX4_greyAt_5 rfl ?_
  refine a_getf (pc := 6) ok dX4_greyAt_6 fl4_38 rfl rfl ?_
  refine a_imul (pc := 9) ok dX4_greyAt_9 ?_
  refine a_iload_n (pc := 10) ok dX4_greyAt_10 rfl ?_
  refine a_iadd (pc := 11) ok dX4_greyAt_11 ?_
  refine a_iald (pc := 12) ok dX4_greyAt_12 rfl (by first | decide | omega) (by first | omega | (unfold rg; omega) | (simp only [rg] at *; omega) | exact bz_rg _ | grind [rg]) ?_
  exact a_iret (pc := 13) ok dX4_greyAt_13 (⟨rfl, rfl⟩)
/-- the sum of the first k of a row -/
def sumK (f : Int → Int) : Nat → Int
  | 0 => 0
  | k + 1 => sumK f k + f k
/-- how many of the first k hold p -/
def cntK (p : Int → Bool) : Nat → Int
  | 0 => 0
  | k + 1 => cntK p k + if p k then 1 else 0
theorem cntK_rg (p : Int → Bool) : ∀ k : Nat, 0 ≤ cntK p k ∧ cntK p k ≤ k
  | 0 => by simp [cntK]
  | k + 1 => by have := cntK_rg p k; simp only [cntK]; split <;> omega
theorem dX4_sumOfGreys_0 : decode cX4_sumOfGreys 0 = .ok (.aload_n 0, 1) := by decide +kernel
theorem dX4_sumOfGreys_1 : decode cX4_sumOfGreys 1 = .ok (.invokevirtual 56, 3) := by decide +kernel
theorem dX4_sumOfGreys_4 : decode cX4_sumOfGreys 4 = .ok (.istore_n 1, 1) := by decide +kernel
theorem dX4_sumOfGreys_5 : decode cX4_sumOfGreys 5 = .ok (.iconst 0, 1) := by decide +kernel
theorem dX4_sumOfGreys_6 : decode cX4_sumOfGreys 6 = .ok (.istore_n 2, 1) := by decide +kernel
theorem dX4_sumOfGreys_7 : decode cX4_sumOfGreys 7 = .ok (.iconst 0, 1) := by decide +kernel
theorem dX4_sumOfGreys_8 : decode cX4_sumOfGreys 8 = .ok (.istore_n 3, 1) := by decide +kernel
theorem dX4_sumOfGreys_9 : decode cX4_sumOfGreys 9 = .ok (.iload_n 3, 1) := by decide +kernel
theorem dX4_sumOfGreys_10 : decode cX4_sumOfGreys 10 = .ok (.iload_n 1, 1) := by decide +kernel
theorem dX4_sumOfGreys_11 : decode cX4_sumOfGreys 11 = .ok (.if_icmp .ge 18, 3) := by decide +kernel
theorem dX4_sumOfGreys_14 : decode cX4_sumOfGreys 14 = .ok (.iload_n 2, 1) := by decide +kernel
theorem dX4_sumOfGreys_15 : decode cX4_sumOfGreys 15 = .ok (.aload_n 0, 1) := by decide +kernel
theorem dX4_sumOfGreys_16 : decode cX4_sumOfGreys 16 = .ok (.getfield 9, 3) := by decide +kernel
theorem dX4_sumOfGreys_19 : decode cX4_sumOfGreys 19 = .ok (.iload_n 3, 1) := by decide +kernel
theorem dX4_sumOfGreys_20 : decode cX4_sumOfGreys 20 = .ok (.iaload, 1) := by decide +kernel
theorem dX4_sumOfGreys_21 : decode cX4_sumOfGreys 21 = .ok (.iadd, 1) := by decide +kernel
theorem dX4_sumOfGreys_22 : decode cX4_sumOfGreys 22 = .ok (.istore_n 2, 1) := by decide +kernel
theorem dX4_sumOfGreys_23 : decode cX4_sumOfGreys 23 = .ok (.iinc 3 1, 3) := by decide +kernel
theorem dX4_sumOfGreys_26 : decode cX4_sumOfGreys 26 = .ok (.goto (-17), 3) := by decide +kernel
theorem dX4_sumOfGreys_29 : decode cX4_sumOfGreys 29 = .ok (.iload_n 2, 1) := by decide +kernel
theorem dX4_sumOfGreys_30 : decode cX4_sumOfGreys 30 = .ok (.ireturn, 1) := by decide +kernel
theorem c_sumOfGreys (hd : dim c r) : Cd l yX4_sumOfGreys cX4_sumOfGreys 4 (some .int) rmX4_sumOfGreys [.ref 0] (stM c r G T n le Hh li) (some (iv (sumK G (c * r).toNat))) (stM c r G T n le Hh li) := by
  refine Ct.of miX4_sumOfGreys (Nat.le_of_ble_eq_true rfl) ?_
  intro X hXl hN ok
  refine AW.cast (L2 := [some (.ref 0), none, none, none]) ?_ rfl rfl rfl
  have hc := dim_cells hd
  have loop : ∀ k : Nat, (k : Int) ≤ c * r → AW X 0 0 9 [some (.ref 0), some (iv (c * r)), some (iv (sumK G k)), some (iv k)] [] (stM c r G T n le Hh li) := by
    refine wfl (fun k : Nat => (c * r).toNat - k) (fun k => (k : Int) ≤ c * r) _ ?_
    intro k hk ih
    refine a_iload_n (pc := 9) ok dX4_sumOfGreys_9 rfl ?_
    refine a_iload_n (pc := 10) ok dX4_sumOfGreys_10 rfl ?_
    refine a_icmp_ge (pc := 11) (tgt := 29) ok dX4_sumOfGreys_11 (by decide) (by first | omega | (unfold rg; omega) | (simp only [rg] at *; omega) | exact bz_rg _ | grind [rg]) (by first | omega | (unfold rg; omega) | (simp only [rg] at *; omega) | exact bz_rg _ | grind [rg]) (fun c11 => ?_) (fun c11 => ?_)
    · have e : k = (c * r).toNat := by omega
      subst e
      refine a_iload_n (pc := 29) ok dX4_sumOfGreys_29 rfl ?_
      exact a_iret (pc := 30) ok dX4_sumOfGreys_30 (⟨rfl, rfl⟩)
    · refine a_iload_n (pc := 14) ok dX4_sumOfGreys_14 rfl ?_
      refine a_aload_n (pc := 15) ok dX4_sumOfGreys_15 rfl ?_
      refine a_getf (pc := 16) ok dX4_sumOfGreys_16 fl4_9 rfl rfl ?_
      refine a_iload_n (pc := 19) ok dX4_sumOfGreys_19 rfl ?_
      refine a_iald (pc := 20) ok dX4_sumOfGreys_20 rfl (by first | decide | omega) (by first | omega | (unfold rg; omega) | (simp only [rg] at *; omega) | exact bz_rg _ | grind [rg]) ?_
      refine a_iadd (pc := 21) ok dX4_sumOfGreys_21 ?_
      refine a_istore_n (pc := 22) ok dX4_sumOfGreys_22 rfl (by rw [hN]; decide) ?_
      refine a_iinc (pc := 23) ok dX4_sumOfGreys_23 rfl rfl (by rw [hN]; decide) ?_
      refine a_goto (pc := 26) (tgt := 9) ok dX4_sumOfGreys_26 (by decide) ?_
      exact ih (k + 1) (by omega) (by omega)
  refine a_aload_n (pc := 0) ok dX4_sumOfGreys_0 rfl ?_
  refine a_callVp (pc := 1) ok [0, 1, 2, 3] dX4_sumOfGreys_1 mv4_56 miX4_cellCount (c_cellCount) ⟨by decide, by decide, rfl, rfl, Nat.zero_le _, Nat.zero_le _⟩ rfl rfl (by decide) rfl (by decide) rfl rfl ?_
  refine a_istore_n (pc := 4) ok dX4_sumOfGreys_4 rfl (by rw [hN]; decide) ?_
  refine a_iconst (pc := 5) ok dX4_sumOfGreys_5 ?_
  refine a_istore_n (pc := 6) ok dX4_sumOfGreys_6 rfl (by rw [hN]; decide) ?_
  refine a_iconst (pc := 7) ok dX4_sumOfGreys_7 ?_
  refine a_istore_n (pc := 8) ok dX4_sumOfGreys_8 rfl (by rw [hN]; decide) ?_
  exact loop 0 (by omega)
theorem cntK_pos {p : Int → Bool} {k : Nat} (hp : p k = true) : ∀ m : Nat, k < m → 0 < cntK p m
  | 0, h => by omega
  | m + 1, h => by
    simp only [cntK]
    by_cases e : k = m
    · subst e; rw [hp]; have := cntK_rg p k; simp; omega
    · have := cntK_pos hp m (by omega); split <;> omega
theorem cntK_congr {p q : Int → Bool} : ∀ m : Nat, (∀ j : Nat, j < m → p j = q j) → cntK p m = cntK q m
  | 0, _ => rfl
  | m + 1, h => by simp only [cntK]; rw [cntK_congr m (fun j hj => h j (by omega)), h m (by omega)]
theorem sumK_congr {f g : Int → Int} : ∀ m : Nat, (∀ j : Nat, j < m → f j = g j) → sumK f m = sumK g m
  | 0, _ => rfl
  | m + 1, h => by simp only [sumK]; rw [sumK_congr m (fun j hj => h j (by omega)), h m (by omega)]
theorem dX4_hasGrey_0 : decode cX4_hasGrey 0 = .ok (.aload_n 0, 1) := by decide +kernel
theorem dX4_hasGrey_1 : decode cX4_hasGrey 1 = .ok (.invokevirtual 56, 3) := by decide +kernel
theorem dX4_hasGrey_4 : decode cX4_hasGrey 4 = .ok (.istore_n 2, 1) := by decide +kernel
theorem dX4_hasGrey_5 : decode cX4_hasGrey 5 = .ok (.iconst 0, 1) := by decide +kernel
theorem dX4_hasGrey_6 : decode cX4_hasGrey 6 = .ok (.istore_n 3, 1) := by decide +kernel
theorem dX4_hasGrey_7 : decode cX4_hasGrey 7 = .ok (.iload_n 3, 1) := by decide +kernel
theorem dX4_hasGrey_8 : decode cX4_hasGrey 8 = .ok (.iload_n 2, 1) := by decide +kernel
theorem dX4_hasGrey_9 : decode cX4_hasGrey 9 = .ok (.if_icmp .ge 21, 3) := by decide +kernel
theorem dX4_hasGrey_12 : decode cX4_hasGrey 12 = .ok (.aload_n 0, 1) := by decide +kernel
theorem dX4_hasGrey_13 : decode cX4_hasGrey 13 = .ok (.getfield 9, 3) := by decide +kernel
theorem dX4_hasGrey_16 : decode cX4_hasGrey 16 = .ok (.iload_n 3, 1) := by decide +kernel
theorem dX4_hasGrey_17 : decode cX4_hasGrey 17 = .ok (.iaload, 1) := by decide +kernel
theorem dX4_hasGrey_18 : decode cX4_hasGrey 18 = .ok (.iload_n 1, 1) := by decide +kernel
theorem dX4_hasGrey_19 : decode cX4_hasGrey 19 = .ok (.if_icmp .ne 5, 3) := by decide +kernel
theorem dX4_hasGrey_22 : decode cX4_hasGrey 22 = .ok (.iconst 1, 1) := by decide +kernel
theorem dX4_hasGrey_23 : decode cX4_hasGrey 23 = .ok (.ireturn, 1) := by decide +kernel
theorem dX4_hasGrey_24 : decode cX4_hasGrey 24 = .ok (.iinc 3 1, 3) := by decide +kernel
theorem dX4_hasGrey_27 : decode cX4_hasGrey 27 = .ok (.goto (-20), 3) := by decide +kernel
theorem dX4_hasGrey_30 : decode cX4_hasGrey 30 = .ok (.iconst 0, 1) := by decide +kernel
theorem dX4_hasGrey_31 : decode cX4_hasGrey 31 = .ok (.ireturn, 1) := by decide +kernel
theorem c_hasGrey (hd : dim c r) (hG : ∀ i, 0 ≤ G i ∧ G i ≤ 99) {g : Int} (hg : rg g) : Cd l yX4_hasGrey cX4_hasGrey 4 (some .boolean) rmX4_hasGrey [.ref 0, iv g] (stM c r G T n le Hh li) (some (iv (bz (0 < cntK (fun i => G i == g) (c * r).toNat)))) (stM c r G T n le Hh li) := by
  refine Ct.of miX4_hasGrey (Nat.le_of_ble_eq_true rfl) ?_
  intro X hXl hN ok
  refine AW.cast (L2 := [some (.ref 0), some (iv g), none, none]) ?_ rfl rfl rfl
  have hc := dim_cells hd
  have loop : ∀ k : Nat, ((k : Int) ≤ c * r ∧ cntK (fun i => G i == g) k = 0) → AW X 0 0 7 [some (.ref 0), some (iv g), some (iv (c * r)), some (iv k)] [] (stM c r G T n le Hh li) := by
    refine wfl (fun k : Nat => (c * r).toNat - k) _ _ ?_
    intro k hk ih
    have hGk := hG k
    unfold rg at hg
    refine a_iload_n (pc := 7) ok dX4_hasGrey_7 rfl ?_
    refine a_iload_n (pc := 8) ok dX4_hasGrey_8 rfl ?_
    refine a_icmp_ge (pc := 9) (tgt := 30) ok dX4_hasGrey_9 (by decide) (by first | omega | (unfold rg; omega) | (simp only [rg] at *; omega) | exact bz_rg _ | grind [rg]) (by first | omega | (unfold rg; omega) | (simp only [rg] at *; omega) | exact bz_rg _ | grind [rg]) (fun c9 => ?_) (fun c9 => ?_)
    · have e : k = (c * r).toNat := by omega
      subst e
      refine a_iconst (pc := 30) ok dX4_hasGrey_30 ?_
      exact a_zret (pc := 31) ok dX4_hasGrey_31 (by first | rfl | exact nb_bz _ | decide) (⟨by first | rfl | exact congrArg (fun z => some (iv z)) (bz_pos (by first | omega | grind)).symm | exact congrArg (fun z => some (iv z)) (bz_neg (by first | omega | grind)).symm, rfl⟩)
    · refine a_aload_n (pc := 12) ok dX4_hasGrey_12 rfl ?_
      refine a_getf (pc := 13) ok dX4_hasGrey_13 fl4_9 rfl rfl ?_
      refine a_iload_n (pc := 16) ok dX4_hasGrey_16 rfl ?_
      refine a_iald (pc := 17) ok dX4_hasGrey_17 rfl (by first | decide | omega) (by first | omega | (unfold rg; omega) | (simp only [rg] at *; omega) | exact bz_rg _ | grind [rg]) ?_
      refine a_iload_n (pc := 18) ok dX4_hasGrey_18 rfl ?_
      refine a_icmp_ne (pc := 19) (tgt := 24) ok dX4_hasGrey_19 (by decide) (by first | omega | (unfold rg; omega) | (simp only [rg] at *; omega) | exact bz_rg _ | grind [rg]) (by first | omega | (unfold rg; omega) | (simp only [rg] at *; omega) | exact bz_rg _ | grind [rg]) (fun c19 => ?_) (fun c19 => ?_)
      · refine a_iinc (pc := 24) ok dX4_hasGrey_24 rfl rfl (by rw [hN]; decide) ?_
        refine a_goto (pc := 27) (tgt := 7) ok dX4_hasGrey_27 (by decide) ?_
        exact ih (k + 1) ⟨by omega, by simp only [cntK]; rw [hk.2]; simp [c19]⟩ (by omega)
      · have hp := cntK_pos (p := fun i => G i == g) (k := k) (by simpa using c19) (c * r).toNat (by omega)
        refine a_iconst (pc := 22) ok dX4_hasGrey_22 ?_
        exact a_zret (pc := 23) ok dX4_hasGrey_23 (by first | rfl | exact nb_bz _ | decide) (⟨by first | rfl | exact congrArg (fun z => some (iv z)) (bz_pos (by first | omega | grind)).symm | exact congrArg (fun z => some (iv z)) (bz_neg (by first | omega | grind)).symm, rfl⟩)
  refine a_aload_n (pc := 0) ok dX4_hasGrey_0 rfl ?_
  refine a_callVp (pc := 1) ok [0, 1, 2, 3] dX4_hasGrey_1 mv4_56 miX4_cellCount (c_cellCount) ⟨by decide, by decide, rfl, rfl, Nat.zero_le _, Nat.zero_le _⟩ rfl rfl (by decide) rfl (by decide) rfl rfl ?_
  refine a_istore_n (pc := 4) ok dX4_hasGrey_4 rfl (by rw [hN]; decide) ?_
  refine a_iconst (pc := 5) ok dX4_hasGrey_5 ?_
  refine a_istore_n (pc := 6) ok dX4_hasGrey_6 rfl (by rw [hN]; decide) ?_
  exact loop 0 ⟨by omega, rfl⟩
theorem dX4_setGrey_0 : decode cX4_setGrey 0 = .ok (.aload_n 0, 1) := by decide +kernel
theorem dX4_setGrey_1 : decode cX4_setGrey 1 = .ok (.iload_n 1, 1) := by decide +kernel
theorem dX4_setGrey_2 : decode cX4_setGrey 2 = .ok (.iload_n 2, 1) := by decide +kernel
theorem dX4_setGrey_3 : decode cX4_setGrey 3 = .ok (.invokevirtual 60, 3) := by decide +kernel
theorem dX4_setGrey_6 : decode cX4_setGrey 6 = .ok (.istore 4, 2) := by decide +kernel
theorem dX4_setGrey_8 : decode cX4_setGrey 8 = .ok (.aload_n 0, 1) := by decide +kernel
theorem dX4_setGrey_9 : decode cX4_setGrey 9 = .ok (.getfield 9, 3) := by decide +kernel
theorem dX4_setGrey_12 : decode cX4_setGrey 12 = .ok (.iload 4, 2) := by decide +kernel
theorem dX4_setGrey_14 : decode cX4_setGrey 14 = .ok (.iaload, 1) := by decide +kernel
theorem dX4_setGrey_15 : decode cX4_setGrey 15 = .ok (.istore 5, 2) := by decide +kernel
theorem dX4_setGrey_17 : decode cX4_setGrey 17 = .ok (.aload_n 0, 1) := by decide +kernel
theorem dX4_setGrey_18 : decode cX4_setGrey 18 = .ok (.getfield 9, 3) := by decide +kernel
theorem dX4_setGrey_21 : decode cX4_setGrey 21 = .ok (.iload 4, 2) := by decide +kernel
theorem dX4_setGrey_23 : decode cX4_setGrey 23 = .ok (.iload_n 3, 1) := by decide +kernel
theorem dX4_setGrey_24 : decode cX4_setGrey 24 = .ok (.iastore, 1) := by decide +kernel
theorem dX4_setGrey_25 : decode cX4_setGrey 25 = .ok (.iload 5, 2) := by decide +kernel
theorem dX4_setGrey_27 : decode cX4_setGrey 27 = .ok (.ireturn, 1) := by decide +kernel
theorem c_setGrey {x y g : Int} (h : 0 ≤ y * c + x ∧ y * c + x < 144) : Cd l yX4_setGrey cX4_setGrey 6 (some .int) rmX4_setGrey [.ref 0, iv x, iv y, iv g] (stM c r G T n le Hh li) (some (iv (G (y * c + x)))) (stM c r (up G (y * c + x) g) T n le Hh li) := by
  refine Ct.of miX4_setGrey (Nat.le_of_ble_eq_true rfl) ?_
  intro X hXl hN ok
  refine AW.cast (L2 := [some (.ref 0), some (iv x), some (iv y), some (iv g), none, none]) ?_ rfl rfl rfl
  refine a_aload_n (pc := 0) ok dX4_setGrey_0 rfl ?_
  refine a_iload_n (pc := 1) ok dX4_setGrey_1 rfl ?_
  refine a_iload_n (pc := 2) ok dX4_setGrey_2 rfl ?_
  refine a_callVp (pc := 3) ok [0, 1, 2, 3] dX4_setGrey_3 mv4_60 miX4_cellNumber (c_cellNumber) ⟨by decide, by decide, rfl, rfl, Nat.zero_le _, Nat.zero_le _⟩ rfl rfl (by decide) rfl (by decide) rfl rfl ?_
  refine a_istore (pc := 6) ok dX4_setGrey_6 rfl (by rw [hN]; decide) ?_
  refine a_aload_n (pc := 8) ok dX4_setGrey_8 rfl ?_
  refine a_getf (pc := 9) ok dX4_setGrey_9 fl4_9 rfl rfl ?_
  refine a_iload (pc := 12) ok dX4_setGrey_12 rfl ?_
  refine a_iald (pc := 14) ok dX4_setGrey_14 rfl (by first | decide | omega) (by first | omega | (unfold rg; omega) | (simp only [rg] at *; omega) | exact bz_rg _ | grind [rg]) ?_
  refine a_istore (pc := 15) ok dX4_setGrey_15 rfl (by rw [hN]; decide) ?_
  refine a_aload_n (pc := 17) ok dX4_setGrey_17 rfl ?_
  refine a_getf (pc := 18) ok dX4_setGrey_18 fl4_9 rfl rfl ?_
  refine a_iload (pc := 21) ok dX4_setGrey_21 rfl ?_
  refine a_iload_n (pc := 23) ok dX4_setGrey_23 rfl ?_
  refine a_iast (pc := 24) ok dX4_setGrey_24 rfl (by first | decide | omega) (by first | omega | (unfold rg; omega) | (simp only [rg] at *; omega) | exact bz_rg _ | grind [rg]) ?_
  refine a_iload (pc := 25) ok dX4_setGrey_25 rfl ?_
  exact a_iret (pc := 27) ok dX4_setGrey_27 (⟨rfl, rfl⟩)
theorem dX6_isWithin_0 : decode cX6_isWithin 0 = .ok (.iload_n 0, 1) := by decide +kernel
theorem dX6_isWithin_1 : decode cX6_isWithin 1 = .ok (.iload_n 1, 1) := by decide +kernel
theorem dX6_isWithin_2 : decode cX6_isWithin 2 = .ok (.if_icmp .lt 12, 3) := by decide +kernel
theorem dX6_isWithin_5 : decode cX6_isWithin 5 = .ok (.iload_n 0, 1) := by decide +kernel
theorem dX6_isWithin_6 : decode cX6_isWithin 6 = .ok (.iload_n 2, 1) := by decide +kernel
theorem dX6_isWithin_7 : decode cX6_isWithin 7 = .ok (.if_icmp .gt 7, 3) := by decide +kernel
theorem dX6_isWithin_10 : decode cX6_isWithin 10 = .ok (.iconst 1, 1) := by decide +kernel
theorem dX6_isWithin_11 : decode cX6_isWithin 11 = .ok (.goto 4, 3) := by decide +kernel
theorem dX6_isWithin_14 : decode cX6_isWithin 14 = .ok (.iconst 0, 1) := by decide +kernel
theorem dX6_isWithin_15 : decode cX6_isWithin 15 = .ok (.ireturn, 1) := by decide +kernel
theorem c_isWithin {v a b : Int} (hv : rg v) (ha : rg a) (hb : rg b) : Cd l yX6_isWithin cX6_isWithin 3 (some .boolean) rmX6_isWithin [iv v, iv a, iv b] [] (some (iv (bz (a ≤ v ∧ v ≤ b)))) [] := by
  refine Ct.of miX6_isWithin (Nat.le_of_ble_eq_true rfl) ?_
  intro X hXl hN ok
  refine AW.cast (L2 := [some (iv v), some (iv a), some (iv b)]) ?_ rfl rfl rfl
  refine a_iload_n (pc := 0) ok dX6_isWithin_0 rfl ?_
  refine a_iload_n (pc := 1) ok dX6_isWithin_1 rfl ?_
  refine a_icmp_lt (pc := 2) (tgt := 14) ok dX6_isWithin_2 (by decide) (by first | omega | (unfold rg; omega) | (simp only [rg] at *; omega) | exact bz_rg _ | grind [rg]) (by first | omega | (unfold rg; omega) | (simp only [rg] at *; omega) | exact bz_rg _ | grind [rg]) (fun c2 => ?_) (fun c2 => ?_)
  · refine a_iconst (pc := 14) ok dX6_isWithin_14 ?_
    exact a_zret (pc := 15) ok dX6_isWithin_15 (by first | rfl | exact nb_bz _ | decide) (⟨by first | rfl | exact congrArg (fun z => some (iv z)) (bz_pos (by first | omega | grind)).symm | exact congrArg (fun z => some (iv z)) (bz_neg (by first | omega | grind)).symm, rfl⟩)
  · refine a_iload_n (pc := 5) ok dX6_isWithin_5 rfl ?_
    refine a_iload_n (pc := 6) ok dX6_isWithin_6 rfl ?_
    refine a_icmp_gt (pc := 7) (tgt := 14) ok dX6_isWithin_7 (by decide) (by first | omega | (unfold rg; omega) | (simp only [rg] at *; omega) | exact bz_rg _ | grind [rg]) (by first | omega | (unfold rg; omega) | (simp only [rg] at *; omega) | exact bz_rg _ | grind [rg]) (fun c7 => ?_) (fun c7 => ?_)
    · refine a_iconst (pc := 14) ok dX6_isWithin_14 ?_
      exact a_zret (pc := 15) ok dX6_isWithin_15 (by first | rfl | exact nb_bz _ | decide) (⟨by first | rfl | exact congrArg (fun z => some (iv z)) (bz_pos (by first | omega | grind)).symm | exact congrArg (fun z => some (iv z)) (bz_neg (by first | omega | grind)).symm, rfl⟩)
    · refine a_iconst (pc := 10) ok dX6_isWithin_10 ?_
      refine a_goto (pc := 11) (tgt := 15) ok dX6_isWithin_11 (by decide) ?_
      exact a_zret (pc := 15) ok dX6_isWithin_15 (by first | rfl | exact nb_bz _ | decide) (⟨by first | rfl | exact congrArg (fun z => some (iv z)) (bz_pos (by first | omega | grind)).symm | exact congrArg (fun z => some (iv z)) (bz_neg (by first | omega | grind)).symm, rfl⟩)
theorem dX4_trySetGrey_0 : decode cX4_trySetGrey 0 = .ok (.aload_n 0, 1) := by decide +kernel
theorem dX4_trySetGrey_1 : decode cX4_trySetGrey 1 = .ok (.iload_n 1, 1) := by decide +kernel
theorem dX4_trySetGrey_2 : decode cX4_trySetGrey 2 = .ok (.iload_n 2, 1) := by decide +kernel
theorem dX4_trySetGrey_3 : decode cX4_trySetGrey 3 = .ok (.invokevirtual 64, 3) := by decide +kernel
theorem dX4_trySetGrey_6 : decode cX4_trySetGrey 6 = .ok (.ifCond .eq 13, 3) := by decide +kernel
theorem dX4_trySetGrey_9 : decode cX4_trySetGrey 9 = .ok (.iload_n 3, 1) := by decide +kernel
theorem dX4_trySetGrey_10 : decode cX4_trySetGrey 10 = .ok (.iconst 0, 1) := by decide +kernel
theorem dX4_trySetGrey_11 : decode cX4_trySetGrey 11 = .ok (.bipush 99, 2) := by decide +kernel
theorem dX4_trySetGrey_13 : decode cX4_trySetGrey 13 = .ok (.invokestatic 68, 3) := by decide +kernel
theorem dX4_trySetGrey_16 : decode cX4_trySetGrey 16 = .ok (.ifCond .ne 5, 3) := by decide +kernel
theorem dX4_trySetGrey_19 : decode cX4_trySetGrey 19 = .ok (.iconst 0, 1) := by decide +kernel
theorem dX4_trySetGrey_20 : decode cX4_trySetGrey 20 = .ok (.ireturn, 1) := by decide +kernel
theorem dX4_trySetGrey_21 : decode cX4_trySetGrey 21 = .ok (.aload_n 0, 1) := by decide +kernel
theorem dX4_trySetGrey_22 : decode cX4_trySetGrey 22 = .ok (.iload_n 1, 1) := by decide +kernel
theorem dX4_trySetGrey_23 : decode cX4_trySetGrey 23 = .ok (.iload_n 2, 1) := by decide +kernel
theorem dX4_trySetGrey_24 : decode cX4_trySetGrey 24 = .ok (.iload_n 3, 1) := by decide +kernel
theorem dX4_trySetGrey_25 : decode cX4_trySetGrey 25 = .ok (.invokevirtual 72, 3) := by decide +kernel
theorem dX4_trySetGrey_28 : decode cX4_trySetGrey 28 = .ok (.pop, 1) := by decide +kernel
theorem dX4_trySetGrey_29 : decode cX4_trySetGrey 29 = .ok (.iconst 1, 1) := by decide +kernel
theorem dX4_trySetGrey_30 : decode cX4_trySetGrey 30 = .ok (.ireturn, 1) := by decide +kernel
theorem c_trySetGrey {x y g : Int} (hd : dim c r) (hx : rg x) (hy : rg y) (hg : rg g) : Cd l yX4_trySetGrey cX4_trySetGrey 4 (some .boolean) rmX4_trySetGrey [.ref 0, iv x, iv y, iv g] (stM c r G T n le Hh li) (some (iv (bz (inP c r x y ∧ 0 ≤ g ∧ g ≤ 99)))) (stM c r (if inP c r x y ∧ 0 ≤ g ∧ g ≤ 99 then up G (y * c + x) g else G) T n le Hh li) := by
  refine Ct.of miX4_trySetGrey (Nat.le_of_ble_eq_true rfl) ?_
  intro X hXl hN ok
  refine AW.cast (L2 := [some (.ref 0), some (iv x), some (iv y), some (iv g)]) ?_ rfl rfl rfl
  refine a_aload_n (pc := 0) ok dX4_trySetGrey_0 rfl ?_
  refine a_iload_n (pc := 1) ok dX4_trySetGrey_1 rfl ?_
  refine a_iload_n (pc := 2) ok dX4_trySetGrey_2 rfl ?_
  refine a_callVp (pc := 3) ok [0, 1, 2, 3] dX4_trySetGrey_3 mv4_64 miX4_hasCell (c_hasCell hd hx hy) ⟨by decide, by decide, rfl, rfl, Nat.zero_le _, Nat.zero_le _⟩ rfl rfl (by decide) rfl (by decide) rfl rfl ?_
  refine a_if_eq (pc := 6) (tgt := 19) ok dX4_trySetGrey_6 (by decide) (by first | omega | (unfold rg; omega) | (simp only [rg] at *; omega) | exact bz_rg _ | grind [rg]) (fun c6 => ?_) (fun c6 => ?_)
  · refine a_iconst (pc := 19) ok dX4_trySetGrey_19 ?_
    exact a_zret (pc := 20) ok dX4_trySetGrey_20 (by first | rfl | exact nb_bz _ | decide) (⟨congrArg (fun z => some (iv z)) (bz_neg (by rw [bz_0] at *; omega)).symm, by rw [if_neg (by rw [bz_0] at *; omega)]⟩)
  · refine a_iload_n (pc := 9) ok dX4_trySetGrey_9 rfl ?_
    refine a_iconst (pc := 10) ok dX4_trySetGrey_10 ?_
    refine a_bipush (pc := 11) ok dX4_trySetGrey_11 (by decide) ?_
    refine a_callSp (pc := 13) ok [] dX4_trySetGrey_13 mv4_68 miX6_isWithin (c_isWithin hg (by unfold rg; omega) (by unfold rg; omega)) ⟨by decide, by decide, rfl, rfl, Nat.zero_le _, Nat.zero_le _⟩ rfl rfl (by decide) rfl (by decide) ?_
    refine a_if_ne (pc := 16) (tgt := 21) ok dX4_trySetGrey_16 (by decide) (by first | omega | (unfold rg; omega) | (simp only [rg] at *; omega) | exact bz_rg _ | grind [rg]) (fun c16 => ?_) (fun c16 => ?_)
    · refine a_aload_n (pc := 21) ok dX4_trySetGrey_21 rfl ?_
      refine a_iload_n (pc := 22) ok dX4_trySetGrey_22 rfl ?_
      refine a_iload_n (pc := 23) ok dX4_trySetGrey_23 rfl ?_
      refine a_iload_n (pc := 24) ok dX4_trySetGrey_24 rfl ?_
      refine a_callVi (pc := 25) ok [0, 1, 2, 3] dX4_trySetGrey_25 mv4_72 miX4_setGrey (c_setGrey (by rw [bz_0] at c6 c16; have := dim_at hd (x := x) (y := y) (by omega) (by omega); omega)) ⟨by decide, by decide, rfl, rfl, Nat.zero_le _, Nat.zero_le _⟩ rfl rfl (by decide) rfl (by decide) rfl rfl rfl ?_
      refine a_pop (pc := 28) ok dX4_trySetGrey_28 rfl ?_
      refine a_iconst (pc := 29) ok dX4_trySetGrey_29 ?_
      exact a_zret (pc := 30) ok dX4_trySetGrey_30 (by first | rfl | exact nb_bz _ | decide) (⟨congrArg (fun z => some (iv z)) (bz_pos (by rw [bz_0] at *; omega)).symm, by rw [if_pos (by rw [bz_0] at *; omega)]; rfl⟩)
    · refine a_iconst (pc := 19) ok dX4_trySetGrey_19 ?_
      exact a_zret (pc := 20) ok dX4_trySetGrey_20 (by first | rfl | exact nb_bz _ | decide) (⟨congrArg (fun z => some (iv z)) (bz_neg (by rw [bz_0] at *; omega)).symm, by rw [if_neg (by rw [bz_0] at *; omega)]⟩)
/-- a row of a box, k cells from x on: the greys, and how many are changed -/
def rowF (c g y : Int) : Int → Nat → (Int → Int) × Int → (Int → Int) × Int
  | _, 0, s => s
  | x, k + 1, s => rowF c g y (x + 1) k (up s.1 (y * c + x) g, s.2 + if s.1 (y * c + x) = g then 0 else 1)
def boxF (c g x0 : Int) (w : Nat) : Int → Nat → (Int → Int) × Int → (Int → Int) × Int
  | _, 0, s => s
  | y, h + 1, s => boxF c g x0 w (y + 1) h (rowF c g y x0 w s)
theorem rowF_le (c g y : Int) : ∀ (k : Nat) (x : Int) (s : (Int → Int) × Int), s.2 ≤ (rowF c g y x k s).2 ∧ (rowF c g y x k s).2 ≤ s.2 + k
  | 0, x, s => by simp [rowF]
  | k + 1, x, s => by
    have := rowF_le c g y k (x + 1) (up s.1 (y * c + x) g, s.2 + if s.1 (y * c + x) = g then 0 else 1)
    simp only [rowF]
    split at this <;> simp_all <;> omega
theorem rowF_end (c g y : Int) : ∀ (k : Nat) (x : Int) (s : (Int → Int) × Int), rowF c g y x (k + 1) s = (up (rowF c g y x k s).1 (y * c + (x + k)) g, (rowF c g y x k s).2 + if (rowF c g y x k s).1 (y * c + (x + k)) = g then 0 else 1)
  | 0, x, s => by simp [rowF]
  | k + 1, x, s => by
    rw [rowF, rowF_end c g y k (x + 1)]
    simp only [rowF]
    rw [show x + 1 + (k : Int) = x + ((k + 1 : Nat) : Int) by omega]
    rfl
theorem boxF_end (c g x0 : Int) (w : Nat) : ∀ (h : Nat) (y : Int) (s : (Int → Int) × Int), boxF c g x0 w y (h + 1) s = rowF c g (y + h) x0 w (boxF c g x0 w y h s)
  | 0, y, s => by simp [boxF]
  | h + 1, y, s => by
    rw [boxF, boxF_end c g x0 w h (y + 1)]
    simp only [boxF]
    rw [show y + 1 + (h : Int) = y + ((h + 1 : Nat) : Int) by omega]
theorem dX4_fillBox_0 : decode cX4_fillBox 0 = .ok (.iconst 0, 1) := by decide +kernel
theorem dX4_fillBox_1 : decode cX4_fillBox 1 = .ok (.istore 6, 2) := by decide +kernel
theorem dX4_fillBox_3 : decode cX4_fillBox 3 = .ok (.iload_n 3, 1) := by decide +kernel
theorem dX4_fillBox_4 : decode cX4_fillBox 4 = .ok (.istore 7, 2) := by decide +kernel
theorem dX4_fillBox_6 : decode cX4_fillBox 6 = .ok (.iload 7, 2) := by decide +kernel
theorem dX4_fillBox_8 : decode cX4_fillBox 8 = .ok (.iload 4, 2) := by decide +kernel
theorem dX4_fillBox_10 : decode cX4_fillBox 10 = .ok (.if_icmp .gt 42, 3) := by decide +kernel
theorem dX4_fillBox_13 : decode cX4_fillBox 13 = .ok (.iload_n 1, 1) := by decide +kernel
theorem dX4_fillBox_14 : decode cX4_fillBox 14 = .ok (.istore 8, 2) := by decide +kernel
theorem dX4_fillBox_16 : decode cX4_fillBox 16 = .ok (.iload 8, 2) := by decide +kernel
theorem dX4_fillBox_18 : decode cX4_fillBox 18 = .ok (.iload_n 2, 1) := by decide +kernel
theorem dX4_fillBox_19 : decode cX4_fillBox 19 = .ok (.if_icmp .gt 27, 3) := by decide +kernel
theorem dX4_fillBox_22 : decode cX4_fillBox 22 = .ok (.aload_n 0, 1) := by decide +kernel
theorem dX4_fillBox_23 : decode cX4_fillBox 23 = .ok (.iload 8, 2) := by decide +kernel
theorem dX4_fillBox_25 : decode cX4_fillBox 25 = .ok (.iload 7, 2) := by decide +kernel
theorem dX4_fillBox_27 : decode cX4_fillBox 27 = .ok (.iload 5, 2) := by decide +kernel
theorem dX4_fillBox_29 : decode cX4_fillBox 29 = .ok (.invokevirtual 72, 3) := by decide +kernel
theorem dX4_fillBox_32 : decode cX4_fillBox 32 = .ok (.iload 5, 2) := by decide +kernel
theorem dX4_fillBox_34 : decode cX4_fillBox 34 = .ok (.if_icmp .eq 6, 3) := by decide +kernel
theorem dX4_fillBox_37 : decode cX4_fillBox 37 = .ok (.iinc 6 1, 3) := by decide +kernel
theorem dX4_fillBox_40 : decode cX4_fillBox 40 = .ok (.iinc 8 1, 3) := by decide +kernel
theorem dX4_fillBox_43 : decode cX4_fillBox 43 = .ok (.goto (-27), 3) := by decide +kernel
theorem dX4_fillBox_46 : decode cX4_fillBox 46 = .ok (.iinc 7 1, 3) := by decide +kernel
theorem dX4_fillBox_49 : decode cX4_fillBox 49 = .ok (.goto (-43), 3) := by decide +kernel
theorem dX4_fillBox_52 : decode cX4_fillBox 52 = .ok (.iload 6, 2) := by decide +kernel
theorem dX4_fillBox_54 : decode cX4_fillBox 54 = .ok (.ireturn, 1) := by decide +kernel
theorem c_fillBox {x0 x1 y0 y1 g : Int} (hd : dim c r) (hx : 0 ≤ x0 ∧ x0 ≤ x1 ∧ x1 < c) (hy : 0 ≤ y0 ∧ y0 ≤ y1 ∧ y1 < r) (hG : ∀ i, rg (G i)) (hg : rg g) : Cd l yX4_fillBox cX4_fillBox 9 (some .int) rmX4_fillBox [.ref 0, iv x0, iv x1, iv y0, iv y1, iv g] (stM c r G T n le Hh li)
    (some (iv (boxF c g x0 (x1 - x0 + 1).toNat y0 (y1 - y0 + 1).toNat (G, 0)).2)) (stM c r (boxF c g x0 (x1 - x0 + 1).toNat y0 (y1 - y0 + 1).toNat (G, 0)).1 T n le Hh li) := by
  refine Ct.of miX4_fillBox (Nat.le_of_ble_eq_true rfl) ?_
  intro X hXl hN ok
  refine AW.cast (L2 := [some (.ref 0), some (iv x0), some (iv x1), some (iv y0), some (iv y1), some (iv g), none, none, none]) ?_ rfl rfl rfl
  obtain ⟨d1, d2, d3, d4⟩ := id hd
  have loop : ∀ q : Int × (Int → Int) × Int, (y0 ≤ q.1 ∧ q.1 ≤ y1 + 1 ∧ (∀ i, rg (q.2.1 i)) ∧ q.2 = boxF c g x0 (x1 - x0 + 1).toNat y0 (q.1 - y0).toNat (G, 0)) → AW X 0 0 6 [some (.ref 0), some (iv x0), some (iv x1), some (iv y0), some (iv y1), some (iv g), some (iv q.2.2), some (iv q.1), none] [] (stM c r q.2.1 T n le Hh li) := by
    refine wfl (fun q : Int × (Int → Int) × Int => (y1 + 1 - q.1).toNat) _ _ ?_
    rintro ⟨y, G1, n1⟩ ⟨hy0, hy1, hG1, he⟩ ih
    dsimp only at hy0 hy1 hG1 he ih ⊢
    have inner : ∀ q : Int × (Int → Int) × Int, (x0 ≤ q.1 ∧ q.1 ≤ x1 + 1 ∧ y ≤ y1 ∧ (∀ i, rg (q.2.1 i)) ∧ q.2 = rowF c g y x0 (q.1 - x0).toNat (G1, n1)) → AW X 0 0 16 [some (.ref 0), some (iv x0), some (iv x1), some (iv y0), some (iv y1), some (iv g), some (iv q.2.2), some (iv y), some (iv q.1)] [] (stM c r q.2.1 T n le Hh li) := by
      refine wfl (fun q : Int × (Int → Int) × Int => (x1 + 1 - q.1).toNat) _ _ ?_
      rintro ⟨x, G2, n2⟩ ⟨hx0, hx1, hyy, hG2, he2⟩ ih2
      dsimp only at hx0 hx1 hyy hG2 he2 ih2 ⊢
      have hu : ∀ i, rg (up G2 (y * c + x) g i) := fun i => by unfold up; split; exact hg; exact hG2 i
      have hen := rowF_end c g y (x - x0).toNat x0 (G1, n1)
      rw [← he2, show x0 + ((x - x0).toNat : Int) = x by omega, show (x - x0).toNat + 1 = (x + 1 - x0).toNat by omega] at hen
      dsimp only at hen
      have hG2i := hG2 (y * c + x)
      refine a_iload (pc := 16) ok dX4_fillBox_16 rfl ?_
      refine a_iload_n (pc := 18) ok dX4_fillBox_18 rfl ?_
      refine a_icmp_gt (pc := 19) (tgt := 46) ok dX4_fillBox_19 (by decide) (by first | omega | (unfold rg; omega) | (simp only [rg] at *; omega) | exact bz_rg _ | grind [rg]) (by first | omega | (unfold rg; omega) | (simp only [rg] at *; omega) | exact bz_rg _ | grind [rg]) (fun c19 => ?_) (fun c19 => ?_)
      · have hb := boxF_end c g x0 (x1 - x0 + 1).toNat (y - y0).toNat y0 (G, 0)
        rw [← he, show y0 + ((y - y0).toNat : Int) = y by omega, show (y - y0).toNat + 1 = (y + 1 - y0).toNat by omega, show x1 - x0 + 1 = x - x0 by omega, ← he2] at hb
        rw [show x - x0 = x1 - x0 + 1 by omega] at hb
        refine a_iinc (pc := 46) ok dX4_fillBox_46 rfl rfl (by rw [hN]; decide) ?_
        refine a_goto (pc := 49) (tgt := 6) ok dX4_fillBox_49 (by decide) ?_
        exact AW.forget (ih (y + 1, G2, n2) ⟨by dsimp only; omega, by dsimp only; omega, hG2, hb.symm⟩ (by dsimp only; omega)) ⟨rfl, rfl, rfl, rfl, rfl, rfl, rfl, rfl, trivial⟩
      · refine a_aload_n (pc := 22) ok dX4_fillBox_22 rfl ?_
        refine a_iload (pc := 23) ok dX4_fillBox_23 rfl ?_
        refine a_iload (pc := 25) ok dX4_fillBox_25 rfl ?_
        refine a_iload (pc := 27) ok dX4_fillBox_27 rfl ?_
        refine a_callVi (pc := 29) ok [0, 1, 2, 3] dX4_fillBox_29 mv4_72 miX4_setGrey (c_setGrey (by have := dim_at hd (x := x) (y := y) (by omega) (by omega); omega)) ⟨by decide, by decide, rfl, rfl, Nat.zero_le _, Nat.zero_le _⟩ rfl rfl (by decide) rfl (by decide) rfl rfl rfl ?_
        refine a_iload (pc := 32) ok dX4_fillBox_32 rfl ?_
        refine a_icmp_eq (pc := 34) (tgt := 40) ok dX4_fillBox_34 (by decide) (by first | omega | (unfold rg; omega) | (simp only [rg] at *; omega) | exact bz_rg _ | grind [rg]) (by first | omega | (unfold rg; omega) | (simp only [rg] at *; omega) | exact bz_rg _ | grind [rg]) (fun c34 => ?_) (fun c34 => ?_)
        · refine AW.cast (L2 := [some (.ref 0), some (iv x0), some (iv x1), some (iv y0), some (iv y1), some (iv g), some (iv (rowF c g y x0 (x + 1 - x0).toNat (G1, n1)).2), some (iv y), some (iv x)]) ?_ (by rw [hen]; simp [c34]) rfl rfl
          refine a_iinc (pc := 40) ok dX4_fillBox_40 rfl rfl (by rw [hN]; decide) ?_
          refine a_goto (pc := 43) (tgt := 16) ok dX4_fillBox_43 (by decide) ?_
          exact ih2 (x + 1, up G2 (y * c + x) g, (rowF c g y x0 (x + 1 - x0).toNat (G1, n1)).2) ⟨by dsimp only; omega, by dsimp only; omega, hyy, hu, by dsimp only; rw [hen]⟩ (by dsimp only; omega)
        · refine a_iinc (pc := 37) ok dX4_fillBox_37 rfl rfl (by rw [hN]; decide) ?_
          refine AW.cast (L2 := [some (.ref 0), some (iv x0), some (iv x1), some (iv y0), some (iv y1), some (iv g), some (iv (rowF c g y x0 (x + 1 - x0).toNat (G1, n1)).2), some (iv y), some (iv x)]) ?_ (by rw [hen]; simp [c34]) rfl rfl
          refine a_iinc (pc := 40) ok dX4_fillBox_40 rfl rfl (by rw [hN]; decide) ?_
          refine a_goto (pc := 43) (tgt := 16) ok dX4_fillBox_43 (by decide) ?_
          exact ih2 (x + 1, up G2 (y * c + x) g, (rowF c g y x0 (x + 1 - x0).toNat (G1, n1)).2) ⟨by dsimp only; omega, by dsimp only; omega, hyy, hu, by dsimp only; rw [hen]⟩ (by dsimp only; omega)
    refine a_iload (pc := 6) ok dX4_fillBox_6 rfl ?_
    refine a_iload (pc := 8) ok dX4_fillBox_8 rfl ?_
    refine a_icmp_gt (pc := 10) (tgt := 52) ok dX4_fillBox_10 (by decide) (by first | omega | (unfold rg; omega) | (simp only [rg] at *; omega) | exact bz_rg _ | grind [rg]) (by first | omega | (unfold rg; omega) | (simp only [rg] at *; omega) | exact bz_rg _ | grind [rg]) (fun c10 => ?_) (fun c10 => ?_)
    · refine a_iload (pc := 52) ok dX4_fillBox_52 rfl ?_
      exact a_iret (pc := 54) ok dX4_fillBox_54 (by rw [show y1 - y0 + 1 = y - y0 by omega, ← he]; exact ⟨rfl, rfl⟩)
    · refine a_iload_n (pc := 13) ok dX4_fillBox_13 rfl ?_
      refine a_istore (pc := 14) ok dX4_fillBox_14 rfl (by rw [hN]; decide) ?_
      exact inner (x0, G1, n1) ⟨by dsimp only; omega, by dsimp only; omega, by omega, hG1, by dsimp only; rw [show (x0 - x0).toNat = 0 by omega]; rfl⟩
  refine a_iconst (pc := 0) ok dX4_fillBox_0 ?_
  refine a_istore (pc := 1) ok dX4_fillBox_1 rfl (by rw [hN]; decide) ?_
  refine a_iload_n (pc := 3) ok dX4_fillBox_3 rfl ?_
  refine a_istore (pc := 4) ok dX4_fillBox_4 rfl (by rw [hN]; decide) ?_
  exact loop (y0, G, 0) ⟨by dsimp only; omega, by dsimp only; omega, hG, by dsimp only; rw [show (y0 - y0).toNat = 0 by omega]; rfl⟩
end
end ST1
