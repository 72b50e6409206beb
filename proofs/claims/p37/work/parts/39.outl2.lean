/-! OUTLINES followed: the class and the Model. -/
section OF
variable {l : Launch} {c r ct L : Int} {B F S Br Q Fo No b : Int → Int}
abbrev olM (s rt lf wy : Int) (c r m ct : Int) (B F S Br Q Fo No : Int → Int) : List va_E := ob 3 [iv s, iv rt, iv lf, iv wy] :: isA 1 c r m ct B F S Br Q Fo No
theorem dX3_eastOf_0 : decode cX3_eastOf 0 = .ok (.iload_n 0, 1) := by decide +kernel
theorem dX3_eastOf_1 : decode cX3_eastOf 1 = .ok (.ifCond .ne 7, 3) := by decide +kernel
theorem dX3_eastOf_4 : decode cX3_eastOf 4 = .ok (.iconst 1, 1) := by decide +kernel
theorem dX3_eastOf_5 : decode cX3_eastOf 5 = .ok (.goto 13, 3) := by decide +kernel
theorem dX3_eastOf_8 : decode cX3_eastOf 8 = .ok (.iload_n 0, 1) := by decide +kernel
theorem dX3_eastOf_9 : decode cX3_eastOf 9 = .ok (.iconst 2, 1) := by decide +kernel
theorem dX3_eastOf_10 : decode cX3_eastOf 10 = .ok (.if_icmp .ne 7, 3) := by decide +kernel
theorem dX3_eastOf_13 : decode cX3_eastOf 13 = .ok (.iconst (-1), 1) := by decide +kernel
theorem dX3_eastOf_14 : decode cX3_eastOf 14 = .ok (.goto 4, 3) := by decide +kernel
theorem dX3_eastOf_17 : decode cX3_eastOf 17 = .ok (.iconst 0, 1) := by decide +kernel
theorem dX3_eastOf_18 : decode cX3_eastOf 18 = .ok (.ireturn, 1) := by decide +kernel
theorem c_eastOf {w : Int} (hw : 0 ≤ w ∧ w < 4) : Cd l yX3_eastOf cX3_eastOf 1 (some .int) rmX3_eastOf [iv w] [] (some (iv (dx w))) [] := by
  refine Ct.of miX3_eastOf (Nat.le_of_ble_eq_true rfl) ?_
  intro X hXl hN ok
  refine AW.cast (L2 := [some (iv w)]) ?_ rfl rfl rfl
  refine a_iload_n (pc := 0) ok dX3_eastOf_0 rfl ?_
  refine a_if_ne (pc := 1) (tgt := 8) ok dX3_eastOf_1 (by decide) (by first | omega | (unfold rg; omega) | (simp only [rg] at *; omega) | exact bz_rg _ | grind [rg]) (fun c1 => ?_) (fun c1 => ?_)
  · refine a_iload_n (pc := 8) ok dX3_eastOf_8 rfl ?_
    refine a_iconst (pc := 9) ok dX3_eastOf_9 ?_
    refine a_icmp_ne (pc := 10) (tgt := 17) ok dX3_eastOf_10 (by decide) (by first | omega | (unfold rg; omega) | (simp only [rg] at *; omega) | exact bz_rg _ | grind [rg]) (by first | omega | (unfold rg; omega) | (simp only [rg] at *; omega) | exact bz_rg _ | grind [rg]) (fun c10 => ?_) (fun c10 => ?_)
    · refine a_iconst (pc := 17) ok dX3_eastOf_17 ?_
      exact a_iret (pc := 18) ok dX3_eastOf_18 (⟨by unfold dx; first | rw [if_pos (by omega)] | rw [if_neg (by omega), if_pos (by omega)] | rw [if_neg (by omega), if_neg (by omega)], rfl⟩)
    · refine a_iconst (pc := 13) ok dX3_eastOf_13 ?_
      refine a_goto (pc := 14) (tgt := 18) ok dX3_eastOf_14 (by decide) ?_
      exact a_iret (pc := 18) ok dX3_eastOf_18 (⟨by unfold dx; first | rw [if_pos (by omega)] | rw [if_neg (by omega), if_pos (by omega)] | rw [if_neg (by omega), if_neg (by omega)], rfl⟩)
  · refine a_iconst (pc := 4) ok dX3_eastOf_4 ?_
    refine a_goto (pc := 5) (tgt := 18) ok dX3_eastOf_5 (by decide) ?_
    exact a_iret (pc := 18) ok dX3_eastOf_18 (⟨by unfold dx; first | rw [if_pos (by omega)] | rw [if_neg (by omega), if_pos (by omega)] | rw [if_neg (by omega), if_neg (by omega)], rfl⟩)
theorem dX3_southOf_0 : decode cX3_southOf 0 = .ok (.iload_n 0, 1) := by decide +kernel
theorem dX3_southOf_1 : decode cX3_southOf 1 = .ok (.iconst 1, 1) := by decide +kernel
theorem dX3_southOf_2 : decode cX3_southOf 2 = .ok (.if_icmp .ne 7, 3) := by decide +kernel
theorem dX3_southOf_5 : decode cX3_southOf 5 = .ok (.iconst 1, 1) := by decide +kernel
theorem dX3_southOf_6 : decode cX3_southOf 6 = .ok (.goto 13, 3) := by decide +kernel
theorem dX3_southOf_9 : decode cX3_southOf 9 = .ok (.iload_n 0, 1) := by decide +kernel
theorem dX3_southOf_10 : decode cX3_southOf 10 = .ok (.iconst 3, 1) := by decide +kernel
theorem dX3_southOf_11 : decode cX3_southOf 11 = .ok (.if_icmp .ne 7, 3) := by decide +kernel
theorem dX3_southOf_14 : decode cX3_southOf 14 = .ok (.iconst (-1), 1) := by decide +kernel
theorem dX3_southOf_15 : decode cX3_southOf 15 = .ok (.goto 4, 3) := by decide +kernel
theorem dX3_southOf_18 : decode cX3_southOf 18 = .ok (.iconst 0, 1) := by decide +kernel
theorem dX3_southOf_19 : decode cX3_southOf 19 = .ok (.ireturn, 1) := by decide +kernel
theorem c_southOf {w : Int} (hw : 0 ≤ w ∧ w < 4) : Cd l yX3_southOf cX3_southOf 1 (some .int) rmX3_southOf [iv w] [] (some (iv (dy w))) [] := by
  refine Ct.of miX3_southOf (Nat.le_of_ble_eq_true rfl) ?_
  intro X hXl hN ok
  refine AW.cast (L2 := [some (iv w)]) ?_ rfl rfl rfl
  refine a_iload_n (pc := 0) ok dX3_southOf_0 rfl ?_
  refine a_iconst (pc := 1) ok dX3_southOf_1 ?_
  refine a_icmp_ne (pc := 2) (tgt := 9) ok dX3_southOf_2 (by decide) (by first | omega | (unfold rg; omega) | (simp only [rg] at *; omega) | exact bz_rg _ | grind [rg]) (by first | omega | (unfold rg; omega) | (simp only [rg] at *; omega) | exact bz_rg _ | grind [rg]) (fun c2 => ?_) (fun c2 => ?_)
  · refine a_iload_n (pc := 9) ok dX3_southOf_9 rfl ?_
    refine a_iconst (pc := 10) ok dX3_southOf_10 ?_
    refine a_icmp_ne (pc := 11) (tgt := 18) ok dX3_southOf_11 (by decide) (by first | omega | (unfold rg; omega) | (simp only [rg] at *; omega) | exact bz_rg _ | grind [rg]) (by first | omega | (unfold rg; omega) | (simp only [rg] at *; omega) | exact bz_rg _ | grind [rg]) (fun c11 => ?_) (fun c11 => ?_)
    · refine a_iconst (pc := 18) ok dX3_southOf_18 ?_
      exact a_iret (pc := 19) ok dX3_southOf_19 (⟨by unfold dy; first | rw [if_pos (by omega)] | rw [if_neg (by omega), if_pos (by omega)] | rw [if_neg (by omega), if_neg (by omega)], rfl⟩)
    · refine a_iconst (pc := 14) ok dX3_southOf_14 ?_
      refine a_goto (pc := 15) (tgt := 19) ok dX3_southOf_15 (by decide) ?_
      exact a_iret (pc := 19) ok dX3_southOf_19 (⟨by unfold dy; first | rw [if_pos (by omega)] | rw [if_neg (by omega), if_pos (by omega)] | rw [if_neg (by omega), if_neg (by omega)], rfl⟩)
  · refine a_iconst (pc := 5) ok dX3_southOf_5 ?_
    refine a_goto (pc := 6) (tgt := 19) ok dX3_southOf_6 (by decide) ?_
    exact a_iret (pc := 19) ok dX3_southOf_19 (⟨by unfold dy; first | rw [if_pos (by omega)] | rw [if_neg (by omega), if_pos (by omega)] | rw [if_neg (by omega), if_neg (by omega)], rfl⟩)
theorem dX3_isOfIsland_0 : decode cX3_isOfIsland 0 = .ok (.iload 4, 2) := by decide +kernel
theorem dX3_isOfIsland_2 : decode cX3_isOfIsland 2 = .ok (.iconst 1, 1) := by decide +kernel
theorem dX3_isOfIsland_3 : decode cX3_isOfIsland 3 = .ok (.if_icmp .eq 9, 3) := by decide +kernel
theorem dX3_isOfIsland_6 : decode cX3_isOfIsland 6 = .ok (.iload 4, 2) := by decide +kernel
theorem dX3_isOfIsland_8 : decode cX3_isOfIsland 8 = .ok (.iconst 2, 1) := by decide +kernel
theorem dX3_isOfIsland_9 : decode cX3_isOfIsland 9 = .ok (.if_icmp .ne 9, 3) := by decide +kernel
theorem dX3_isOfIsland_12 : decode cX3_isOfIsland 12 = .ok (.iload_n 2, 1) := by decide +kernel
theorem dX3_isOfIsland_13 : decode cX3_isOfIsland 13 = .ok (.iconst 1, 1) := by decide +kernel
theorem dX3_isOfIsland_14 : decode cX3_isOfIsland 14 = .ok (.isub, 1) := by decide +kernel
theorem dX3_isOfIsland_15 : decode cX3_isOfIsland 15 = .ok (.goto 4, 3) := by decide +kernel
theorem dX3_isOfIsland_18 : decode cX3_isOfIsland 18 = .ok (.iload_n 2, 1) := by decide +kernel
theorem dX3_isOfIsland_19 : decode cX3_isOfIsland 19 = .ok (.istore 5, 2) := by decide +kernel
theorem dX3_isOfIsland_21 : decode cX3_isOfIsland 21 = .ok (.iload 4, 2) := by decide +kernel
theorem dX3_isOfIsland_23 : decode cX3_isOfIsland 23 = .ok (.iconst 2, 1) := by decide +kernel
theorem dX3_isOfIsland_24 : decode cX3_isOfIsland 24 = .ok (.if_icmp .eq 9, 3) := by decide +kernel
theorem dX3_isOfIsland_27 : decode cX3_isOfIsland 27 = .ok (.iload 4, 2) := by decide +kernel
theorem dX3_isOfIsland_29 : decode cX3_isOfIsland 29 = .ok (.iconst 3, 1) := by decide +kernel
theorem dX3_isOfIsland_30 : decode cX3_isOfIsland 30 = .ok (.if_icmp .ne 9, 3) := by decide +kernel
theorem dX3_isOfIsland_33 : decode cX3_isOfIsland 33 = .ok (.iload_n 3, 1) := by decide +kernel
theorem dX3_isOfIsland_34 : decode cX3_isOfIsland 34 = .ok (.iconst 1, 1) := by decide +kernel
theorem dX3_isOfIsland_35 : decode cX3_isOfIsland 35 = .ok (.isub, 1) := by decide +kernel
theorem dX3_isOfIsland_36 : decode cX3_isOfIsland 36 = .ok (.goto 4, 3) := by decide +kernel
theorem dX3_isOfIsland_39 : decode cX3_isOfIsland 39 = .ok (.iload_n 3, 1) := by decide +kernel
theorem dX3_isOfIsland_40 : decode cX3_isOfIsland 40 = .ok (.istore 6, 2) := by decide +kernel
theorem dX3_isOfIsland_42 : decode cX3_isOfIsland 42 = .ok (.aload_n 0, 1) := by decide +kernel
theorem dX3_isOfIsland_43 : decode cX3_isOfIsland 43 = .ok (.iload 5, 2) := by decide +kernel
theorem dX3_isOfIsland_45 : decode cX3_isOfIsland 45 = .ok (.iload 6, 2) := by decide +kernel
theorem dX3_isOfIsland_47 : decode cX3_isOfIsland 47 = .ok (.invokevirtual 47, 3) := by decide +kernel
theorem dX3_isOfIsland_50 : decode cX3_isOfIsland 50 = .ok (.ifCond .eq 25, 3) := by decide +kernel
theorem dX3_isOfIsland_53 : decode cX3_isOfIsland 53 = .ok (.aload_n 0, 1) := by decide +kernel
theorem dX3_isOfIsland_54 : decode cX3_isOfIsland 54 = .ok (.iload 6, 2) := by decide +kernel
theorem dX3_isOfIsland_56 : decode cX3_isOfIsland 56 = .ok (.aload_n 0, 1) := by decide +kernel
theorem dX3_isOfIsland_57 : decode cX3_isOfIsland 57 = .ok (.getfield 30, 3) := by decide +kernel
theorem dX3_isOfIsland_60 : decode cX3_isOfIsland 60 = .ok (.imul, 1) := by decide +kernel
theorem dX3_isOfIsland_61 : decode cX3_isOfIsland 61 = .ok (.iload 5, 2) := by decide +kernel
theorem dX3_isOfIsland_63 : decode cX3_isOfIsland 63 = .ok (.iadd, 1) := by decide +kernel
theorem dX3_isOfIsland_64 : decode cX3_isOfIsland 64 = .ok (.invokevirtual 51, 3) := by decide +kernel
theorem dX3_isOfIsland_67 : decode cX3_isOfIsland 67 = .ok (.iload_n 1, 1) := by decide +kernel
theorem dX3_isOfIsland_68 : decode cX3_isOfIsland 68 = .ok (.if_icmp .ne 7, 3) := by decide +kernel
theorem dX3_isOfIsland_71 : decode cX3_isOfIsland 71 = .ok (.iconst 1, 1) := by decide +kernel
theorem dX3_isOfIsland_72 : decode cX3_isOfIsland 72 = .ok (.goto 4, 3) := by decide +kernel
theorem dX3_isOfIsland_75 : decode cX3_isOfIsland 75 = .ok (.iconst 0, 1) := by decide +kernel
theorem dX3_isOfIsland_76 : decode cX3_isOfIsland 76 = .ok (.ireturn, 1) := by decide +kernel
theorem c_isOfIsland {x y w i : Int} (hd : dim c r) (hL : cel c r L) (hl : lw c r b L = L) (hi : rk c r b L = i) (hx : -5 ≤ x ∧ x ≤ 20) (hy : -5 ≤ y ∧ y ≤ 20) (hw : 0 ≤ w ∧ w < 4) (hI : IW c r b ct B F S Fo No) : Cd l yX3_isOfIsland cX3_isOfIsland 7 (some .boolean) rmX3_isOfIsland [.ref 0, iv i, iv x, iv y, iv w] (isM c r (c * r) ct B F S Br Q Fo No) (some (iv (bz (cn (inI c r b L) x y w = true)))) (isM c r (c * r) ct B F S Br Q Fo No) := by
  subst hi
  refine Ct.of miX3_isOfIsland (Nat.le_of_ble_eq_true rfl) ?_
  intro X hXl hN ok
  refine AW.cast (L2 := [some (.ref 0), some (iv (rk c r b L)), some (iv x), some (iv y), some (iv w), none, none]) ?_ rfl rfl rfl
  have hc := dim_cells hd
  have hm := mny_1 (B := b) hd
  have hrL := rk_mny hd hL hl
  have hcl : ∀ u v : Int, inP c r u v → cel c r (v * c + u) ∧ (0 ≤ rk c r b (lw c r b (v * c + u)) ∧ rk c r b (lw c r b (v * c + u)) < 144) ∧ (rk c r b (lw c r b (v * c + u)) = rk c r b L ↔ lw c r b (v * c + u) = L) := fun u v h => by
    have h1 := xy_cel hd (x := u) (y := v) (by omega) (by omega)
    have hh := lw_ok (B := b) hd h1
    have h3 := rk_mny hd hh.1 (lw_lw hd h1)
    exact ⟨h1, by omega, ⟨fun e => rk_inj hh.1 (lw_lw hd h1) hL hl e, fun e => by rw [e]⟩⟩
  have hcn : ∀ u v : Int, u = rx x w → v = ry y w → (cn (inI c r b L) x y w = true ↔ inI c r b L u v) := fun u v e1 e2 => by rw [e1, e2]; exact tr_t
  have fin : ∀ u v : Int, (-10 ≤ u ∧ u ≤ 30) → (-10 ≤ v ∧ v ≤ 30) → u = rx x w → v = ry y w → AW X 0 0 42 [some (.ref 0), some (iv (rk c r b L)), some (iv x), some (iv y), some (iv w), some (iv u), some (iv v)] [] (isM c r (c * r) ct B F S Br Q Fo No) := by
    intro u v hu hv e1 e2
    have hcn2 := hcn u v e1 e2
    by_cases hp : inP c r u v
    · have hcl2 := hcl u v hp
      refine a_aload_n (pc := 42) ok dX3_isOfIsland_42 rfl ?_
      refine a_iload (pc := 43) ok dX3_isOfIsland_43 rfl ?_
      refine a_iload (pc := 45) ok dX3_isOfIsland_45 rfl ?_
      refine a_callVp (pc := 47) ok [0, 1, 2, 3, 4, 5, 6, 7] dX3_isOfIsland_47 mv3_47 miX0_isOnPlate (c_isOnPlate hd (by unfold rg; omega) (by unfold rg; omega)) ⟨by decide, by decide, rfl, rfl, Nat.zero_le _, Nat.zero_le _⟩ rfl rfl (Nat.le_of_ble_eq_true rfl) rfl (by decide) rfl rfl ?_
      refine a_if_eq (pc := 50) (tgt := 75) ok dX3_isOfIsland_50 (by decide) (by exact bz_rg _) (fun c50 => ?_) (fun c50 => ?_)
      · exact absurd c50 (by rw [bz_pos hp]; decide)
      · refine a_aload_n (pc := 53) ok dX3_isOfIsland_53 rfl ?_
        refine a_iload (pc := 54) ok dX3_isOfIsland_54 rfl ?_
        refine a_aload_n (pc := 56) ok dX3_isOfIsland_56 rfl ?_
        refine a_getf (pc := 57) ok dX3_isOfIsland_57 fl3_30 rfl rfl ?_
        refine a_imul (pc := 60) ok dX3_isOfIsland_60 ?_
        refine a_iload (pc := 61) ok dX3_isOfIsland_61 rfl ?_
        refine a_iadd (pc := 63) ok dX3_isOfIsland_63 ?_
        refine a_callVp (pc := 64) ok [0, 1, 2, 3, 4, 5, 6, 7] dX3_isOfIsland_64 mv3_51 miX0_islandAt (c_islandAt hd hcl2.1 hI) ⟨by decide, by decide, rfl, rfl, Nat.zero_le _, Nat.zero_le _⟩ rfl rfl (Nat.le_of_ble_eq_true rfl) rfl (by decide) rfl rfl ?_
        refine a_iload_n (pc := 67) ok dX3_isOfIsland_67 rfl ?_
        refine a_icmp_ne (pc := 68) (tgt := 75) ok dX3_isOfIsland_68 (by decide) (by first | omega | (unfold rg; omega) | (simp only [rg] at *; omega) | exact bz_rg _ | grind [rg]) (by first | omega | (unfold rg; omega) | (simp only [rg] at *; omega) | exact bz_rg _ | grind [rg]) (fun c68 => ?_) (fun c68 => ?_)
        · refine a_iconst (pc := 75) ok dX3_isOfIsland_75 ?_
          exact a_zret (pc := 76) ok dX3_isOfIsland_76 (by first | rfl | exact nb_bz _ | exact @nb_bz _ (Classical.propDecidable _) | decide) (⟨by rw [bz_neg (fun z => c68 (hcl2.2.2.mpr (hcn2.mp z).2))], rfl⟩)
        · refine a_iconst (pc := 71) ok dX3_isOfIsland_71 ?_
          refine a_goto (pc := 72) (tgt := 76) ok dX3_isOfIsland_72 (by decide) ?_
          exact a_zret (pc := 76) ok dX3_isOfIsland_76 (by first | rfl | exact nb_bz _ | exact @nb_bz _ (Classical.propDecidable _) | decide) (⟨by rw [bz_pos (hcn2.mpr ⟨hp, hcl2.2.2.mp c68⟩)], rfl⟩)
    · skip
      refine a_aload_n (pc := 42) ok dX3_isOfIsland_42 rfl ?_
      refine a_iload (pc := 43) ok dX3_isOfIsland_43 rfl ?_
      refine a_iload (pc := 45) ok dX3_isOfIsland_45 rfl ?_
      refine a_callVp (pc := 47) ok [0, 1, 2, 3, 4, 5, 6, 7] dX3_isOfIsland_47 mv3_47 miX0_isOnPlate (c_isOnPlate hd (by unfold rg; omega) (by unfold rg; omega)) ⟨by decide, by decide, rfl, rfl, Nat.zero_le _, Nat.zero_le _⟩ rfl rfl (Nat.le_of_ble_eq_true rfl) rfl (by decide) rfl rfl ?_
      refine a_if_eq (pc := 50) (tgt := 75) ok dX3_isOfIsland_50 (by decide) (by exact bz_rg _) (fun c50 => ?_) (fun c50 => ?_)
      · refine a_iconst (pc := 75) ok dX3_isOfIsland_75 ?_
        exact a_zret (pc := 76) ok dX3_isOfIsland_76 (by first | rfl | exact nb_bz _ | exact @nb_bz _ (Classical.propDecidable _) | decide) (⟨by rw [bz_neg (fun z => hp (hcn2.mp z).1)], rfl⟩)
      · exact absurd (bz_neg hp) c50
  have hrx : ∀ u : Int, u = x - 1 → (w = 1 ∨ w = 2) → u = rx x w := fun u e h => by unfold rx; rw [if_pos h, e]
  have hrx2 : ¬ (w = 1 ∨ w = 2) → x = rx x w := fun h => by unfold rx; rw [if_neg h]
  have hry : ∀ u : Int, u = y - 1 → (w = 2 ∨ w = 3) → u = ry y w := fun u e h => by unfold ry; rw [if_pos h, e]
  have hry2 : ¬ (w = 2 ∨ w = 3) → y = ry y w := fun h => by unfold ry; rw [if_neg h]
  refine a_iload (pc := 0) ok dX3_isOfIsland_0 rfl ?_
  refine a_iconst (pc := 2) ok dX3_isOfIsland_2 ?_
  refine a_icmp_eq (pc := 3) (tgt := 12) ok dX3_isOfIsland_3 (by decide) (by first | omega | (unfold rg; omega) | (simp only [rg] at *; omega) | exact bz_rg _ | grind [rg]) (by first | omega | (unfold rg; omega) | (simp only [rg] at *; omega) | exact bz_rg _ | grind [rg]) (fun c3 => ?_) (fun c3 => ?_)
  · refine a_iload_n (pc := 12) ok dX3_isOfIsland_12 rfl ?_
    refine a_iconst (pc := 13) ok dX3_isOfIsland_13 ?_
    refine a_isub (pc := 14) ok dX3_isOfIsland_14 ?_
    refine a_goto (pc := 15) (tgt := 19) ok dX3_isOfIsland_15 (by decide) ?_
    refine a_istore (pc := 19) ok dX3_isOfIsland_19 rfl (by rw [hN]; decide) ?_
    refine a_iload (pc := 21) ok dX3_isOfIsland_21 rfl ?_
    refine a_iconst (pc := 23) ok dX3_isOfIsland_23 ?_
    refine a_icmp_eq (pc := 24) (tgt := 33) ok dX3_isOfIsland_24 (by decide) (by first | omega | (unfold rg; omega) | (simp only [rg] at *; omega) | exact bz_rg _ | grind [rg]) (by first | omega | (unfold rg; omega) | (simp only [rg] at *; omega) | exact bz_rg _ | grind [rg]) (fun c24 => ?_) (fun c24 => ?_)
    · refine a_iload_n (pc := 33) ok dX3_isOfIsland_33 rfl ?_
      refine a_iconst (pc := 34) ok dX3_isOfIsland_34 ?_
      refine a_isub (pc := 35) ok dX3_isOfIsland_35 ?_
      refine a_goto (pc := 36) (tgt := 40) ok dX3_isOfIsland_36 (by decide) ?_
      refine a_istore (pc := 40) ok dX3_isOfIsland_40 rfl (by rw [hN]; decide) ?_
      exact AW.cast (fin (x - 1) (y - 1) (by omega) (by omega) (hrx _ rfl (by omega)) (hry _ rfl (by omega))) rfl rfl rfl
    · refine a_iload (pc := 27) ok dX3_isOfIsland_27 rfl ?_
      refine a_iconst (pc := 29) ok dX3_isOfIsland_29 ?_
      refine a_icmp_ne (pc := 30) (tgt := 39) ok dX3_isOfIsland_30 (by decide) (by first | omega | (unfold rg; omega) | (simp only [rg] at *; omega) | exact bz_rg _ | grind [rg]) (by first | omega | (unfold rg; omega) | (simp only [rg] at *; omega) | exact bz_rg _ | grind [rg]) (fun c30 => ?_) (fun c30 => ?_)
      · refine a_iload_n (pc := 39) ok dX3_isOfIsland_39 rfl ?_
        refine a_istore (pc := 40) ok dX3_isOfIsland_40 rfl (by rw [hN]; decide) ?_
        exact AW.cast (fin (x - 1) y (by omega) (by omega) (hrx _ rfl (by omega)) (hry2 (by omega))) rfl rfl rfl
      · refine a_iload_n (pc := 33) ok dX3_isOfIsland_33 rfl ?_
        refine a_iconst (pc := 34) ok dX3_isOfIsland_34 ?_
        refine a_isub (pc := 35) ok dX3_isOfIsland_35 ?_
        refine a_goto (pc := 36) (tgt := 40) ok dX3_isOfIsland_36 (by decide) ?_
        refine a_istore (pc := 40) ok dX3_isOfIsland_40 rfl (by rw [hN]; decide) ?_
        exact AW.cast (fin (x - 1) (y - 1) (by omega) (by omega) (hrx _ rfl (by omega)) (hry _ rfl (by omega))) rfl rfl rfl
  · refine a_iload (pc := 6) ok dX3_isOfIsland_6 rfl ?_
    refine a_iconst (pc := 8) ok dX3_isOfIsland_8 ?_
    refine a_icmp_ne (pc := 9) (tgt := 18) ok dX3_isOfIsland_9 (by decide) (by first | omega | (unfold rg; omega) | (simp only [rg] at *; omega) | exact bz_rg _ | grind [rg]) (by first | omega | (unfold rg; omega) | (simp only [rg] at *; omega) | exact bz_rg _ | grind [rg]) (fun c9 => ?_) (fun c9 => ?_)
    · refine a_iload_n (pc := 18) ok dX3_isOfIsland_18 rfl ?_
      refine a_istore (pc := 19) ok dX3_isOfIsland_19 rfl (by rw [hN]; decide) ?_
      refine a_iload (pc := 21) ok dX3_isOfIsland_21 rfl ?_
      refine a_iconst (pc := 23) ok dX3_isOfIsland_23 ?_
      refine a_icmp_eq (pc := 24) (tgt := 33) ok dX3_isOfIsland_24 (by decide) (by first | omega | (unfold rg; omega) | (simp only [rg] at *; omega) | exact bz_rg _ | grind [rg]) (by first | omega | (unfold rg; omega) | (simp only [rg] at *; omega) | exact bz_rg _ | grind [rg]) (fun c24 => ?_) (fun c24 => ?_)
      · refine a_iload_n (pc := 33) ok dX3_isOfIsland_33 rfl ?_
        refine a_iconst (pc := 34) ok dX3_isOfIsland_34 ?_
        refine a_isub (pc := 35) ok dX3_isOfIsland_35 ?_
        refine a_goto (pc := 36) (tgt := 40) ok dX3_isOfIsland_36 (by decide) ?_
        refine a_istore (pc := 40) ok dX3_isOfIsland_40 rfl (by rw [hN]; decide) ?_
        exact AW.cast (fin x (y - 1) (by omega) (by omega) (hrx2 (by omega)) (hry _ rfl (by omega))) rfl rfl rfl
      · refine a_iload (pc := 27) ok dX3_isOfIsland_27 rfl ?_
        refine a_iconst (pc := 29) ok dX3_isOfIsland_29 ?_
        refine a_icmp_ne (pc := 30) (tgt := 39) ok dX3_isOfIsland_30 (by decide) (by first | omega | (unfold rg; omega) | (simp only [rg] at *; omega) | exact bz_rg _ | grind [rg]) (by first | omega | (unfold rg; omega) | (simp only [rg] at *; omega) | exact bz_rg _ | grind [rg]) (fun c30 => ?_) (fun c30 => ?_)
        · refine a_iload_n (pc := 39) ok dX3_isOfIsland_39 rfl ?_
          refine a_istore (pc := 40) ok dX3_isOfIsland_40 rfl (by rw [hN]; decide) ?_
          exact AW.cast (fin x y (by omega) (by omega) (hrx2 (by omega)) (hry2 (by omega))) rfl rfl rfl
        · refine a_iload_n (pc := 33) ok dX3_isOfIsland_33 rfl ?_
          refine a_iconst (pc := 34) ok dX3_isOfIsland_34 ?_
          refine a_isub (pc := 35) ok dX3_isOfIsland_35 ?_
          refine a_goto (pc := 36) (tgt := 40) ok dX3_isOfIsland_36 (by decide) ?_
          refine a_istore (pc := 40) ok dX3_isOfIsland_40 rfl (by rw [hN]; decide) ?_
          exact AW.cast (fin x (y - 1) (by omega) (by omega) (hrx2 (by omega)) (hry _ rfl (by omega))) rfl rfl rfl
    · refine a_iload_n (pc := 12) ok dX3_isOfIsland_12 rfl ?_
      refine a_iconst (pc := 13) ok dX3_isOfIsland_13 ?_
      refine a_isub (pc := 14) ok dX3_isOfIsland_14 ?_
      refine a_goto (pc := 15) (tgt := 19) ok dX3_isOfIsland_15 (by decide) ?_
      refine a_istore (pc := 19) ok dX3_isOfIsland_19 rfl (by rw [hN]; decide) ?_
      refine a_iload (pc := 21) ok dX3_isOfIsland_21 rfl ?_
      refine a_iconst (pc := 23) ok dX3_isOfIsland_23 ?_
      refine a_icmp_eq (pc := 24) (tgt := 33) ok dX3_isOfIsland_24 (by decide) (by first | omega | (unfold rg; omega) | (simp only [rg] at *; omega) | exact bz_rg _ | grind [rg]) (by first | omega | (unfold rg; omega) | (simp only [rg] at *; omega) | exact bz_rg _ | grind [rg]) (fun c24 => ?_) (fun c24 => ?_)
      · refine a_iload_n (pc := 33) ok dX3_isOfIsland_33 rfl ?_
        refine a_iconst (pc := 34) ok dX3_isOfIsland_34 ?_
        refine a_isub (pc := 35) ok dX3_isOfIsland_35 ?_
        refine a_goto (pc := 36) (tgt := 40) ok dX3_isOfIsland_36 (by decide) ?_
        refine a_istore (pc := 40) ok dX3_isOfIsland_40 rfl (by rw [hN]; decide) ?_
        exact AW.cast (fin (x - 1) (y - 1) (by omega) (by omega) (hrx _ rfl (by omega)) (hry _ rfl (by omega))) rfl rfl rfl
      · refine a_iload (pc := 27) ok dX3_isOfIsland_27 rfl ?_
        refine a_iconst (pc := 29) ok dX3_isOfIsland_29 ?_
        refine a_icmp_ne (pc := 30) (tgt := 39) ok dX3_isOfIsland_30 (by decide) (by first | omega | (unfold rg; omega) | (simp only [rg] at *; omega) | exact bz_rg _ | grind [rg]) (by first | omega | (unfold rg; omega) | (simp only [rg] at *; omega) | exact bz_rg _ | grind [rg]) (fun c30 => ?_) (fun c30 => ?_)
        · refine a_iload_n (pc := 39) ok dX3_isOfIsland_39 rfl ?_
          refine a_istore (pc := 40) ok dX3_isOfIsland_40 rfl (by rw [hN]; decide) ?_
          exact AW.cast (fin (x - 1) y (by omega) (by omega) (hrx _ rfl (by omega)) (hry2 (by omega))) rfl rfl rfl
        · refine a_iload_n (pc := 33) ok dX3_isOfIsland_33 rfl ?_
          refine a_iconst (pc := 34) ok dX3_isOfIsland_34 ?_
          refine a_isub (pc := 35) ok dX3_isOfIsland_35 ?_
          refine a_goto (pc := 36) (tgt := 40) ok dX3_isOfIsland_36 (by decide) ?_
          refine a_istore (pc := 40) ok dX3_isOfIsland_40 rfl (by rw [hN]; decide) ?_
          exact AW.cast (fin (x - 1) (y - 1) (by omega) (by omega) (hrx _ rfl (by omega)) (hry _ rfl (by omega))) rfl rfl rfl
theorem dX3_turned_0 : decode cX3_turned 0 = .ok (.iload 5, 2) := by decide +kernel
theorem dX3_turned_2 : decode cX3_turned 2 = .ok (.iconst 3, 1) := by decide +kernel
theorem dX3_turned_3 : decode cX3_turned 3 = .ok (.iadd, 1) := by decide +kernel
theorem dX3_turned_4 : decode cX3_turned 4 = .ok (.iconst 4, 1) := by decide +kernel
theorem dX3_turned_5 : decode cX3_turned 5 = .ok (.irem, 1) := by decide +kernel
theorem dX3_turned_6 : decode cX3_turned 6 = .ok (.istore 6, 2) := by decide +kernel
theorem dX3_turned_8 : decode cX3_turned 8 = .ok (.aload_n 1, 1) := by decide +kernel
theorem dX3_turned_9 : decode cX3_turned 9 = .ok (.iload_n 2, 1) := by decide +kernel
theorem dX3_turned_10 : decode cX3_turned 10 = .ok (.iload_n 3, 1) := by decide +kernel
theorem dX3_turned_11 : decode cX3_turned 11 = .ok (.iload 4, 2) := by decide +kernel
theorem dX3_turned_13 : decode cX3_turned 13 = .ok (.iload 5, 2) := by decide +kernel
theorem dX3_turned_15 : decode cX3_turned 15 = .ok (.invokestatic 43, 3) := by decide +kernel
theorem dX3_turned_18 : decode cX3_turned 18 = .ok (.ifCond .ne 20, 3) := by decide +kernel
theorem dX3_turned_21 : decode cX3_turned 21 = .ok (.aload_n 0, 1) := by decide +kernel
theorem dX3_turned_22 : decode cX3_turned 22 = .ok (.dup, 1) := by decide +kernel
theorem dX3_turned_23 : decode cX3_turned 23 = .ok (.getfield 15, 3) := by decide +kernel
theorem dX3_turned_26 : decode cX3_turned 26 = .ok (.iconst 1, 1) := by decide +kernel
theorem dX3_turned_27 : decode cX3_turned 27 = .ok (.iadd, 1) := by decide +kernel
theorem dX3_turned_28 : decode cX3_turned 28 = .ok (.putfield 15, 3) := by decide +kernel
theorem dX3_turned_31 : decode cX3_turned 31 = .ok (.iload 5, 2) := by decide +kernel
theorem dX3_turned_33 : decode cX3_turned 33 = .ok (.iconst 1, 1) := by decide +kernel
theorem dX3_turned_34 : decode cX3_turned 34 = .ok (.iadd, 1) := by decide +kernel
theorem dX3_turned_35 : decode cX3_turned 35 = .ok (.iconst 4, 1) := by decide +kernel
theorem dX3_turned_36 : decode cX3_turned 36 = .ok (.irem, 1) := by decide +kernel
theorem dX3_turned_37 : decode cX3_turned 37 = .ok (.ireturn, 1) := by decide +kernel
theorem dX3_turned_38 : decode cX3_turned 38 = .ok (.aload_n 1, 1) := by decide +kernel
theorem dX3_turned_39 : decode cX3_turned 39 = .ok (.iload_n 2, 1) := by decide +kernel
theorem dX3_turned_40 : decode cX3_turned 40 = .ok (.iload_n 3, 1) := by decide +kernel
theorem dX3_turned_41 : decode cX3_turned 41 = .ok (.iload 4, 2) := by decide +kernel
theorem dX3_turned_43 : decode cX3_turned 43 = .ok (.iload 6, 2) := by decide +kernel
theorem dX3_turned_45 : decode cX3_turned 45 = .ok (.invokestatic 43, 3) := by decide +kernel
theorem dX3_turned_48 : decode cX3_turned 48 = .ok (.ifCond .eq 16, 3) := by decide +kernel
theorem dX3_turned_51 : decode cX3_turned 51 = .ok (.aload_n 0, 1) := by decide +kernel
theorem dX3_turned_52 : decode cX3_turned 52 = .ok (.dup, 1) := by decide +kernel
theorem dX3_turned_53 : decode cX3_turned 53 = .ok (.getfield 18, 3) := by decide +kernel
theorem dX3_turned_56 : decode cX3_turned 56 = .ok (.iconst 1, 1) := by decide +kernel
theorem dX3_turned_57 : decode cX3_turned 57 = .ok (.iadd, 1) := by decide +kernel
theorem dX3_turned_58 : decode cX3_turned 58 = .ok (.putfield 18, 3) := by decide +kernel
theorem dX3_turned_61 : decode cX3_turned 61 = .ok (.iload 6, 2) := by decide +kernel
theorem dX3_turned_63 : decode cX3_turned 63 = .ok (.ireturn, 1) := by decide +kernel
theorem dX3_turned_64 : decode cX3_turned 64 = .ok (.iload 5, 2) := by decide +kernel
theorem dX3_turned_66 : decode cX3_turned 66 = .ok (.ireturn, 1) := by decide +kernel
theorem c_turned {x y w i s rt lf wy : Int} (hd : dim c r) (hL : cel c r L) (hl : lw c r b L = L) (hi : rk c r b L = i) (hx : -5 ≤ x ∧ x ≤ 20) (hy : -5 ≤ y ∧ y ≤ 20) (hw : 0 ≤ w ∧ w < 4) (hI : IW c r b ct B F S Fo No) : Cd l yX3_turned cX3_turned 7 (some .int) rmX3_turned [.ref 0, .ref 1, iv i, iv x, iv y, iv w] (olM s rt lf wy c r (c * r) ct B F S Br Q Fo No) (some (iv (tn (cn (inI c r b L) x y) w)))
    (olM s (rt + if cn (inI c r b L) x y w = false then 1 else 0) (lf + if cn (inI c r b L) x y w = true ∧ cn (inI c r b L) x y ((w + 3) % 4) = true then 1 else 0) wy c r (c * r) ct B F S Br Q Fo No) := by
  refine Ct.of miX3_turned (Nat.le_of_ble_eq_true rfl) ?_
  intro X hXl hN ok
  refine AW.cast (L2 := [some (.ref 0), some (.ref 1), some (iv i), some (iv x), some (iv y), some (iv w), none]) ?_ rfl rfl rfl
  have hw3 : 0 ≤ (w + 3) % 4 ∧ (w + 3) % 4 < 4 := by omega
  refine a_iload (pc := 0) ok dX3_turned_0 rfl ?_
  refine a_iconst (pc := 2) ok dX3_turned_2 ?_
  refine a_iadd (pc := 3) ok dX3_turned_3 ?_
  refine a_iconst (pc := 4) ok dX3_turned_4 ?_
  refine a_irem (pc := 5) ok dX3_turned_5 (by first | omega | (unfold rg; omega) | (simp only [rg] at *; omega) | exact bz_rg _ | grind [rg]) (by first | omega | (unfold rg; omega) | (simp only [rg] at *; omega) | exact bz_rg _ | grind [rg]) ?_
  refine a_istore (pc := 6) ok dX3_turned_6 rfl (by rw [hN]; decide) ?_
  refine a_aload_n (pc := 8) ok dX3_turned_8 rfl ?_
  refine a_iload_n (pc := 9) ok dX3_turned_9 rfl ?_
  refine a_iload_n (pc := 10) ok dX3_turned_10 rfl ?_
  refine a_iload (pc := 11) ok dX3_turned_11 rfl ?_
  refine a_iload (pc := 13) ok dX3_turned_13 rfl ?_
  refine a_callSp (pc := 15) ok [1, 2, 3, 4, 5, 6, 7, 8] dX3_turned_15 mv3_43 miX3_isOfIsland (c_isOfIsland hd hL hl hi hx hy hw hI) ⟨by decide, by decide, rfl, rfl, Nat.zero_le _, Nat.zero_le _⟩ rfl rfl (Nat.le_of_ble_eq_true rfl) rfl (by decide) ?_
  refine a_if_ne (pc := 18) (tgt := 38) ok dX3_turned_18 (by decide) (by exact bz_rg _) (fun c18 => ?_) (fun c18 => ?_)
  · refine a_aload_n (pc := 38) ok dX3_turned_38 rfl ?_
    refine a_iload_n (pc := 39) ok dX3_turned_39 rfl ?_
    refine a_iload_n (pc := 40) ok dX3_turned_40 rfl ?_
    refine a_iload (pc := 41) ok dX3_turned_41 rfl ?_
    refine a_iload (pc := 43) ok dX3_turned_43 rfl ?_
    refine a_callSp (pc := 45) ok [1, 2, 3, 4, 5, 6, 7, 8] dX3_turned_45 mv3_43 miX3_isOfIsland (c_isOfIsland hd hL hl hi hx hy hw3 hI) ⟨by decide, by decide, rfl, rfl, Nat.zero_le _, Nat.zero_le _⟩ rfl rfl (Nat.le_of_ble_eq_true rfl) rfl (by decide) ?_
    refine a_if_eq (pc := 48) (tgt := 64) ok dX3_turned_48 (by decide) (by exact bz_rg _) (fun c48 => ?_) (fun c48 => ?_)
    · refine a_iload (pc := 64) ok dX3_turned_64 rfl ?_
      exact a_iret (pc := 66) ok dX3_turned_66 ((by
  have e : cn (inI c r b L) x y w = true := Classical.byContradiction fun z => c18 (bz_neg z)
  have e2 : ¬ cn (inI c r b L) x y ((w + 3) % 4) = true := fun z => by rw [bz_pos z] at c48; exact absurd c48 (by decide)
  refine ⟨by unfold tn; rw [if_neg (by rw [e]; decide), if_neg e2], ?_⟩
  rw [if_neg (by rw [e]; decide), if_neg (fun z => e2 z.2), Int.add_zero, Int.add_zero]))
    · refine a_aload_n (pc := 51) ok dX3_turned_51 rfl ?_
      refine a_dup (pc := 52) ok dX3_turned_52 rfl ?_
      refine a_getf (pc := 53) ok dX3_turned_53 fl3_18 rfl rfl ?_
      refine a_iconst (pc := 56) ok dX3_turned_56 ?_
      refine a_iadd (pc := 57) ok dX3_turned_57 ?_
      refine a_putf (pc := 58) ok dX3_turned_58 fp3_18 rfl (by first | rfl | decide) (by first | rfl | decide) (Nat.le_of_ble_eq_true rfl) ?_
      refine a_iload (pc := 61) ok dX3_turned_61 rfl ?_
      exact a_iret (pc := 63) ok dX3_turned_63 ((by
  have e : cn (inI c r b L) x y w = true := Classical.byContradiction fun z => c18 (bz_neg z)
  have e2 : cn (inI c r b L) x y ((w + 3) % 4) = true := Classical.byContradiction fun z => c48 (bz_neg z)
  refine ⟨by unfold tn; rw [if_neg (by rw [e]; decide), if_pos e2], ?_⟩
  rw [if_neg (by rw [e]; decide), if_pos ⟨e, e2⟩, Int.add_zero]; rfl))
  · refine a_aload_n (pc := 21) ok dX3_turned_21 rfl ?_
    refine a_dup (pc := 22) ok dX3_turned_22 rfl ?_
    refine a_getf (pc := 23) ok dX3_turned_23 fl3_15 rfl rfl ?_
    refine a_iconst (pc := 26) ok dX3_turned_26 ?_
    refine a_iadd (pc := 27) ok dX3_turned_27 ?_
    refine a_putf (pc := 28) ok dX3_turned_28 fp3_15 rfl (by first | rfl | decide) (by first | rfl | decide) (Nat.le_of_ble_eq_true rfl) ?_
    refine a_iload (pc := 31) ok dX3_turned_31 rfl ?_
    refine a_iconst (pc := 33) ok dX3_turned_33 ?_
    refine a_iadd (pc := 34) ok dX3_turned_34 ?_
    refine a_iconst (pc := 35) ok dX3_turned_35 ?_
    refine a_irem (pc := 36) ok dX3_turned_36 (by first | omega | (unfold rg; omega) | (simp only [rg] at *; omega) | exact bz_rg _ | grind [rg]) (by first | omega | (unfold rg; omega) | (simp only [rg] at *; omega) | exact bz_rg _ | grind [rg]) ?_
    exact a_iret (pc := 37) ok dX3_turned_37 ((by
  have e : cn (inI c r b L) x y w = false := by
    cases h : cn (inI c r b L) x y w
    · rfl
    · exact absurd (bz_pos h) (by rw [show bz (cn (inI c r b L) x y w = true) = 0 from Decidable.not_not.mp (by first | exact c18 | exact not_not_intro c18)]; decide)
  refine ⟨by unfold tn; rw [if_pos e], ?_⟩
  rw [if_pos e, if_neg (fun z => by rw [e] at z; exact absurd z.1 (by decide)), Int.add_zero]; rfl))
theorem dX3_follow_0 : decode cX3_follow 0 = .ok (.aload_n 0, 1) := by decide +kernel
theorem dX3_follow_1 : decode cX3_follow 1 = .ok (.iconst 0, 1) := by decide +kernel
theorem dX3_follow_2 : decode cX3_follow 2 = .ok (.putfield 9, 3) := by decide +kernel
theorem dX3_follow_5 : decode cX3_follow 5 = .ok (.aload_n 0, 1) := by decide +kernel
theorem dX3_follow_6 : decode cX3_follow 6 = .ok (.iconst 0, 1) := by decide +kernel
theorem dX3_follow_7 : decode cX3_follow 7 = .ok (.putfield 15, 3) := by decide +kernel
theorem dX3_follow_10 : decode cX3_follow 10 = .ok (.aload_n 0, 1) := by decide +kernel
theorem dX3_follow_11 : decode cX3_follow 11 = .ok (.iconst 0, 1) := by decide +kernel
theorem dX3_follow_12 : decode cX3_follow 12 = .ok (.putfield 18, 3) := by decide +kernel
theorem dX3_follow_15 : decode cX3_follow 15 = .ok (.aload_n 0, 1) := by decide +kernel
theorem dX3_follow_16 : decode cX3_follow 16 = .ok (.iconst (-1), 1) := by decide +kernel
theorem dX3_follow_17 : decode cX3_follow 17 = .ok (.putfield 21, 3) := by decide +kernel
theorem dX3_follow_20 : decode cX3_follow 20 = .ok (.aload_n 1, 1) := by decide +kernel
theorem dX3_follow_21 : decode cX3_follow 21 = .ok (.iload_n 2, 1) := by decide +kernel
theorem dX3_follow_22 : decode cX3_follow 22 = .ok (.invokevirtual 24, 3) := by decide +kernel
theorem dX3_follow_25 : decode cX3_follow 25 = .ok (.aload_n 1, 1) := by decide +kernel
theorem dX3_follow_26 : decode cX3_follow 26 = .ok (.getfield 30, 3) := by decide +kernel
theorem dX3_follow_29 : decode cX3_follow 29 = .ok (.irem, 1) := by decide +kernel
theorem dX3_follow_30 : decode cX3_follow 30 = .ok (.istore 4, 2) := by decide +kernel
theorem dX3_follow_32 : decode cX3_follow 32 = .ok (.aload_n 1, 1) := by decide +kernel
theorem dX3_follow_33 : decode cX3_follow 33 = .ok (.iload_n 2, 1) := by decide +kernel
theorem dX3_follow_34 : decode cX3_follow 34 = .ok (.invokevirtual 24, 3) := by decide +kernel
theorem dX3_follow_37 : decode cX3_follow 37 = .ok (.aload_n 1, 1) := by decide +kernel
theorem dX3_follow_38 : decode cX3_follow 38 = .ok (.getfield 30, 3) := by decide +kernel
theorem dX3_follow_41 : decode cX3_follow 41 = .ok (.idiv, 1) := by decide +kernel
theorem dX3_follow_42 : decode cX3_follow 42 = .ok (.istore 5, 2) := by decide +kernel
theorem dX3_follow_44 : decode cX3_follow 44 = .ok (.iload 4, 2) := by decide +kernel
theorem dX3_follow_46 : decode cX3_follow 46 = .ok (.istore 6, 2) := by decide +kernel
theorem dX3_follow_48 : decode cX3_follow 48 = .ok (.iload 5, 2) := by decide +kernel
theorem dX3_follow_50 : decode cX3_follow 50 = .ok (.istore 7, 2) := by decide +kernel
theorem dX3_follow_52 : decode cX3_follow 52 = .ok (.iconst 0, 1) := by decide +kernel
theorem dX3_follow_53 : decode cX3_follow 53 = .ok (.istore 8, 2) := by decide +kernel
theorem dX3_follow_55 : decode cX3_follow 55 = .ok (.iconst 0, 1) := by decide +kernel
theorem dX3_follow_56 : decode cX3_follow 56 = .ok (.istore 9, 2) := by decide +kernel
theorem dX3_follow_58 : decode cX3_follow 58 = .ok (.iload 9, 2) := by decide +kernel
theorem dX3_follow_60 : decode cX3_follow 60 = .ok (.sipush 576, 3) := by decide +kernel
theorem dX3_follow_63 : decode cX3_follow 63 = .ok (.if_icmp .ge 85, 3) := by decide +kernel
theorem dX3_follow_66 : decode cX3_follow 66 = .ok (.iload 9, 2) := by decide +kernel
theorem dX3_follow_68 : decode cX3_follow 68 = .ok (.iload_n 3, 1) := by decide +kernel
theorem dX3_follow_69 : decode cX3_follow 69 = .ok (.if_icmp .ne 9, 3) := by decide +kernel
theorem dX3_follow_72 : decode cX3_follow 72 = .ok (.aload_n 0, 1) := by decide +kernel
theorem dX3_follow_73 : decode cX3_follow 73 = .ok (.iload 8, 2) := by decide +kernel
theorem dX3_follow_75 : decode cX3_follow 75 = .ok (.putfield 21, 3) := by decide +kernel
theorem dX3_follow_78 : decode cX3_follow 78 = .ok (.aload_n 0, 1) := by decide +kernel
theorem dX3_follow_79 : decode cX3_follow 79 = .ok (.dup, 1) := by decide +kernel
theorem dX3_follow_80 : decode cX3_follow 80 = .ok (.getfield 9, 3) := by decide +kernel
theorem dX3_follow_83 : decode cX3_follow 83 = .ok (.iconst 1, 1) := by decide +kernel
theorem dX3_follow_84 : decode cX3_follow 84 = .ok (.iadd, 1) := by decide +kernel
theorem dX3_follow_85 : decode cX3_follow 85 = .ok (.putfield 9, 3) := by decide +kernel
theorem dX3_follow_88 : decode cX3_follow 88 = .ok (.iload 6, 2) := by decide +kernel
theorem dX3_follow_90 : decode cX3_follow 90 = .ok (.iload 8, 2) := by decide +kernel
theorem dX3_follow_92 : decode cX3_follow 92 = .ok (.invokestatic 33, 3) := by decide +kernel
theorem dX3_follow_95 : decode cX3_follow 95 = .ok (.iadd, 1) := by decide +kernel
theorem dX3_follow_96 : decode cX3_follow 96 = .ok (.istore 6, 2) := by decide +kernel
theorem dX3_follow_98 : decode cX3_follow 98 = .ok (.iload 7, 2) := by decide +kernel
theorem dX3_follow_100 : decode cX3_follow 100 = .ok (.iload 8, 2) := by decide +kernel
theorem dX3_follow_102 : decode cX3_follow 102 = .ok (.invokestatic 36, 3) := by decide +kernel
theorem dX3_follow_105 : decode cX3_follow 105 = .ok (.iadd, 1) := by decide +kernel
theorem dX3_follow_106 : decode cX3_follow 106 = .ok (.istore 7, 2) := by decide +kernel
theorem dX3_follow_108 : decode cX3_follow 108 = .ok (.aload_n 0, 1) := by decide +kernel
theorem dX3_follow_109 : decode cX3_follow 109 = .ok (.aload_n 1, 1) := by decide +kernel
theorem dX3_follow_110 : decode cX3_follow 110 = .ok (.iload_n 2, 1) := by decide +kernel
theorem dX3_follow_111 : decode cX3_follow 111 = .ok (.iload 6, 2) := by decide +kernel
theorem dX3_follow_113 : decode cX3_follow 113 = .ok (.iload 7, 2) := by decide +kernel
theorem dX3_follow_115 : decode cX3_follow 115 = .ok (.iload 8, 2) := by decide +kernel
theorem dX3_follow_117 : decode cX3_follow 117 = .ok (.invokevirtual 39, 3) := by decide +kernel
theorem dX3_follow_120 : decode cX3_follow 120 = .ok (.istore 8, 2) := by decide +kernel
theorem dX3_follow_122 : decode cX3_follow 122 = .ok (.iload 6, 2) := by decide +kernel
theorem dX3_follow_124 : decode cX3_follow 124 = .ok (.iload 4, 2) := by decide +kernel
theorem dX3_follow_126 : decode cX3_follow 126 = .ok (.if_icmp .ne 16, 3) := by decide +kernel
theorem dX3_follow_129 : decode cX3_follow 129 = .ok (.iload 7, 2) := by decide +kernel
theorem dX3_follow_131 : decode cX3_follow 131 = .ok (.iload 5, 2) := by decide +kernel
theorem dX3_follow_133 : decode cX3_follow 133 = .ok (.if_icmp .ne 9, 3) := by decide +kernel
theorem dX3_follow_136 : decode cX3_follow 136 = .ok (.iload 8, 2) := by decide +kernel
theorem dX3_follow_138 : decode cX3_follow 138 = .ok (.ifCond .ne 4, 3) := by decide +kernel
theorem dX3_follow_141 : decode cX3_follow 141 = .ok (.return_, 1) := by decide +kernel
theorem dX3_follow_142 : decode cX3_follow 142 = .ok (.iinc 9 1, 3) := by decide +kernel
theorem dX3_follow_145 : decode cX3_follow 145 = .ok (.goto (-87), 3) := by decide +kernel
theorem dX3_follow_148 : decode cX3_follow 148 = .ok (.return_, 1) := by decide +kernel
/-- what is told of an outline -/
noncomputable def oN1 (c r : Int) (b : Int → Int) (L : Int) : Int := oLen (inI c r b L) (o0 c L)
theorem c_follow {i a s rt lf wy : Int} (hd : dim c r) (hL : cel c r L) (hl : lw c r b L = L) (hi : rk c r b L = i) (ha : rg a) (hI : IW c r b ct B F S Fo No) : Cd l yX3_follow cX3_follow 10 none rmX3_follow [.ref 0, .ref 1, iv i, iv a] (olM s rt lf wy c r (c * r) ct B F S Br Q Fo No) none
    (olM (oN1 c r b L) (oR (inI c r b L) (o0 c L) (oN1 c r b L).toNat) (oL (inI c r b L) (o0 c L) (oN1 c r b L).toNat) (oA (inI c r b L) (o0 c L) a (oN1 c r b L).toNat) c r (c * r) ct B F S Br Q Fo No) := by
  subst hi
  refine Ct.of miX3_follow (Nat.le_of_ble_eq_true rfl) ?_
  intro X hXl hN ok
  refine AW.cast (L2 := [some (.ref 0), some (.ref 1), some (iv (rk c r b L)), some (iv a), none, none, none, none, none, none]) ?_ rfl rfl rfl
  have hk := dim_k hd hL
  have hL1 := hL.1
  have hL2 := hL.2
  have hc := dim_cells hd
  have hV := o0_V hd hL hl
  have hO := oLen_ok hd inI_P hV
  have eN : oN1 c r b L = oLen (inI c r b L) (o0 c L) := rfl
  rw [← eN] at hO
  obtain ⟨d1, d2, d3, d4⟩ := id hd
  have loop : ∀ k : Nat, (k : Int) < oN1 c r b L → AW X 0 0 58 [some (.ref 0), some (.ref 1), some (iv (rk c r b L)), some (iv a), some (iv (L % c)), some (iv (L / c)), some (iv (oN (inI c r b L) (o0 c L) k).1), some (iv (oN (inI c r b L) (o0 c L) k).2.1), some (iv (oN (inI c r b L) (o0 c L) k).2.2), some (iv k)] []
      (olM k (oR (inI c r b L) (o0 c L) k) (oL (inI c r b L) (o0 c L) k) (oA (inI c r b L) (o0 c L) a k) c r (c * r) ct B F S Br Q Fo No) := by
    refine wfl (fun k : Nat => 577 - k) _ _ ?_
    intro k hk1 ih
    have hq := oN_rg hV hd inI_P k
    have hq1 := oN_rg hV hd inI_P (k + 1)
    have e1 : (oN (inI c r b L) (o0 c L) (k + 1)).1 = (oN (inI c r b L) (o0 c L) k).1 + dx (oN (inI c r b L) (o0 c L) k).2.2 := rfl
    have e2 : (oN (inI c r b L) (o0 c L) (k + 1)).2.1 = (oN (inI c r b L) (o0 c L) k).2.1 + dy (oN (inI c r b L) (o0 c L) k).2.2 := rfl
    have e3 : (oN (inI c r b L) (o0 c L) (k + 1)).2.2 = tn (cn (inI c r b L) (oN (inI c r b L) (o0 c L) (k + 1)).1 (oN (inI c r b L) (o0 c L) (k + 1)).2.1) (oN (inI c r b L) (o0 c L) k).2.2 := rfl
    have eA := oA_s (P := inI c r b L) (q := o0 c L) a k
    have hback : (oN (inI c r b L) (o0 c L) (k + 1)).1 = L % c → (oN (inI c r b L) (o0 c L) (k + 1)).2.1 = L / c → (oN (inI c r b L) (o0 c L) (k + 1)).2.2 = 0 → ((k + 1 : Nat) : Int) = oN1 c r b L := fun z1 z2 z3 => by
      refine Classical.byContradiction fun z => hO.2.2.2 (k + 1) (by omega) (by omega) ?_
      exact Prod.ext z1 (Prod.ext z2 z3)
    have hgo : ¬ ((oN (inI c r b L) (o0 c L) (k + 1)).1 = L % c ∧ (oN (inI c r b L) (o0 c L) (k + 1)).2.1 = L / c ∧ (oN (inI c r b L) (o0 c L) (k + 1)).2.2 = 0) → ((k + 1 : Nat) : Int) < oN1 c r b L := fun z => by
      refine Classical.byContradiction fun y => z ?_
      have e : (oN1 c r b L).toNat = k + 1 := by omega
      have := hO.2.2.1
      rw [e] at this
      rw [this]
      exact ⟨rfl, rfl, rfl⟩
    have go : ∀ wy2 : Int, wy2 = oA (inI c r b L) (o0 c L) a (k + 1) → AW X 0 0 78 [some (.ref 0), some (.ref 1), some (iv (rk c r b L)), some (iv a), some (iv (L % c)), some (iv (L / c)), some (iv (oN (inI c r b L) (o0 c L) k).1), some (iv (oN (inI c r b L) (o0 c L) k).2.1), some (iv (oN (inI c r b L) (o0 c L) k).2.2), some (iv k)] []
        (olM k (oR (inI c r b L) (o0 c L) k) (oL (inI c r b L) (o0 c L) k) wy2 c r (c * r) ct B F S Br Q Fo No) := by
      intro wy2 hwy
      subst hwy
      refine a_aload_n (pc := 78) ok dX3_follow_78 rfl ?_
      refine a_dup (pc := 79) ok dX3_follow_79 rfl ?_
      refine a_getf (pc := 80) ok dX3_follow_80 fl3_9 rfl rfl ?_
      refine a_iconst (pc := 83) ok dX3_follow_83 ?_
      refine a_iadd (pc := 84) ok dX3_follow_84 ?_
      refine a_putf (pc := 85) ok dX3_follow_85 fp3_9 rfl (by first | rfl | decide) (by first | rfl | decide) (Nat.le_of_ble_eq_true rfl) ?_
      refine a_iload (pc := 88) ok dX3_follow_88 rfl ?_
      refine a_iload (pc := 90) ok dX3_follow_90 rfl ?_
      refine a_callSp (pc := 92) ok [] dX3_follow_92 mv3_33 miX3_eastOf (c_eastOf hq.2.2) ⟨by decide, by decide, rfl, rfl, Nat.zero_le _, Nat.zero_le _⟩ rfl rfl (Nat.le_of_ble_eq_true rfl) rfl (by decide) ?_
      refine a_iadd (pc := 95) ok dX3_follow_95 ?_
      rw [← e1]
      refine a_istore (pc := 96) ok dX3_follow_96 rfl (by rw [hN]; decide) ?_
      refine a_iload (pc := 98) ok dX3_follow_98 rfl ?_
      refine a_iload (pc := 100) ok dX3_follow_100 rfl ?_
      refine a_callSp (pc := 102) ok [] dX3_follow_102 mv3_36 miX3_southOf (c_southOf hq.2.2) ⟨by decide, by decide, rfl, rfl, Nat.zero_le _, Nat.zero_le _⟩ rfl rfl (Nat.le_of_ble_eq_true rfl) rfl (by decide) ?_
      refine a_iadd (pc := 105) ok dX3_follow_105 ?_
      rw [← e2]
      refine a_istore (pc := 106) ok dX3_follow_106 rfl (by rw [hN]; decide) ?_
      refine a_aload_n (pc := 108) ok dX3_follow_108 rfl ?_
      refine a_aload_n (pc := 109) ok dX3_follow_109 rfl ?_
      refine a_iload_n (pc := 110) ok dX3_follow_110 rfl ?_
      refine a_iload (pc := 111) ok dX3_follow_111 rfl ?_
      refine a_iload (pc := 113) ok dX3_follow_113 rfl ?_
      refine a_iload (pc := 115) ok dX3_follow_115 rfl ?_
      refine a_callVi (pc := 117) ok [0, 1, 2, 3, 4, 5, 6, 7, 8] dX3_follow_117 mv3_39 miX3_turned (c_turned hd hL hl rfl (by omega) (by omega) hq.2.2 hI) ⟨by decide, by decide, rfl, rfl, Nat.zero_le _, Nat.zero_le _⟩ rfl rfl (Nat.le_of_ble_eq_true rfl) rfl (by decide) rfl rfl rfl ?_
      rw [← e3]
      refine AW.cast (L2 := [some (.ref 0), some (.ref 1), some (iv (rk c r b L)), some (iv a), some (iv (L % c)), some (iv (L / c)), some (iv (oN (inI c r b L) (o0 c L) (k + 1)).1), some (iv (oN (inI c r b L) (o0 c L) (k + 1)).2.1), some (iv (oN (inI c r b L) (o0 c L) k).2.2), some (iv k)]) (st2 := [iv (oN (inI c r b L) (o0 c L) (k + 1)).2.2]) (M2 := olM (k + 1) (oR (inI c r b L) (o0 c L) (k + 1)) (oL (inI c r b L) (o0 c L) (k + 1)) (oA (inI c r b L) (o0 c L) a (k + 1)) c r (c * r) ct B F S Br Q Fo No) ?_ rfl rfl rfl
      refine a_istore (pc := 120) ok dX3_follow_120 rfl (by rw [hN]; decide) ?_
      refine a_iload (pc := 122) ok dX3_follow_122 rfl ?_
      refine a_iload (pc := 124) ok dX3_follow_124 rfl ?_
      refine a_icmp_ne (pc := 126) (tgt := 142) ok dX3_follow_126 (by decide) (by first | omega | (unfold rg; omega) | (simp only [rg] at *; omega) | exact bz_rg _ | grind [rg]) (by first | omega | (unfold rg; omega) | (simp only [rg] at *; omega) | exact bz_rg _ | grind [rg]) (fun c126 => ?_) (fun c126 => ?_)
      · refine a_iinc (pc := 142) ok dX3_follow_142 rfl rfl (by rw [hN]; decide) ?_
        refine a_goto (pc := 145) (tgt := 58) ok dX3_follow_145 (by decide) ?_
        exact AW.cast (ih (k + 1) (hgo (fun z => by omega)) (by omega)) rfl rfl rfl
      · refine a_iload (pc := 129) ok dX3_follow_129 rfl ?_
        refine a_iload (pc := 131) ok dX3_follow_131 rfl ?_
        refine a_icmp_ne (pc := 133) (tgt := 142) ok dX3_follow_133 (by decide) (by first | omega | (unfold rg; omega) | (simp only [rg] at *; omega) | exact bz_rg _ | grind [rg]) (by first | omega | (unfold rg; omega) | (simp only [rg] at *; omega) | exact bz_rg _ | grind [rg]) (fun c133 => ?_) (fun c133 => ?_)
        · refine a_iinc (pc := 142) ok dX3_follow_142 rfl rfl (by rw [hN]; decide) ?_
          refine a_goto (pc := 145) (tgt := 58) ok dX3_follow_145 (by decide) ?_
          exact AW.cast (ih (k + 1) (hgo (fun z => by omega)) (by omega)) rfl rfl rfl
        · refine a_iload (pc := 136) ok dX3_follow_136 rfl ?_
          refine a_if_ne (pc := 138) (tgt := 142) ok dX3_follow_138 (by decide) (by first | omega | (unfold rg; omega) | (simp only [rg] at *; omega) | exact bz_rg _ | grind [rg]) (fun c138 => ?_) (fun c138 => ?_)
          · refine a_iinc (pc := 142) ok dX3_follow_142 rfl rfl (by rw [hN]; decide) ?_
            refine a_goto (pc := 145) (tgt := 58) ok dX3_follow_145 (by decide) ?_
            exact AW.cast (ih (k + 1) (hgo (fun z => by omega)) (by omega)) rfl rfl rfl
          · exact a_vret (pc := 141) ok dX3_follow_141 (⟨rfl, by rw [← hback c126 c133 (by first | exact c138 | exact Decidable.not_not.mp c138), Int.toNat_natCast]; rfl⟩)
    refine a_iload (pc := 58) ok dX3_follow_58 rfl ?_
    refine a_sipush (pc := 60) ok dX3_follow_60 (by decide) ?_
    refine a_icmp_ge (pc := 63) (tgt := 148) ok dX3_follow_63 (by decide) (by first | omega | (unfold rg; omega) | (simp only [rg] at *; omega) | exact bz_rg _ | grind [rg]) (by first | omega | (unfold rg; omega) | (simp only [rg] at *; omega) | exact bz_rg _ | grind [rg]) (fun c63 => ?_) (fun c63 => ?_)
    · exfalso; first | omega | grind
    · refine a_iload (pc := 66) ok dX3_follow_66 rfl ?_
      refine a_iload_n (pc := 68) ok dX3_follow_68 rfl ?_
      refine a_icmp_ne (pc := 69) (tgt := 78) ok dX3_follow_69 (by decide) (by first | omega | (unfold rg; omega) | (simp only [rg] at *; omega) | exact bz_rg _ | grind [rg]) (by first | omega | (unfold rg; omega) | (simp only [rg] at *; omega) | exact bz_rg _ | grind [rg]) (fun c69 => ?_) (fun c69 => ?_)
      · exact AW.cast (go _ (by rw [eA, if_neg (by omega)])) rfl rfl rfl
      · refine a_aload_n (pc := 72) ok dX3_follow_72 rfl ?_
        refine a_iload (pc := 73) ok dX3_follow_73 rfl ?_
        refine a_putf (pc := 75) ok dX3_follow_75 fp3_21 rfl (by first | rfl | decide) (by first | rfl | decide) (Nat.le_of_ble_eq_true rfl) ?_
        exact AW.cast (go (oN (inI c r b L) (o0 c L) k).2.2 (by rw [eA, if_pos (by omega)])) rfl rfl rfl
  refine a_aload_n (pc := 0) ok dX3_follow_0 rfl ?_
  refine a_iconst (pc := 1) ok dX3_follow_1 ?_
  refine a_putf (pc := 2) ok dX3_follow_2 fp3_9 rfl (by first | rfl | decide) (by first | rfl | decide) (Nat.le_of_ble_eq_true rfl) ?_
  refine a_aload_n (pc := 5) ok dX3_follow_5 rfl ?_
  refine a_iconst (pc := 6) ok dX3_follow_6 ?_
  refine a_putf (pc := 7) ok dX3_follow_7 fp3_15 rfl (by first | rfl | decide) (by first | rfl | decide) (Nat.le_of_ble_eq_true rfl) ?_
  refine a_aload_n (pc := 10) ok dX3_follow_10 rfl ?_
  refine a_iconst (pc := 11) ok dX3_follow_11 ?_
  refine a_putf (pc := 12) ok dX3_follow_12 fp3_18 rfl (by first | rfl | decide) (by first | rfl | decide) (Nat.le_of_ble_eq_true rfl) ?_
  refine a_aload_n (pc := 15) ok dX3_follow_15 rfl ?_
  refine a_iconst (pc := 16) ok dX3_follow_16 ?_
  refine a_putf (pc := 17) ok dX3_follow_17 fp3_21 rfl (by first | rfl | decide) (by first | rfl | decide) (Nat.le_of_ble_eq_true rfl) ?_
  refine a_aload_n (pc := 20) ok dX3_follow_20 rfl ?_
  refine a_iload_n (pc := 21) ok dX3_follow_21 rfl ?_
  refine a_callVp (pc := 22) ok [1, 2, 3, 4, 5, 6, 7, 8] dX3_follow_22 mv3_24 miX0_firstCell (c_firstCell hd hL hl hI) ⟨by decide, by decide, rfl, rfl, Nat.zero_le _, Nat.zero_le _⟩ rfl rfl (Nat.le_of_ble_eq_true rfl) rfl (by decide) rfl rfl ?_
  refine a_aload_n (pc := 25) ok dX3_follow_25 rfl ?_
  refine a_getf (pc := 26) ok dX3_follow_26 fl3_30 rfl rfl ?_
  refine a_irem (pc := 29) ok dX3_follow_29 (by first | omega | (unfold rg; omega) | (simp only [rg] at *; omega) | exact bz_rg _ | grind [rg]) (by first | omega | (unfold rg; omega) | (simp only [rg] at *; omega) | exact bz_rg _ | grind [rg]) ?_
  refine a_istore (pc := 30) ok dX3_follow_30 rfl (by rw [hN]; decide) ?_
  refine a_aload_n (pc := 32) ok dX3_follow_32 rfl ?_
  refine a_iload_n (pc := 33) ok dX3_follow_33 rfl ?_
  refine a_callVp (pc := 34) ok [1, 2, 3, 4, 5, 6, 7, 8] dX3_follow_34 mv3_24 miX0_firstCell (c_firstCell hd hL hl hI) ⟨by decide, by decide, rfl, rfl, Nat.zero_le _, Nat.zero_le _⟩ rfl rfl (Nat.le_of_ble_eq_true rfl) rfl (by decide) rfl rfl ?_
  refine a_aload_n (pc := 37) ok dX3_follow_37 rfl ?_
  refine a_getf (pc := 38) ok dX3_follow_38 fl3_30 rfl rfl ?_
  refine a_idiv (pc := 41) ok dX3_follow_41 (by first | omega | (unfold rg; omega) | (simp only [rg] at *; omega) | exact bz_rg _ | grind [rg]) (by first | omega | (unfold rg; omega) | (simp only [rg] at *; omega) | exact bz_rg _ | grind [rg]) ?_
  refine a_istore (pc := 42) ok dX3_follow_42 rfl (by rw [hN]; decide) ?_
  refine a_iload (pc := 44) ok dX3_follow_44 rfl ?_
  refine a_istore (pc := 46) ok dX3_follow_46 rfl (by rw [hN]; decide) ?_
  refine a_iload (pc := 48) ok dX3_follow_48 rfl ?_
  refine a_istore (pc := 50) ok dX3_follow_50 rfl (by rw [hN]; decide) ?_
  refine a_iconst (pc := 52) ok dX3_follow_52 ?_
  refine a_istore (pc := 53) ok dX3_follow_53 rfl (by rw [hN]; decide) ?_
  refine a_iconst (pc := 55) ok dX3_follow_55 ?_
  refine a_istore (pc := 56) ok dX3_follow_56 rfl (by rw [hN]; decide) ?_
  refine AW.cast (loop 0 (by omega)) rfl rfl ?_
  have : oA (inI c r b L) (o0 c L) a 0 = -1 := if_neg (by omega)
  rw [this]; rfl
end OF
