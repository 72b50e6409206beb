/-! STATE: blur, new plates, copies. -/
section ST6
variable {l : Launch} {c r le li : Int} {G T Hh : Int → Int}
/-- what is blurred of a cell: its parts' sum and their number -/
def blS (c r : Int) (B : Int → Int) (k x y : Int) : Int := 4 * B k + (if 0 < x then B (k - 1) else 0) + (if x < c - 1 then B (k + 1) else 0) + (if 0 < y then B (k - c) else 0) + (if y < r - 1 then B (k + c) else 0)
def blN (c r : Int) (x y : Int) : Int := 4 + (if 0 < x then 1 else 0) + (if x < c - 1 then 1 else 0) + (if 0 < y then 1 else 0) + (if y < r - 1 then 1 else 0)
def blF (c r : Int) (B : Int → Int) (k : Int) : Int := blS c r B k (k % c) (k / c) / blN c r (k % c) (k / c)
theorem blF_rg {B : Int → Int} (hB : ∀ i, 0 ≤ B i ∧ B i ≤ 99) (k x y : Int) : 0 ≤ blS c r B k x y ∧ blS c r B k x y ≤ 99 * blN c r x y ∧ 4 ≤ blN c r x y ∧ blN c r x y ≤ 8 := by
  have h0 := hB k; have h1 := hB (k - 1); have h2 := hB (k + 1); have h3 := hB (k - c); have h4 := hB (k + c)
  unfold blS blN
  refine ⟨?_, ?_, ?_, ?_⟩ <;> split <;> split <;> split <;> split <;> omega
theorem blF_99 {B : Int → Int} (hB : ∀ i, 0 ≤ B i ∧ B i ≤ 99) (k : Int) : 0 ≤ blF c r B k ∧ blF c r B k ≤ 99 := by
  have := blF_rg (c := c) (r := r) hB k (k % c) (k / c)
  unfold blF
  exact ⟨Int.ediv_nonneg (by omega) (by omega), Int.ediv_le_of_le_mul (by omega) (by omega)⟩
theorem dm_xy {x y : Int} (hx : 0 ≤ x ∧ x < c) : (y * c + x) % c = x ∧ (y * c + x) / c = y := by
  constructor
  · rw [Int.add_comm, Int.add_mul_emod_self_right]; exact Int.emod_eq_of_lt hx.1 hx.2
  · rw [Int.add_comm, Int.add_mul_ediv_right _ _ (by omega), Int.ediv_eq_zero_of_lt hx.1 hx.2]; omega
theorem dim_x (hd : dim c r) {x y : Int} (hy : 0 ≤ y ∧ y < r) : (0 < y → c ≤ y * c) ∧ (y < r - 1 → y * c + 2 * c ≤ c * r) ∧ 0 ≤ y * c ∧ y * c + c ≤ c * r := by
  obtain ⟨d1, d2, d3, d4⟩ := hd
  refine ⟨fun h => ?_, fun h => ?_, Int.mul_nonneg hy.1 (by omega), ?_⟩
  · have := Int.mul_le_mul_of_nonneg_right (show (1 : Int) ≤ y by omega) (show 0 ≤ c by omega); omega
  · have := Int.mul_le_mul_of_nonneg_right (show y + 2 ≤ r by omega) (show 0 ≤ c by omega)
    rw [Int.add_mul, Int.mul_comm r c] at this; omega
  · have := Int.mul_le_mul_of_nonneg_right (show y + 1 ≤ r by omega) (show 0 ≤ c by omega)
    rw [Int.add_mul, Int.mul_comm r c] at this; omega
theorem dX4_blurredGrey_0 : decode cX4_blurredGrey 0 = .ok (.aload_n 0, 1) := by decide +kernel
theorem dX4_blurredGrey_1 : decode cX4_blurredGrey 1 = .ok (.iload_n 2, 1) := by decide +kernel
theorem dX4_blurredGrey_2 : decode cX4_blurredGrey 2 = .ok (.iload_n 3, 1) := by decide +kernel
theorem dX4_blurredGrey_3 : decode cX4_blurredGrey 3 = .ok (.invokevirtual 60, 3) := by decide +kernel
theorem dX4_blurredGrey_6 : decode cX4_blurredGrey 6 = .ok (.istore 4, 2) := by decide +kernel
theorem dX4_blurredGrey_8 : decode cX4_blurredGrey 8 = .ok (.iconst 4, 1) := by decide +kernel
theorem dX4_blurredGrey_9 : decode cX4_blurredGrey 9 = .ok (.aload_n 1, 1) := by decide +kernel
theorem dX4_blurredGrey_10 : decode cX4_blurredGrey 10 = .ok (.iload 4, 2) := by decide +kernel
theorem dX4_blurredGrey_12 : decode cX4_blurredGrey 12 = .ok (.iaload, 1) := by decide +kernel
theorem dX4_blurredGrey_13 : decode cX4_blurredGrey 13 = .ok (.imul, 1) := by decide +kernel
theorem dX4_blurredGrey_14 : decode cX4_blurredGrey 14 = .ok (.istore 5, 2) := by decide +kernel
theorem dX4_blurredGrey_16 : decode cX4_blurredGrey 16 = .ok (.iconst 4, 1) := by decide +kernel
theorem dX4_blurredGrey_17 : decode cX4_blurredGrey 17 = .ok (.istore 6, 2) := by decide +kernel
theorem dX4_blurredGrey_19 : decode cX4_blurredGrey 19 = .ok (.iload_n 2, 1) := by decide +kernel
theorem dX4_blurredGrey_20 : decode cX4_blurredGrey 20 = .ok (.ifCond .le 17, 3) := by decide +kernel
theorem dX4_blurredGrey_23 : decode cX4_blurredGrey 23 = .ok (.iload 5, 2) := by decide +kernel
theorem dX4_blurredGrey_25 : decode cX4_blurredGrey 25 = .ok (.aload_n 1, 1) := by decide +kernel
theorem dX4_blurredGrey_26 : decode cX4_blurredGrey 26 = .ok (.iload 4, 2) := by decide +kernel
theorem dX4_blurredGrey_28 : decode cX4_blurredGrey 28 = .ok (.iconst 1, 1) := by decide +kernel
theorem dX4_blurredGrey_29 : decode cX4_blurredGrey 29 = .ok (.isub, 1) := by decide +kernel
theorem dX4_blurredGrey_30 : decode cX4_blurredGrey 30 = .ok (.iaload, 1) := by decide +kernel
theorem dX4_blurredGrey_31 : decode cX4_blurredGrey 31 = .ok (.iadd, 1) := by decide +kernel
theorem dX4_blurredGrey_32 : decode cX4_blurredGrey 32 = .ok (.istore 5, 2) := by decide +kernel
theorem dX4_blurredGrey_34 : decode cX4_blurredGrey 34 = .ok (.iinc 6 1, 3) := by decide +kernel
theorem dX4_blurredGrey_37 : decode cX4_blurredGrey 37 = .ok (.iload_n 2, 1) := by decide +kernel
theorem dX4_blurredGrey_38 : decode cX4_blurredGrey 38 = .ok (.aload_n 0, 1) := by decide +kernel
theorem dX4_blurredGrey_39 : decode cX4_blurredGrey 39 = .ok (.getfield 38, 3) := by decide +kernel
theorem dX4_blurredGrey_42 : decode cX4_blurredGrey 42 = .ok (.iconst 1, 1) := by decide +kernel
theorem dX4_blurredGrey_43 : decode cX4_blurredGrey 43 = .ok (.isub, 1) := by decide +kernel
theorem dX4_blurredGrey_44 : decode cX4_blurredGrey 44 = .ok (.if_icmp .ge 17, 3) := by decide +kernel
theorem dX4_blurredGrey_47 : decode cX4_blurredGrey 47 = .ok (.iload 5, 2) := by decide +kernel
theorem dX4_blurredGrey_49 : decode cX4_blurredGrey 49 = .ok (.aload_n 1, 1) := by decide +kernel
theorem dX4_blurredGrey_50 : decode cX4_blurredGrey 50 = .ok (.iload 4, 2) := by decide +kernel
theorem dX4_blurredGrey_52 : decode cX4_blurredGrey 52 = .ok (.iconst 1, 1) := by decide +kernel
theorem dX4_blurredGrey_53 : decode cX4_blurredGrey 53 = .ok (.iadd, 1) := by decide +kernel
theorem dX4_blurredGrey_54 : decode cX4_blurredGrey 54 = .ok (.iaload, 1) := by decide +kernel
theorem dX4_blurredGrey_55 : decode cX4_blurredGrey 55 = .ok (.iadd, 1) := by decide +kernel
theorem dX4_blurredGrey_56 : decode cX4_blurredGrey 56 = .ok (.istore 5, 2) := by decide +kernel
theorem dX4_blurredGrey_58 : decode cX4_blurredGrey 58 = .ok (.iinc 6 1, 3) := by decide +kernel
theorem dX4_blurredGrey_61 : decode cX4_blurredGrey 61 = .ok (.iload_n 3, 1) := by decide +kernel
theorem dX4_blurredGrey_62 : decode cX4_blurredGrey 62 = .ok (.ifCond .le 20, 3) := by decide +kernel
theorem dX4_blurredGrey_65 : decode cX4_blurredGrey 65 = .ok (.iload 5, 2) := by decide +kernel
theorem dX4_blurredGrey_67 : decode cX4_blurredGrey 67 = .ok (.aload_n 1, 1) := by decide +kernel
theorem dX4_blurredGrey_68 : decode cX4_blurredGrey 68 = .ok (.iload 4, 2) := by decide +kernel
theorem dX4_blurredGrey_70 : decode cX4_blurredGrey 70 = .ok (.aload_n 0, 1) := by decide +kernel
theorem dX4_blurredGrey_71 : decode cX4_blurredGrey 71 = .ok (.getfield 38, 3) := by decide +kernel
theorem dX4_blurredGrey_74 : decode cX4_blurredGrey 74 = .ok (.isub, 1) := by decide +kernel
theorem dX4_blurredGrey_75 : decode cX4_blurredGrey 75 = .ok (.iaload, 1) := by decide +kernel
theorem dX4_blurredGrey_76 : decode cX4_blurredGrey 76 = .ok (.iadd, 1) := by decide +kernel
theorem dX4_blurredGrey_77 : decode cX4_blurredGrey 77 = .ok (.istore 5, 2) := by decide +kernel
theorem dX4_blurredGrey_79 : decode cX4_blurredGrey 79 = .ok (.iinc 6 1, 3) := by decide +kernel
theorem dX4_blurredGrey_82 : decode cX4_blurredGrey 82 = .ok (.iload_n 3, 1) := by decide +kernel
theorem dX4_blurredGrey_83 : decode cX4_blurredGrey 83 = .ok (.aload_n 0, 1) := by decide +kernel
theorem dX4_blurredGrey_84 : decode cX4_blurredGrey 84 = .ok (.getfield 41, 3) := by decide +kernel
theorem dX4_blurredGrey_87 : decode cX4_blurredGrey 87 = .ok (.iconst 1, 1) := by decide +kernel
theorem dX4_blurredGrey_88 : decode cX4_blurredGrey 88 = .ok (.isub, 1) := by decide +kernel
theorem dX4_blurredGrey_89 : decode cX4_blurredGrey 89 = .ok (.if_icmp .ge 20, 3) := by decide +kernel
theorem dX4_blurredGrey_92 : decode cX4_blurredGrey 92 = .ok (.iload 5, 2) := by decide +kernel
theorem dX4_blurredGrey_94 : decode cX4_blurredGrey 94 = .ok (.aload_n 1, 1) := by decide +kernel
theorem dX4_blurredGrey_95 : decode cX4_blurredGrey 95 = .ok (.iload 4, 2) := by decide +kernel
theorem dX4_blurredGrey_97 : decode cX4_blurredGrey 97 = .ok (.aload_n 0, 1) := by decide +kernel
theorem dX4_blurredGrey_98 : decode cX4_blurredGrey 98 = .ok (.getfield 38, 3) := by decide +kernel
theorem dX4_blurredGrey_101 : decode cX4_blurredGrey 101 = .ok (.iadd, 1) := by decide +kernel
theorem dX4_blurredGrey_102 : decode cX4_blurredGrey 102 = .ok (.iaload, 1) := by decide +kernel
theorem dX4_blurredGrey_103 : decode cX4_blurredGrey 103 = .ok (.iadd, 1) := by decide +kernel
theorem dX4_blurredGrey_104 : decode cX4_blurredGrey 104 = .ok (.istore 5, 2) := by decide +kernel
theorem dX4_blurredGrey_106 : decode cX4_blurredGrey 106 = .ok (.iinc 6 1, 3) := by decide +kernel
theorem dX4_blurredGrey_109 : decode cX4_blurredGrey 109 = .ok (.iload 5, 2) := by decide +kernel
theorem dX4_blurredGrey_111 : decode cX4_blurredGrey 111 = .ok (.iload 6, 2) := by decide +kernel
theorem dX4_blurredGrey_113 : decode cX4_blurredGrey 113 = .ok (.idiv, 1) := by decide +kernel
theorem dX4_blurredGrey_114 : decode cX4_blurredGrey 114 = .ok (.ireturn, 1) := by decide +kernel
theorem c_blurredGrey {n x y : Int} {B : Int → Int} (hd : dim c r) (hB : ∀ i, 0 ≤ B i ∧ B i ≤ 99) (hx : 0 ≤ x ∧ x < c) (hy : 0 ≤ y ∧ y < r) : Cd l yX4_blurredGrey cX4_blurredGrey 7 (some .int) rmX4_blurredGrey [.ref 0, .ref 4, iv x, iv y] (stM c r G T n le Hh li ++ [ia 144 B]) (some (iv (blF c r B (y * c + x)))) (stM c r G T n le Hh li ++ [ia 144 B]) := by
  refine Ct.of miX4_blurredGrey (Nat.le_of_ble_eq_true rfl) ?_
  intro X hXl hN ok
  refine AW.cast (L2 := [some (.ref 0), some (.ref 4), some (iv x), some (iv y), none, none, none]) ?_ rfl rfl rfl
  have ha := dim_at hd hx hy
  have hq := dim_x hd (x := x) hy
  have hr := blF_rg (c := c) (r := r) hB (y * c + x) x y
  obtain ⟨d1, d2, d3, d4⟩ := id hd
  have hf : blF c r B (y * c + x) = blS c r B (y * c + x) x y / blN c r x y := by unfold blF; rw [(dm_xy hx).1, (dm_xy hx).2]
  refine a_aload_n (pc := 0) ok dX4_blurredGrey_0 rfl ?_
  refine a_iload_n (pc := 1) ok dX4_blurredGrey_1 rfl ?_
  refine a_iload_n (pc := 2) ok dX4_blurredGrey_2 rfl ?_
  refine a_callVp (pc := 3) ok [0, 1, 2, 3] dX4_blurredGrey_3 mv4_60 miX4_cellNumber (c_cellNumber) ⟨by decide, by decide, rfl, rfl, Nat.zero_le _, Nat.zero_le _⟩ rfl rfl (by decide) rfl (by decide) rfl rfl ?_
  refine a_istore (pc := 6) ok dX4_blurredGrey_6 rfl (by rw [hN]; decide) ?_
  refine a_iconst (pc := 8) ok dX4_blurredGrey_8 ?_
  refine a_aload_n (pc := 9) ok dX4_blurredGrey_9 rfl ?_
  refine a_iload (pc := 10) ok dX4_blurredGrey_10 rfl ?_
  refine a_iald (pc := 12) ok dX4_blurredGrey_12 rfl (by first | decide | omega) (by first | omega | (unfold rg; omega) | (simp only [rg] at *; omega) | exact bz_rg _ | grind [rg]) ?_
  refine a_imul (pc := 13) ok dX4_blurredGrey_13 ?_
  refine a_istore (pc := 14) ok dX4_blurredGrey_14 rfl (by rw [hN]; decide) ?_
  refine a_iconst (pc := 16) ok dX4_blurredGrey_16 ?_
  refine a_istore (pc := 17) ok dX4_blurredGrey_17 rfl (by rw [hN]; decide) ?_
  refine a_iload_n (pc := 19) ok dX4_blurredGrey_19 rfl ?_
  refine a_if_le (pc := 20) (tgt := 37) ok dX4_blurredGrey_20 (by decide) (by first | omega | (unfold rg; omega) | (simp only [rg] at *; omega) | exact bz_rg _ | grind [rg]) (fun c20 => ?_) (fun c20 => ?_)
  · refine AW.cast (L2 := [some (.ref 0), some (.ref 4), some (iv x), some (iv y), some (iv (y * c + x)), some (iv (4 * B (y * c + x) + (if 0 < x then B (y * c + x - 1) else 0))), some (iv (4 + (if 0 < x then 1 else 0)))]) ?_ (by first | (rw [if_pos (by omega), if_pos (by omega)] <;> rfl) | (rw [if_neg (by omega), if_neg (by omega), Int.add_zero, Int.add_zero] <;> rfl)) rfl rfl
    refine a_iload_n (pc := 37) ok dX4_blurredGrey_37 rfl ?_
    refine a_aload_n (pc := 38) ok dX4_blurredGrey_38 rfl ?_
    refine a_getf (pc := 39) ok dX4_blurredGrey_39 fl4_38 rfl rfl ?_
    refine a_iconst (pc := 42) ok dX4_blurredGrey_42 ?_
    refine a_isub (pc := 43) ok dX4_blurredGrey_43 ?_
    refine a_icmp_ge (pc := 44) (tgt := 61) ok dX4_blurredGrey_44 (by decide) (by first | omega | (unfold rg; omega) | (simp only [rg] at *; omega) | exact bz_rg _ | grind [rg]) (by first | omega | (unfold rg; omega) | (simp only [rg] at *; omega) | exact bz_rg _ | grind [rg]) (fun c44 => ?_) (fun c44 => ?_)
    · refine AW.cast (L2 := [some (.ref 0), some (.ref 4), some (iv x), some (iv y), some (iv (y * c + x)), some (iv (4 * B (y * c + x) + (if 0 < x then B (y * c + x - 1) else 0) + (if x < c - 1 then B (y * c + x + 1) else 0))), some (iv (4 + (if 0 < x then 1 else 0) + (if x < c - 1 then 1 else 0)))]) ?_ (by first | (rw [if_pos (show x < c - 1 by omega), if_pos (show x < c - 1 by omega)] <;> rfl) | (rw [if_neg (show ¬ x < c - 1 by omega), if_neg (show ¬ x < c - 1 by omega), Int.add_zero, Int.add_zero] <;> rfl)) rfl rfl
      refine a_iload_n (pc := 61) ok dX4_blurredGrey_61 rfl ?_
      refine a_if_le (pc := 62) (tgt := 82) ok dX4_blurredGrey_62 (by decide) (by first | omega | (unfold rg; omega) | (simp only [rg] at *; omega) | exact bz_rg _ | grind [rg]) (fun c62 => ?_) (fun c62 => ?_)
      · refine AW.cast (L2 := [some (.ref 0), some (.ref 4), some (iv x), some (iv y), some (iv (y * c + x)), some (iv (4 * B (y * c + x) + (if 0 < x then B (y * c + x - 1) else 0) + (if x < c - 1 then B (y * c + x + 1) else 0) + (if 0 < y then B (y * c + x - c) else 0))), some (iv (4 + (if 0 < x then 1 else 0) + (if x < c - 1 then 1 else 0) + (if 0 < y then 1 else 0)))]) ?_ (by first | (rw [if_pos (show 0 < y by omega), if_pos (show 0 < y by omega)] <;> rfl) | (rw [if_neg (show ¬ 0 < y by omega), if_neg (show ¬ 0 < y by omega), Int.add_zero, Int.add_zero] <;> rfl)) rfl rfl
        refine a_iload_n (pc := 82) ok dX4_blurredGrey_82 rfl ?_
        refine a_aload_n (pc := 83) ok dX4_blurredGrey_83 rfl ?_
        refine a_getf (pc := 84) ok dX4_blurredGrey_84 fl4_41 rfl rfl ?_
        refine a_iconst (pc := 87) ok dX4_blurredGrey_87 ?_
        refine a_isub (pc := 88) ok dX4_blurredGrey_88 ?_
        refine a_icmp_ge (pc := 89) (tgt := 109) ok dX4_blurredGrey_89 (by decide) (by first | omega | (unfold rg; omega) | (simp only [rg] at *; omega) | exact bz_rg _ | grind [rg]) (by first | omega | (unfold rg; omega) | (simp only [rg] at *; omega) | exact bz_rg _ | grind [rg]) (fun c89 => ?_) (fun c89 => ?_)
        · refine AW.cast (L2 := [some (.ref 0), some (.ref 4), some (iv x), some (iv y), some (iv (y * c + x)), some (iv (blS c r B (y * c + x) x y)), some (iv (blN c r x y))]) ?_ (by unfold blS blN; first | (rw [if_pos (show y < r - 1 by omega), if_pos (show y < r - 1 by omega)] <;> rfl) | (rw [if_neg (show ¬ y < r - 1 by omega), if_neg (show ¬ y < r - 1 by omega), Int.add_zero, Int.add_zero] <;> rfl)) rfl rfl
          refine a_iload (pc := 109) ok dX4_blurredGrey_109 rfl ?_
          refine a_iload (pc := 111) ok dX4_blurredGrey_111 rfl ?_
          refine a_idiv (pc := 113) ok dX4_blurredGrey_113 (by first | omega | (unfold rg; omega) | (simp only [rg] at *; omega) | exact bz_rg _ | grind [rg]) (by first | omega | (unfold rg; omega) | (simp only [rg] at *; omega) | exact bz_rg _ | grind [rg]) ?_
          exact a_iret (pc := 114) ok dX4_blurredGrey_114 (by rw [hf]; exact ⟨rfl, rfl⟩)
        · refine a_iload (pc := 92) ok dX4_blurredGrey_92 rfl ?_
          refine a_aload_n (pc := 94) ok dX4_blurredGrey_94 rfl ?_
          refine a_iload (pc := 95) ok dX4_blurredGrey_95 rfl ?_
          refine a_aload_n (pc := 97) ok dX4_blurredGrey_97 rfl ?_
          refine a_getf (pc := 98) ok dX4_blurredGrey_98 fl4_38 rfl rfl ?_
          refine a_iadd (pc := 101) ok dX4_blurredGrey_101 ?_
          refine a_iald (pc := 102) ok dX4_blurredGrey_102 rfl (by first | decide | omega) (by first | omega | (unfold rg; omega) | (simp only [rg] at *; omega) | exact bz_rg _ | grind [rg]) ?_
          refine a_iadd (pc := 103) ok dX4_blurredGrey_103 ?_
          refine a_istore (pc := 104) ok dX4_blurredGrey_104 rfl (by rw [hN]; decide) ?_
          refine a_iinc (pc := 106) ok dX4_blurredGrey_106 rfl rfl (by rw [hN]; decide) ?_
          refine AW.cast (L2 := [some (.ref 0), some (.ref 4), some (iv x), some (iv y), some (iv (y * c + x)), some (iv (blS c r B (y * c + x) x y)), some (iv (blN c r x y))]) ?_ (by unfold blS blN; first | (rw [if_pos (show y < r - 1 by omega), if_pos (show y < r - 1 by omega)] <;> rfl) | (rw [if_neg (show ¬ y < r - 1 by omega), if_neg (show ¬ y < r - 1 by omega), Int.add_zero, Int.add_zero] <;> rfl)) rfl rfl
          refine a_iload (pc := 109) ok dX4_blurredGrey_109 rfl ?_
          refine a_iload (pc := 111) ok dX4_blurredGrey_111 rfl ?_
          refine a_idiv (pc := 113) ok dX4_blurredGrey_113 (by first | omega | (unfold rg; omega) | (simp only [rg] at *; omega) | exact bz_rg _ | grind [rg]) (by first | omega | (unfold rg; omega) | (simp only [rg] at *; omega) | exact bz_rg _ | grind [rg]) ?_
          exact a_iret (pc := 114) ok dX4_blurredGrey_114 (by rw [hf]; exact ⟨rfl, rfl⟩)
      · refine a_iload (pc := 65) ok dX4_blurredGrey_65 rfl ?_
        refine a_aload_n (pc := 67) ok dX4_blurredGrey_67 rfl ?_
        refine a_iload (pc := 68) ok dX4_blurredGrey_68 rfl ?_
        refine a_aload_n (pc := 70) ok dX4_blurredGrey_70 rfl ?_
        refine a_getf (pc := 71) ok dX4_blurredGrey_71 fl4_38 rfl rfl ?_
        refine a_isub (pc := 74) ok dX4_blurredGrey_74 ?_
        refine a_iald (pc := 75) ok dX4_blurredGrey_75 rfl (by first | decide | omega) (by first | omega | (unfold rg; omega) | (simp only [rg] at *; omega) | exact bz_rg _ | grind [rg]) ?_
        refine a_iadd (pc := 76) ok dX4_blurredGrey_76 ?_
        refine a_istore (pc := 77) ok dX4_blurredGrey_77 rfl (by rw [hN]; decide) ?_
        refine a_iinc (pc := 79) ok dX4_blurredGrey_79 rfl rfl (by rw [hN]; decide) ?_
        refine AW.cast (L2 := [some (.ref 0), some (.ref 4), some (iv x), some (iv y), some (iv (y * c + x)), some (iv (4 * B (y * c + x) + (if 0 < x then B (y * c + x - 1) else 0) + (if x < c - 1 then B (y * c + x + 1) else 0) + (if 0 < y then B (y * c + x - c) else 0))), some (iv (4 + (if 0 < x then 1 else 0) + (if x < c - 1 then 1 else 0) + (if 0 < y then 1 else 0)))]) ?_ (by first | (rw [if_pos (show 0 < y by omega), if_pos (show 0 < y by omega)] <;> rfl) | (rw [if_neg (show ¬ 0 < y by omega), if_neg (show ¬ 0 < y by omega), Int.add_zero, Int.add_zero] <;> rfl)) rfl rfl
        refine a_iload_n (pc := 82) ok dX4_blurredGrey_82 rfl ?_
        refine a_aload_n (pc := 83) ok dX4_blurredGrey_83 rfl ?_
        refine a_getf (pc := 84) ok dX4_blurredGrey_84 fl4_41 rfl rfl ?_
        refine a_iconst (pc := 87) ok dX4_blurredGrey_87 ?_
        refine a_isub (pc := 88) ok dX4_blurredGrey_88 ?_
        refine a_icmp_ge (pc := 89) (tgt := 109) ok dX4_blurredGrey_89 (by decide) (by first | omega | (unfold rg; omega) | (simp only [rg] at *; omega) | exact bz_rg _ | grind [rg]) (by first | omega | (unfold rg; omega) | (simp only [rg] at *; omega) | exact bz_rg _ | grind [rg]) (fun c89 => ?_) (fun c89 => ?_)
        · refine AW.cast (L2 := [some (.ref 0), some (.ref 4), some (iv x), some (iv y), some (iv (y * c + x)), some (iv (blS c r B (y * c + x) x y)), some (iv (blN c r x y))]) ?_ (by unfold blS blN; first | (rw [if_pos (show y < r - 1 by omega), if_pos (show y < r - 1 by omega)] <;> rfl) | (rw [if_neg (show ¬ y < r - 1 by omega), if_neg (show ¬ y < r - 1 by omega), Int.add_zero, Int.add_zero] <;> rfl)) rfl rfl
          refine a_iload (pc := 109) ok dX4_blurredGrey_109 rfl ?_
          refine a_iload (pc := 111) ok dX4_blurredGrey_111 rfl ?_
          refine a_idiv (pc := 113) ok dX4_blurredGrey_113 (by first | omega | (unfold rg; omega) | (simp only [rg] at *; omega) | exact bz_rg _ | grind [rg]) (by first | omega | (unfold rg; omega) | (simp only [rg] at *; omega) | exact bz_rg _ | grind [rg]) ?_
          exact a_iret (pc := 114) ok dX4_blurredGrey_114 (by rw [hf]; exact ⟨rfl, rfl⟩)
        · refine a_iload (pc := 92) ok dX4_blurredGrey_92 rfl ?_
          refine a_aload_n (pc := 94) ok dX4_blurredGrey_94 rfl ?_
          refine a_iload (pc := 95) ok dX4_blurredGrey_95 rfl ?_
          refine a_aload_n (pc := 97) ok dX4_blurredGrey_97 rfl ?_
          refine a_getf (pc := 98) ok dX4_blurredGrey_98 fl4_38 rfl rfl ?_
          refine a_iadd (pc := 101) ok dX4_blurredGrey_101 ?_
          refine a_iald (pc := 102) ok dX4_blurredGrey_102 rfl (by first | decide | omega) (by first | omega | (unfold rg; omega) | (simp only [rg] at *; omega) | exact bz_rg _ | grind [rg]) ?_
          refine a_iadd (pc := 103) ok dX4_blurredGrey_103 ?_
          refine a_istore (pc := 104) ok dX4_blurredGrey_104 rfl (by rw [hN]; decide) ?_
          refine a_iinc (pc := 106) ok dX4_blurredGrey_106 rfl rfl (by rw [hN]; decide) ?_
          refine AW.cast (L2 := [some (.ref 0), some (.ref 4), some (iv x), some (iv y), some (iv (y * c + x)), some (iv (blS c r B (y * c + x) x y)), some (iv (blN c r x y))]) ?_ (by unfold blS blN; first | (rw [if_pos (show y < r - 1 by omega), if_pos (show y < r - 1 by omega)] <;> rfl) | (rw [if_neg (show ¬ y < r - 1 by omega), if_neg (show ¬ y < r - 1 by omega), Int.add_zero, Int.add_zero] <;> rfl)) rfl rfl
          refine a_iload (pc := 109) ok dX4_blurredGrey_109 rfl ?_
          refine a_iload (pc := 111) ok dX4_blurredGrey_111 rfl ?_
          refine a_idiv (pc := 113) ok dX4_blurredGrey_113 (by first | omega | (unfold rg; omega) | (simp only [rg] at *; omega) | exact bz_rg _ | grind [rg]) (by first | omega | (unfold rg; omega) | (simp only [rg] at *; omega) | exact bz_rg _ | grind [rg]) ?_
          exact a_iret (pc := 114) ok dX4_blurredGrey_114 (by rw [hf]; exact ⟨rfl, rfl⟩)
    · refine a_iload (pc := 47) ok dX4_blurredGrey_47 rfl ?_
      refine a_aload_n (pc := 49) ok dX4_blurredGrey_49 rfl ?_
      refine a_iload (pc := 50) ok dX4_blurredGrey_50 rfl ?_
      refine a_iconst (pc := 52) ok dX4_blurredGrey_52 ?_
      refine a_iadd (pc := 53) ok dX4_blurredGrey_53 ?_
      refine a_iald (pc := 54) ok dX4_blurredGrey_54 rfl (by first | decide | omega) (by first | omega | (unfold rg; omega) | (simp only [rg] at *; omega) | exact bz_rg _ | grind [rg]) ?_
      refine a_iadd (pc := 55) ok dX4_blurredGrey_55 ?_
      refine a_istore (pc := 56) ok dX4_blurredGrey_56 rfl (by rw [hN]; decide) ?_
      refine a_iinc (pc := 58) ok dX4_blurredGrey_58 rfl rfl (by rw [hN]; decide) ?_
      refine AW.cast (L2 := [some (.ref 0), some (.ref 4), some (iv x), some (iv y), some (iv (y * c + x)), some (iv (4 * B (y * c + x) + (if 0 < x then B (y * c + x - 1) else 0) + (if x < c - 1 then B (y * c + x + 1) else 0))), some (iv (4 + (if 0 < x then 1 else 0) + (if x < c - 1 then 1 else 0)))]) ?_ (by first | (rw [if_pos (show x < c - 1 by omega), if_pos (show x < c - 1 by omega)] <;> rfl) | (rw [if_neg (show ¬ x < c - 1 by omega), if_neg (show ¬ x < c - 1 by omega), Int.add_zero, Int.add_zero] <;> rfl)) rfl rfl
      refine a_iload_n (pc := 61) ok dX4_blurredGrey_61 rfl ?_
      refine a_if_le (pc := 62) (tgt := 82) ok dX4_blurredGrey_62 (by decide) (by first | omega | (unfold rg; omega) | (simp only [rg] at *; omega) | exact bz_rg _ | grind [rg]) (fun c62 => ?_) (fun c62 => ?_)
      · refine AW.cast (L2 := [some (.ref 0), some (.ref 4), some (iv x), some (iv y), some (iv (y * c + x)), some (iv (4 * B (y * c + x) + (if 0 < x then B (y * c + x - 1) else 0) + (if x < c - 1 then B (y * c + x + 1) else 0) + (if 0 < y then B (y * c + x - c) else 0))), some (iv (4 + (if 0 < x then 1 else 0) + (if x < c - 1 then 1 else 0) + (if 0 < y then 1 else 0)))]) ?_ (by first | (rw [if_pos (show 0 < y by omega), if_pos (show 0 < y by omega)] <;> rfl) | (rw [if_neg (show ¬ 0 < y by omega), if_neg (show ¬ 0 < y by omega), Int.add_zero, Int.add_zero] <;> rfl)) rfl rfl
        refine a_iload_n (pc := 82) ok dX4_blurredGrey_82 rfl ?_
        refine a_aload_n (pc := 83) ok dX4_blurredGrey_83 rfl ?_
        refine a_getf (pc := 84) ok dX4_blurredGrey_84 fl4_41 rfl rfl ?_
        refine a_iconst (pc := 87) ok dX4_blurredGrey_87 ?_
        refine a_isub (pc := 88) ok dX4_blurredGrey_88 ?_
        refine a_icmp_ge (pc := 89) (tgt := 109) ok dX4_blurredGrey_89 (by decide) (by first | omega | (unfold rg; omega) | (simp only [rg] at *; omega) | exact bz_rg _ | grind [rg]) (by first | omega | (unfold rg; omega) | (simp only [rg] at *; omega) | exact bz_rg _ | grind [rg]) (fun c89 => ?_) (fun c89 => ?_)
        · refine AW.cast (L2 := [some (.ref 0), some (.ref 4), some (iv x), some (iv y), some (iv (y * c + x)), some (iv (blS c r B (y * c + x) x y)), some (iv (blN c r x y))]) ?_ (by unfold blS blN; first | (rw [if_pos (show y < r - 1 by omega), if_pos (show y < r - 1 by omega)] <;> rfl) | (rw [if_neg (show ¬ y < r - 1 by omega), if_neg (show ¬ y < r - 1 by omega), Int.add_zero, Int.add_zero] <;> rfl)) rfl rfl
          refine a_iload (pc := 109) ok dX4_blurredGrey_109 rfl ?_
          refine a_iload (pc := 111) ok dX4_blurredGrey_111 rfl ?_
          refine a_idiv (pc := 113) ok dX4_blurredGrey_113 (by first | omega | (unfold rg; omega) | (simp only [rg] at *; omega) | exact bz_rg _ | grind [rg]) (by first | omega | (unfold rg; omega) | (simp only [rg] at *; omega) | exact bz_rg _ | grind [rg]) ?_
          exact a_iret (pc := 114) ok dX4_blurredGrey_114 (by rw [hf]; exact ⟨rfl, rfl⟩)
        · refine a_iload (pc := 92) ok dX4_blurredGrey_92 rfl ?_
          refine a_aload_n (pc := 94) ok dX4_blurredGrey_94 rfl ?_
          refine a_iload (pc := 95) ok dX4_blurredGrey_95 rfl ?_
          refine a_aload_n (pc := 97) ok dX4_blurredGrey_97 rfl ?_
          refine a_getf (pc := 98) ok dX4_blurredGrey_98 fl4_38 rfl rfl ?_
          refine a_iadd (pc := 101) ok dX4_blurredGrey_101 ?_
          refine a_iald (pc := 102) ok dX4_blurredGrey_102 rfl (by first | decide | omega) (by first | omega | (unfold rg; omega) | (simp only [rg] at *; omega) | exact bz_rg _ | grind [rg]) ?_
          refine a_iadd (pc := 103) ok dX4_blurredGrey_103 ?_
          refine a_istore (pc := 104) ok dX4_blurredGrey_104 rfl (by rw [hN]; decide) ?_
          refine a_iinc (pc := 106) ok dX4_blurredGrey_106 rfl rfl (by rw [hN]; decide) ?_
          refine AW.cast (L2 := [some (.ref 0), some (.ref 4), some (iv x), some (iv y), some (iv (y * c + x)), some (iv (blS c r B (y * c + x) x y)), some (iv (blN c r x y))]) ?_ (by unfold blS blN; first | (rw [if_pos (show y < r - 1 by omega), if_pos (show y < r - 1 by omega)] <;> rfl) | (rw [if_neg (show ¬ y < r - 1 by omega), if_neg (show ¬ y < r - 1 by omega), Int.add_zero, Int.add_zero] <;> rfl)) rfl rfl
          refine a_iload (pc := 109) ok dX4_blurredGrey_109 rfl ?_
          refine a_iload (pc := 111) ok dX4_blurredGrey_111 rfl ?_
          refine a_idiv (pc := 113) ok dX4_blurredGrey_113 (by first | omega | (unfold rg; omega) | (simp only [rg] at *; omega) | exact bz_rg _ | grind [rg]) (by first | omega | (unfold rg; omega) | (simp only [rg] at *; omega) | exact bz_rg _ | grind [rg]) ?_
          exact a_iret (pc := 114) ok dX4_blurredGrey_114 (by rw [hf]; exact ⟨rfl, rfl⟩)
      · refine a_iload (pc := 65) ok dX4_blurredGrey_65 rfl ?_
        refine a_aload_n (pc := 67) ok dX4_blurredGrey_67 rfl ?_
        refine a_iload (pc := 68) ok dX4_blurredGrey_68 rfl ?_
        refine a_aload_n (pc := 70) ok dX4_blurredGrey_70 rfl ?_
        refine a_getf (pc := 71) ok dX4_blurredGrey_71 fl4_38 rfl rfl ?_
        refine a_isub (pc := 74) ok dX4_blurredGrey_74 ?_
        refine a_iald (pc := 75) ok dX4_blurredGrey_75 rfl (by first | decide | omega) (by first | omega | (unfold rg; omega) | (simp only [rg] at *; omega) | exact bz_rg _ | grind [rg]) ?_
        refine a_iadd (pc := 76) ok dX4_blurredGrey_76 ?_
        refine a_istore (pc := 77) ok dX4_blurredGrey_77 rfl (by rw [hN]; decide) ?_
        refine a_iinc (pc := 79) ok dX4_blurredGrey_79 rfl rfl (by rw [hN]; decide) ?_
        refine AW.cast (L2 := [some (.ref 0), some (.ref 4), some (iv x), some (iv y), some (iv (y * c + x)), some (iv (4 * B (y * c + x) + (if 0 < x then B (y * c + x - 1) else 0) + (if x < c - 1 then B (y * c + x + 1) else 0) + (if 0 < y then B (y * c + x - c) else 0))), some (iv (4 + (if 0 < x then 1 else 0) + (if x < c - 1 then 1 else 0) + (if 0 < y then 1 else 0)))]) ?_ (by first | (rw [if_pos (show 0 < y by omega), if_pos (show 0 < y by omega)] <;> rfl) | (rw [if_neg (show ¬ 0 < y by omega), if_neg (show ¬ 0 < y by omega), Int.add_zero, Int.add_zero] <;> rfl)) rfl rfl
        refine a_iload_n (pc := 82) ok dX4_blurredGrey_82 rfl ?_
        refine a_aload_n (pc := 83) ok dX4_blurredGrey_83 rfl ?_
        refine a_getf (pc := 84) ok dX4_blurredGrey_84 fl4_41 rfl rfl ?_
        refine a_iconst (pc := 87) ok dX4_blurredGrey_87 ?_
        refine a_isub (pc := 88) ok dX4_blurredGrey_88 ?_
        refine a_icmp_ge (pc := 89) (tgt := 109) ok dX4_blurredGrey_89 (by decide) (by first | omega | (unfold rg; omega) | (simp only [rg] at *; omega) | exact bz_rg _ | grind [rg]) (by first | omega | (unfold rg; omega) | (simp only [rg] at *; omega) | exact bz_rg _ | grind [rg]) (fun c89 => ?_) (fun c89 => ?_)
        · refine AW.cast (L2 := [some (.ref 0), some (.ref 4), some (iv x), some (iv y), some (iv (y * c + x)), some (iv (blS c r B (y * c + x) x y)), some (iv (blN c r x y))]) ?_ (by unfold blS blN; first | (rw [if_pos (show y < r - 1 by omega), if_pos (show y < r - 1 by omega)] <;> rfl) | (rw [if_neg (show ¬ y < r - 1 by omega), if_neg (show ¬ y < r - 1 by omega), Int.add_zero, Int.add_zero] <;> rfl)) rfl rfl
          refine a_iload (pc := 109) ok dX4_blurredGrey_109 rfl ?_
          refine a_iload (pc := 111) ok dX4_blurredGrey_111 rfl ?_
          refine a_idiv (pc := 113) ok dX4_blurredGrey_113 (by first | omega | (unfold rg; omega) | (simp only [rg] at *; omega) | exact bz_rg _ | grind [rg]) (by first | omega | (unfold rg; omega) | (simp only [rg] at *; omega) | exact bz_rg _ | grind [rg]) ?_
          exact a_iret (pc := 114) ok dX4_blurredGrey_114 (by rw [hf]; exact ⟨rfl, rfl⟩)
        · refine a_iload (pc := 92) ok dX4_blurredGrey_92 rfl ?_
          refine a_aload_n (pc := 94) ok dX4_blurredGrey_94 rfl ?_
          refine a_iload (pc := 95) ok dX4_blurredGrey_95 rfl ?_
          refine a_aload_n (pc := 97) ok dX4_blurredGrey_97 rfl ?_
          refine a_getf (pc := 98) ok dX4_blurredGrey_98 fl4_38 rfl rfl ?_
          refine a_iadd (pc := 101) ok dX4_blurredGrey_101 ?_
          refine a_iald (pc := 102) ok dX4_blurredGrey_102 rfl (by first | decide | omega) (by first | omega | (unfold rg; omega) | (simp only [rg] at *; omega) | exact bz_rg _ | grind [rg]) ?_
          refine a_iadd (pc := 103) ok dX4_blurredGrey_103 ?_
          refine a_istore (pc := 104) ok dX4_blurredGrey_104 rfl (by rw [hN]; decide) ?_
          refine a_iinc (pc := 106) ok dX4_blurredGrey_106 rfl rfl (by rw [hN]; decide) ?_
          refine AW.cast (L2 := [some (.ref 0), some (.ref 4), some (iv x), some (iv y), some (iv (y * c + x)), some (iv (blS c r B (y * c + x) x y)), some (iv (blN c r x y))]) ?_ (by unfold blS blN; first | (rw [if_pos (show y < r - 1 by omega), if_pos (show y < r - 1 by omega)] <;> rfl) | (rw [if_neg (show ¬ y < r - 1 by omega), if_neg (show ¬ y < r - 1 by omega), Int.add_zero, Int.add_zero] <;> rfl)) rfl rfl
          refine a_iload (pc := 109) ok dX4_blurredGrey_109 rfl ?_
          refine a_iload (pc := 111) ok dX4_blurredGrey_111 rfl ?_
          refine a_idiv (pc := 113) ok dX4_blurredGrey_113 (by first | omega | (unfold rg; omega) | (simp only [rg] at *; omega) | exact bz_rg _ | grind [rg]) (by first | omega | (unfold rg; omega) | (simp only [rg] at *; omega) | exact bz_rg _ | grind [rg]) ?_
          exact a_iret (pc := 114) ok dX4_blurredGrey_114 (by rw [hf]; exact ⟨rfl, rfl⟩)
  · refine a_iload (pc := 23) ok dX4_blurredGrey_23 rfl ?_
    refine a_aload_n (pc := 25) ok dX4_blurredGrey_25 rfl ?_
    refine a_iload (pc := 26) ok dX4_blurredGrey_26 rfl ?_
    refine a_iconst (pc := 28) ok dX4_blurredGrey_28 ?_
    refine a_isub (pc := 29) ok dX4_blurredGrey_29 ?_
    refine a_iald (pc := 30) ok dX4_blurredGrey_30 rfl (by first | decide | omega) (by first | omega | (unfold rg; omega) | (simp only [rg] at *; omega) | exact bz_rg _ | grind [rg]) ?_
    refine a_iadd (pc := 31) ok dX4_blurredGrey_31 ?_
    refine a_istore (pc := 32) ok dX4_blurredGrey_32 rfl (by rw [hN]; decide) ?_
    refine a_iinc (pc := 34) ok dX4_blurredGrey_34 rfl rfl (by rw [hN]; decide) ?_
    refine AW.cast (L2 := [some (.ref 0), some (.ref 4), some (iv x), some (iv y), some (iv (y * c + x)), some (iv (4 * B (y * c + x) + (if 0 < x then B (y * c + x - 1) else 0))), some (iv (4 + (if 0 < x then 1 else 0)))]) ?_ (by first | (rw [if_pos (by omega), if_pos (by omega)] <;> rfl) | (rw [if_neg (by omega), if_neg (by omega), Int.add_zero, Int.add_zero] <;> rfl)) rfl rfl
    refine a_iload_n (pc := 37) ok dX4_blurredGrey_37 rfl ?_
    refine a_aload_n (pc := 38) ok dX4_blurredGrey_38 rfl ?_
    refine a_getf (pc := 39) ok dX4_blurredGrey_39 fl4_38 rfl rfl ?_
    refine a_iconst (pc := 42) ok dX4_blurredGrey_42 ?_
    refine a_isub (pc := 43) ok dX4_blurredGrey_43 ?_
    refine a_icmp_ge (pc := 44) (tgt := 61) ok dX4_blurredGrey_44 (by decide) (by first | omega | (unfold rg; omega) | (simp only [rg] at *; omega) | exact bz_rg _ | grind [rg]) (by first | omega | (unfold rg; omega) | (simp only [rg] at *; omega) | exact bz_rg _ | grind [rg]) (fun c44 => ?_) (fun c44 => ?_)
    · refine AW.cast (L2 := [some (.ref 0), some (.ref 4), some (iv x), some (iv y), some (iv (y * c + x)), some (iv (4 * B (y * c + x) + (if 0 < x then B (y * c + x - 1) else 0) + (if x < c - 1 then B (y * c + x + 1) else 0))), some (iv (4 + (if 0 < x then 1 else 0) + (if x < c - 1 then 1 else 0)))]) ?_ (by first | (rw [if_pos (show x < c - 1 by omega), if_pos (show x < c - 1 by omega)] <;> rfl) | (rw [if_neg (show ¬ x < c - 1 by omega), if_neg (show ¬ x < c - 1 by omega), Int.add_zero, Int.add_zero] <;> rfl)) rfl rfl
      refine a_iload_n (pc := 61) ok dX4_blurredGrey_61 rfl ?_
      refine a_if_le (pc := 62) (tgt := 82) ok dX4_blurredGrey_62 (by decide) (by first | omega | (unfold rg; omega) | (simp only [rg] at *; omega) | exact bz_rg _ | grind [rg]) (fun c62 => ?_) (fun c62 => ?_)
      · refine AW.cast (L2 := [some (.ref 0), some (.ref 4), some (iv x), some (iv y), some (iv (y * c + x)), some (iv (4 * B (y * c + x) + (if 0 < x then B (y * c + x - 1) else 0) + (if x < c - 1 then B (y * c + x + 1) else 0) + (if 0 < y then B (y * c + x - c) else 0))), some (iv (4 + (if 0 < x then 1 else 0) + (if x < c - 1 then 1 else 0) + (if 0 < y then 1 else 0)))]) ?_ (by first | (rw [if_pos (show 0 < y by omega), if_pos (show 0 < y by omega)] <;> rfl) | (rw [if_neg (show ¬ 0 < y by omega), if_neg (show ¬ 0 < y by omega), Int.add_zero, Int.add_zero] <;> rfl)) rfl rfl
        refine a_iload_n (pc := 82) ok dX4_blurredGrey_82 rfl ?_
        refine a_aload_n (pc := 83) ok dX4_blurredGrey_83 rfl ?_
        refine a_getf (pc := 84) ok dX4_blurredGrey_84 fl4_41 rfl rfl ?_
        refine a_iconst (pc := 87) ok dX4_blurredGrey_87 ?_
        refine a_isub (pc := 88) ok dX4_blurredGrey_88 ?_
        refine a_icmp_ge (pc := 89) (tgt := 109) ok dX4_blurredGrey_89 (by decide) (by first | omega | (unfold rg; omega) | (simp only [rg] at *; omega) | exact bz_rg _ | grind [rg]) (by first | omega | (unfold rg; omega) | (simp only [rg] at *; omega) | exact bz_rg _ | grind [rg]) (fun c89 => ?_) (fun c89 => ?_)
        · refine AW.cast (L2 := [some (.ref 0), some (.ref 4), some (iv x), some (iv y), some (iv (y * c + x)), some (iv (blS c r B (y * c + x) x y)), some (iv (blN c r x y))]) ?_ (by unfold blS blN; first | (rw [if_pos (show y < r - 1 by omega), if_pos (show y < r - 1 by omega)] <;> rfl) | (rw [if_neg (show ¬ y < r - 1 by omega), if_neg (show ¬ y < r - 1 by omega), Int.add_zero, Int.add_zero] <;> rfl)) rfl rfl
          refine a_iload (pc := 109) ok dX4_blurredGrey_109 rfl ?_
          refine a_iload (pc := 111) ok dX4_blurredGrey_111 rfl ?_
          refine a_idiv (pc := 113) ok dX4_blurredGrey_113 (by first | omega | (unfold rg; omega) | (simp only [rg] at *; omega) | exact bz_rg _ | grind [rg]) (by first | omega | (unfold rg; omega) | (simp only [rg] at *; omega) | exact bz_rg _ | grind [rg]) ?_
          exact a_iret (pc := 114) ok dX4_blurredGrey_114 (by rw [hf]; exact ⟨rfl, rfl⟩)
        · refine a_iload (pc := 92) ok dX4_blurredGrey_92 rfl ?_
          refine a_aload_n (pc := 94) ok dX4_blurredGrey_94 rfl ?_
          refine a_iload (pc := 95) ok dX4_blurredGrey_95 rfl ?_
          refine a_aload_n (pc := 97) ok dX4_blurredGrey_97 rfl ?_
          refine a_getf (pc := 98) ok dX4_blurredGrey_98 fl4_38 rfl rfl ?_
          refine a_iadd (pc := 101) ok dX4_blurredGrey_101 ?_
          refine a_iald (pc := 102) ok dX4_blurredGrey_102 rfl (by first | decide | omega) (by first | omega | (unfold rg; omega) | (simp only [rg] at *; omega) | exact bz_rg _ | grind [rg]) ?_
          refine a_iadd (pc := 103) ok dX4_blurredGrey_103 ?_
          refine a_istore (pc := 104) ok dX4_blurredGrey_104 rfl (by rw [hN]; decide) ?_
          refine a_iinc (pc := 106) ok dX4_blurredGrey_106 rfl rfl (by rw [hN]; decide) ?_
          refine AW.cast (L2 := [some (.ref 0), some (.ref 4), some (iv x), some (iv y), some (iv (y * c + x)), some (iv (blS c r B (y * c + x) x y)), some (iv (blN c r x y))]) ?_ (by unfold blS blN; first | (rw [if_pos (show y < r - 1 by omega), if_pos (show y < r - 1 by omega)] <;> rfl) | (rw [if_neg (show ¬ y < r - 1 by omega), if_neg (show ¬ y < r - 1 by omega), Int.add_zero, Int.add_zero] <;> rfl)) rfl rfl
          refine a_iload (pc := 109) ok dX4_blurredGrey_109 rfl ?_
          refine a_iload (pc := 111) ok dX4_blurredGrey_111 rfl ?_
          refine a_idiv (pc := 113) ok dX4_blurredGrey_113 (by first | omega | (unfold rg; omega) | (simp only [rg] at *; omega) | exact bz_rg _ | grind [rg]) (by first | omega | (unfold rg; omega) | (simp only [rg] at *; omega) | exact bz_rg _ | grind [rg]) ?_
          exact a_iret (pc := 114) ok dX4_blurredGrey_114 (by rw [hf]; exact ⟨rfl, rfl⟩)
      · refine a_iload (pc := 65) ok dX4_blurredGrey_65 rfl ?_
        refine a_aload_n (pc := 67) ok dX4_blurredGrey_67 rfl ?_
        refine a_iload (pc := 68) ok dX4_blurredGrey_68 rfl ?_
        refine a_aload_n (pc := 70) ok dX4_blurredGrey_70 rfl ?_
        refine a_getf (pc := 71) ok dX4_blurredGrey_71 fl4_38 rfl rfl ?_
        refine a_isub (pc := 74) ok dX4_blurredGrey_74 ?_
        refine a_iald (pc := 75) ok dX4_blurredGrey_75 rfl (by first | decide | omega) (by first | omega | (unfold rg; omega) | (simp only [rg] at *; omega) | exact bz_rg _ | grind [rg]) ?_
        refine a_iadd (pc := 76) ok dX4_blurredGrey_76 ?_
        refine a_istore (pc := 77) ok dX4_blurredGrey_77 rfl (by rw [hN]; decide) ?_
        refine a_iinc (pc := 79) ok dX4_blurredGrey_79 rfl rfl (by rw [hN]; decide) ?_
        refine AW.cast (L2 := [some (.ref 0), some (.ref 4), some (iv x), some (iv y), some (iv (y * c + x)), some (iv (4 * B (y * c + x) + (if 0 < x then B (y * c + x - 1) else 0) + (if x < c - 1 then B (y * c + x + 1) else 0) + (if 0 < y then B (y * c + x - c) else 0))), some (iv (4 + (if 0 < x then 1 else 0) + (if x < c - 1 then 1 else 0) + (if 0 < y then 1 else 0)))]) ?_ (by first | (rw [if_pos (show 0 < y by omega), if_pos (show 0 < y by omega)] <;> rfl) | (rw [if_neg (show ¬ 0 < y by omega), if_neg (show ¬ 0 < y by omega), Int.add_zero, Int.add_zero] <;> rfl)) rfl rfl
        refine a_iload_n (pc := 82) ok dX4_blurredGrey_82 rfl ?_
        refine a_aload_n (pc := 83) ok dX4_blurredGrey_83 rfl ?_
        refine a_getf (pc := 84) ok dX4_blurredGrey_84 fl4_41 rfl rfl ?_
        refine a_iconst (pc := 87) ok dX4_blurredGrey_87 ?_
        refine a_isub (pc := 88) ok dX4_blurredGrey_88 ?_
        refine a_icmp_ge (pc := 89) (tgt := 109) ok dX4_blurredGrey_89 (by decide) (by first | omega | (unfold rg; omega) | (simp only [rg] at *; omega) | exact bz_rg _ | grind [rg]) (by first | omega | (unfold rg; omega) | (simp only [rg] at *; omega) | exact bz_rg _ | grind [rg]) (fun c89 => ?_) (fun c89 => ?_)
        · refine AW.cast (L2 := [some (.ref 0), some (.ref 4), some (iv x), some (iv y), some (iv (y * c + x)), some (iv (blS c r B (y * c + x) x y)), some (iv (blN c r x y))]) ?_ (by unfold blS blN; first | (rw [if_pos (show y < r - 1 by omega), if_pos (show y < r - 1 by omega)] <;> rfl) | (rw [if_neg (show ¬ y < r - 1 by omega), if_neg (show ¬ y < r - 1 by omega), Int.add_zero, Int.add_zero] <;> rfl)) rfl rfl
          refine a_iload (pc := 109) ok dX4_blurredGrey_109 rfl ?_
          refine a_iload (pc := 111) ok dX4_blurredGrey_111 rfl ?_
          refine a_idiv (pc := 113) ok dX4_blurredGrey_113 (by first | omega | (unfold rg; omega) | (simp only [rg] at *; omega) | exact bz_rg _ | grind [rg]) (by first | omega | (unfold rg; omega) | (simp only [rg] at *; omega) | exact bz_rg _ | grind [rg]) ?_
          exact a_iret (pc := 114) ok dX4_blurredGrey_114 (by rw [hf]; exact ⟨rfl, rfl⟩)
        · refine a_iload (pc := 92) ok dX4_blurredGrey_92 rfl ?_
          refine a_aload_n (pc := 94) ok dX4_blurredGrey_94 rfl ?_
          refine a_iload (pc := 95) ok dX4_blurredGrey_95 rfl ?_
          refine a_aload_n (pc := 97) ok dX4_blurredGrey_97 rfl ?_
          refine a_getf (pc := 98) ok dX4_blurredGrey_98 fl4_38 rfl rfl ?_
          refine a_iadd (pc := 101) ok dX4_blurredGrey_101 ?_
          refine a_iald (pc := 102) ok dX4_blurredGrey_102 rfl (by first | decide | omega) (by first | omega | (unfold rg; omega) | (simp only [rg] at *; omega) | exact bz_rg _ | grind [rg]) ?_
          refine a_iadd (pc := 103) ok dX4_blurredGrey_103 ?_
          refine a_istore (pc := 104) ok dX4_blurredGrey_104 rfl (by rw [hN]; decide) ?_
          refine a_iinc (pc := 106) ok dX4_blurredGrey_106 rfl rfl (by rw [hN]; decide) ?_
          refine AW.cast (L2 := [some (.ref 0), some (.ref 4), some (iv x), some (iv y), some (iv (y * c + x)), some (iv (blS c r B (y * c + x) x y)), some (iv (blN c r x y))]) ?_ (by unfold blS blN; first | (rw [if_pos (show y < r - 1 by omega), if_pos (show y < r - 1 by omega)] <;> rfl) | (rw [if_neg (show ¬ y < r - 1 by omega), if_neg (show ¬ y < r - 1 by omega), Int.add_zero, Int.add_zero] <;> rfl)) rfl rfl
          refine a_iload (pc := 109) ok dX4_blurredGrey_109 rfl ?_
          refine a_iload (pc := 111) ok dX4_blurredGrey_111 rfl ?_
          refine a_idiv (pc := 113) ok dX4_blurredGrey_113 (by first | omega | (unfold rg; omega) | (simp only [rg] at *; omega) | exact bz_rg _ | grind [rg]) (by first | omega | (unfold rg; omega) | (simp only [rg] at *; omega) | exact bz_rg _ | grind [rg]) ?_
          exact a_iret (pc := 114) ok dX4_blurredGrey_114 (by rw [hf]; exact ⟨rfl, rfl⟩)
    · refine a_iload (pc := 47) ok dX4_blurredGrey_47 rfl ?_
      refine a_aload_n (pc := 49) ok dX4_blurredGrey_49 rfl ?_
      refine a_iload (pc := 50) ok dX4_blurredGrey_50 rfl ?_
      refine a_iconst (pc := 52) ok dX4_blurredGrey_52 ?_
      refine a_iadd (pc := 53) ok dX4_blurredGrey_53 ?_
      refine a_iald (pc := 54) ok dX4_blurredGrey_54 rfl (by first | decide | omega) (by first | omega | (unfold rg; omega) | (simp only [rg] at *; omega) | exact bz_rg _ | grind [rg]) ?_
      refine a_iadd (pc := 55) ok dX4_blurredGrey_55 ?_
      refine a_istore (pc := 56) ok dX4_blurredGrey_56 rfl (by rw [hN]; decide) ?_
      refine a_iinc (pc := 58) ok dX4_blurredGrey_58 rfl rfl (by rw [hN]; decide) ?_
      refine AW.cast (L2 := [some (.ref 0), some (.ref 4), some (iv x), some (iv y), some (iv (y * c + x)), some (iv (4 * B (y * c + x) + (if 0 < x then B (y * c + x - 1) else 0) + (if x < c - 1 then B (y * c + x + 1) else 0))), some (iv (4 + (if 0 < x then 1 else 0) + (if x < c - 1 then 1 else 0)))]) ?_ (by first | (rw [if_pos (show x < c - 1 by omega), if_pos (show x < c - 1 by omega)] <;> rfl) | (rw [if_neg (show ¬ x < c - 1 by omega), if_neg (show ¬ x < c - 1 by omega), Int.add_zero, Int.add_zero] <;> rfl)) rfl rfl
      refine a_iload_n (pc := 61) ok dX4_blurredGrey_61 rfl ?_
      refine a_if_le (pc := 62) (tgt := 82) ok dX4_blurredGrey_62 (by decide) (by first | omega | (unfold rg; omega) | (simp only [rg] at *; omega) | exact bz_rg _ | grind [rg]) (fun c62 => ?_) (fun c62 => ?_)
      · refine AW.cast (L2 := [some (.ref 0), some (.ref 4), some (iv x), some (iv y), some (iv (y * c + x)), some (iv (4 * B (y * c + x) + (if 0 < x then B (y * c + x - 1) else 0) + (if x < c - 1 then B (y * c + x + 1) else 0) + (if 0 < y then B (y * c + x - c) else 0))), some (iv (4 + (if 0 < x then 1 else 0) + (if x < c - 1 then 1 else 0) + (if 0 < y then 1 else 0)))]) ?_ (by first | (rw [if_pos (show 0 < y by omega), if_pos (show 0 < y by omega)] <;> rfl) | (rw [if_neg (show ¬ 0 < y by omega), if_neg (show ¬ 0 < y by omega), Int.add_zero, Int.add_zero] <;> rfl)) rfl rfl
        refine a_iload_n (pc := 82) ok dX4_blurredGrey_82 rfl ?_
        refine a_aload_n (pc := 83) ok dX4_blurredGrey_83 rfl ?_
        refine a_getf (pc := 84) ok dX4_blurredGrey_84 fl4_41 rfl rfl ?_
        refine a_iconst (pc := 87) ok dX4_blurredGrey_87 ?_
        refine a_isub (pc := 88) ok dX4_blurredGrey_88 ?_
        refine a_icmp_ge (pc := 89) (tgt := 109) ok dX4_blurredGrey_89 (by decide) (by first | omega | (unfold rg; omega) | (simp only [rg] at *; omega) | exact bz_rg _ | grind [rg]) (by first | omega | (unfold rg; omega) | (simp only [rg] at *; omega) | exact bz_rg _ | grind [rg]) (fun c89 => ?_) (fun c89 => ?_)
        · refine AW.cast (L2 := [some (.ref 0), some (.ref 4), some (iv x), some (iv y), some (iv (y * c + x)), some (iv (blS c r B (y * c + x) x y)), some (iv (blN c r x y))]) ?_ (by unfold blS blN; first | (rw [if_pos (show y < r - 1 by omega), if_pos (show y < r - 1 by omega)] <;> rfl) | (rw [if_neg (show ¬ y < r - 1 by omega), if_neg (show ¬ y < r - 1 by omega), Int.add_zero, Int.add_zero] <;> rfl)) rfl rfl
          refine a_iload (pc := 109) ok dX4_blurredGrey_109 rfl ?_
          refine a_iload (pc := 111) ok dX4_blurredGrey_111 rfl ?_
          refine a_idiv (pc := 113) ok dX4_blurredGrey_113 (by first | omega | (unfold rg; omega) | (simp only [rg] at *; omega) | exact bz_rg _ | grind [rg]) (by first | omega | (unfold rg; omega) | (simp only [rg] at *; omega) | exact bz_rg _ | grind [rg]) ?_
          exact a_iret (pc := 114) ok dX4_blurredGrey_114 (by rw [hf]; exact ⟨rfl, rfl⟩)
        · refine a_iload (pc := 92) ok dX4_blurredGrey_92 rfl ?_
          refine a_aload_n (pc := 94) ok dX4_blurredGrey_94 rfl ?_
          refine a_iload (pc := 95) ok dX4_blurredGrey_95 rfl ?_
          refine a_aload_n (pc := 97) ok dX4_blurredGrey_97 rfl ?_
          refine a_getf (pc := 98) ok dX4_blurredGrey_98 fl4_38 rfl rfl ?_
          refine a_iadd (pc := 101) ok dX4_blurredGrey_101 ?_
          refine a_iald (pc := 102) ok dX4_blurredGrey_102 rfl (by first | decide | omega) (by first | omega | (unfold rg; omega) | (simp only [rg] at *; omega) | exact bz_rg _ | grind [rg]) ?_
          refine a_iadd (pc := 103) ok dX4_blurredGrey_103 ?_
          refine a_istore (pc := 104) ok dX4_blurredGrey_104 rfl (by rw [hN]; decide) ?_
          refine a_iinc (pc := 106) ok dX4_blurredGrey_106 rfl rfl (by rw [hN]; decide) ?_
          refine AW.cast (L2 := [some (.ref 0), some (.ref 4), some (iv x), some (iv y), some (iv (y * c + x)), some (iv (blS c r B (y * c + x) x y)), some (iv (blN c r x y))]) ?_ (by unfold blS blN; first | (rw [if_pos (show y < r - 1 by omega), if_pos (show y < r - 1 by omega)] <;> rfl) | (rw [if_neg (show ¬ y < r - 1 by omega), if_neg (show ¬ y < r - 1 by omega), Int.add_zero, Int.add_zero] <;> rfl)) rfl rfl
          refine a_iload (pc := 109) ok dX4_blurredGrey_109 rfl ?_
          refine a_iload (pc := 111) ok dX4_blurredGrey_111 rfl ?_
          refine a_idiv (pc := 113) ok dX4_blurredGrey_113 (by first | omega | (unfold rg; omega) | (simp only [rg] at *; omega) | exact bz_rg _ | grind [rg]) (by first | omega | (unfold rg; omega) | (simp only [rg] at *; omega) | exact bz_rg _ | grind [rg]) ?_
          exact a_iret (pc := 114) ok dX4_blurredGrey_114 (by rw [hf]; exact ⟨rfl, rfl⟩)
      · refine a_iload (pc := 65) ok dX4_blurredGrey_65 rfl ?_
        refine a_aload_n (pc := 67) ok dX4_blurredGrey_67 rfl ?_
        refine a_iload (pc := 68) ok dX4_blurredGrey_68 rfl ?_
        refine a_aload_n (pc := 70) ok dX4_blurredGrey_70 rfl ?_
        refine a_getf (pc := 71) ok dX4_blurredGrey_71 fl4_38 rfl rfl ?_
        refine a_isub (pc := 74) ok dX4_blurredGrey_74 ?_
        refine a_iald (pc := 75) ok dX4_blurredGrey_75 rfl (by first | decide | omega) (by first | omega | (unfold rg; omega) | (simp only [rg] at *; omega) | exact bz_rg _ | grind [rg]) ?_
        refine a_iadd (pc := 76) ok dX4_blurredGrey_76 ?_
        refine a_istore (pc := 77) ok dX4_blurredGrey_77 rfl (by rw [hN]; decide) ?_
        refine a_iinc (pc := 79) ok dX4_blurredGrey_79 rfl rfl (by rw [hN]; decide) ?_
        refine AW.cast (L2 := [some (.ref 0), some (.ref 4), some (iv x), some (iv y), some (iv (y * c + x)), some (iv (4 * B (y * c + x) + (if 0 < x then B (y * c + x - 1) else 0) + (if x < c - 1 then B (y * c + x + 1) else 0) + (if 0 < y then B (y * c + x - c) else 0))), some (iv (4 + (if 0 < x then 1 else 0) + (if x < c - 1 then 1 else 0) + (if 0 < y then 1 else 0)))]) ?_ (by first | (rw [if_pos (show 0 < y by omega), if_pos (show 0 < y by omega)] <;> rfl) | (rw [if_neg (show ¬ 0 < y by omega), if_neg (show ¬ 0 < y by omega), Int.add_zero, Int.add_zero] <;> rfl)) rfl rfl
        refine a_iload_n (pc := 82) ok dX4_blurredGrey_82 rfl ?_
        refine a_aload_n (pc := 83) ok dX4_blurredGrey_83 rfl ?_
        refine a_getf (pc := 84) ok dX4_blurredGrey_84 fl4_41 rfl rfl ?_
        refine a_iconst (pc := 87) ok dX4_blurredGrey_87 ?_
        refine a_isub (pc := 88) ok dX4_blurredGrey_88 ?_
        refine a_icmp_ge (pc := 89) (tgt := 109) ok dX4_blurredGrey_89 (by decide) (by first | omega | (unfold rg; omega) | (simp only [rg] at *; omega) | exact bz_rg _ | grind [rg]) (by first | omega | (unfold rg; omega) | (simp only [rg] at *; omega) | exact bz_rg _ | grind [rg]) (fun c89 => ?_) (fun c89 => ?_)
        · refine AW.cast (L2 := [some (.ref 0), some (.ref 4), some (iv x), some (iv y), some (iv (y * c + x)), some (iv (blS c r B (y * c + x) x y)), some (iv (blN c r x y))]) ?_ (by unfold blS blN; first | (rw [if_pos (show y < r - 1 by omega), if_pos (show y < r - 1 by omega)] <;> rfl) | (rw [if_neg (show ¬ y < r - 1 by omega), if_neg (show ¬ y < r - 1 by omega), Int.add_zero, Int.add_zero] <;> rfl)) rfl rfl
          refine a_iload (pc := 109) ok dX4_blurredGrey_109 rfl ?_
          refine a_iload (pc := 111) ok dX4_blurredGrey_111 rfl ?_
          refine a_idiv (pc := 113) ok dX4_blurredGrey_113 (by first | omega | (unfold rg; omega) | (simp only [rg] at *; omega) | exact bz_rg _ | grind [rg]) (by first | omega | (unfold rg; omega) | (simp only [rg] at *; omega) | exact bz_rg _ | grind [rg]) ?_
          exact a_iret (pc := 114) ok dX4_blurredGrey_114 (by rw [hf]; exact ⟨rfl, rfl⟩)
        · refine a_iload (pc := 92) ok dX4_blurredGrey_92 rfl ?_
          refine a_aload_n (pc := 94) ok dX4_blurredGrey_94 rfl ?_
          refine a_iload (pc := 95) ok dX4_blurredGrey_95 rfl ?_
          refine a_aload_n (pc := 97) ok dX4_blurredGrey_97 rfl ?_
          refine a_getf (pc := 98) ok dX4_blurredGrey_98 fl4_38 rfl rfl ?_
          refine a_iadd (pc := 101) ok dX4_blurredGrey_101 ?_
          refine a_iald (pc := 102) ok dX4_blurredGrey_102 rfl (by first | decide | omega) (by first | omega | (unfold rg; omega) | (simp only [rg] at *; omega) | exact bz_rg _ | grind [rg]) ?_
          refine a_iadd (pc := 103) ok dX4_blurredGrey_103 ?_
          refine a_istore (pc := 104) ok dX4_blurredGrey_104 rfl (by rw [hN]; decide) ?_
          refine a_iinc (pc := 106) ok dX4_blurredGrey_106 rfl rfl (by rw [hN]; decide) ?_
          refine AW.cast (L2 := [some (.ref 0), some (.ref 4), some (iv x), some (iv y), some (iv (y * c + x)), some (iv (blS c r B (y * c + x) x y)), some (iv (blN c r x y))]) ?_ (by unfold blS blN; first | (rw [if_pos (show y < r - 1 by omega), if_pos (show y < r - 1 by omega)] <;> rfl) | (rw [if_neg (show ¬ y < r - 1 by omega), if_neg (show ¬ y < r - 1 by omega), Int.add_zero, Int.add_zero] <;> rfl)) rfl rfl
          refine a_iload (pc := 109) ok dX4_blurredGrey_109 rfl ?_
          refine a_iload (pc := 111) ok dX4_blurredGrey_111 rfl ?_
          refine a_idiv (pc := 113) ok dX4_blurredGrey_113 (by first | omega | (unfold rg; omega) | (simp only [rg] at *; omega) | exact bz_rg _ | grind [rg]) (by first | omega | (unfold rg; omega) | (simp only [rg] at *; omega) | exact bz_rg _ | grind [rg]) ?_
          exact a_iret (pc := 114) ok dX4_blurredGrey_114 (by rw [hf]; exact ⟨rfl, rfl⟩)
theorem dX4_blurGreys_0 : decode cX4_blurGreys 0 = .ok (.aload_n 0, 1) := by decide +kernel
theorem dX4_blurGreys_1 : decode cX4_blurGreys 1 = .ok (.getfield 9, 3) := by decide +kernel
theorem dX4_blurGreys_4 : decode cX4_blurGreys 4 = .ok (.iconst 0, 1) := by decide +kernel
theorem dX4_blurGreys_5 : decode cX4_blurGreys 5 = .ok (.aload_n 1, 1) := by decide +kernel
theorem dX4_blurGreys_6 : decode cX4_blurGreys 6 = .ok (.iconst 0, 1) := by decide +kernel
theorem dX4_blurGreys_7 : decode cX4_blurGreys 7 = .ok (.sipush 144, 3) := by decide +kernel
theorem dX4_blurGreys_10 : decode cX4_blurGreys 10 = .ok (.invokestatic 50, 3) := by decide +kernel
theorem dX4_blurGreys_13 : decode cX4_blurGreys 13 = .ok (.iconst 0, 1) := by decide +kernel
theorem dX4_blurGreys_14 : decode cX4_blurGreys 14 = .ok (.istore_n 2, 1) := by decide +kernel
theorem dX4_blurGreys_15 : decode cX4_blurGreys 15 = .ok (.iconst 0, 1) := by decide +kernel
theorem dX4_blurGreys_16 : decode cX4_blurGreys 16 = .ok (.istore_n 3, 1) := by decide +kernel
theorem dX4_blurGreys_17 : decode cX4_blurGreys 17 = .ok (.iload_n 3, 1) := by decide +kernel
theorem dX4_blurGreys_18 : decode cX4_blurGreys 18 = .ok (.aload_n 0, 1) := by decide +kernel
theorem dX4_blurGreys_19 : decode cX4_blurGreys 19 = .ok (.getfield 41, 3) := by decide +kernel
theorem dX4_blurGreys_22 : decode cX4_blurGreys 22 = .ok (.if_icmp .ge 54, 3) := by decide +kernel
theorem dX4_blurGreys_25 : decode cX4_blurGreys 25 = .ok (.iconst 0, 1) := by decide +kernel
theorem dX4_blurGreys_26 : decode cX4_blurGreys 26 = .ok (.istore 4, 2) := by decide +kernel
theorem dX4_blurGreys_28 : decode cX4_blurGreys 28 = .ok (.iload 4, 2) := by decide +kernel
theorem dX4_blurGreys_30 : decode cX4_blurGreys 30 = .ok (.aload_n 0, 1) := by decide +kernel
theorem dX4_blurGreys_31 : decode cX4_blurGreys 31 = .ok (.getfield 38, 3) := by decide +kernel
theorem dX4_blurGreys_34 : decode cX4_blurGreys 34 = .ok (.if_icmp .ge 36, 3) := by decide +kernel
theorem dX4_blurGreys_37 : decode cX4_blurGreys 37 = .ok (.aload_n 0, 1) := by decide +kernel
theorem dX4_blurGreys_38 : decode cX4_blurGreys 38 = .ok (.aload_n 1, 1) := by decide +kernel
theorem dX4_blurGreys_39 : decode cX4_blurGreys 39 = .ok (.iload 4, 2) := by decide +kernel
theorem dX4_blurGreys_41 : decode cX4_blurGreys 41 = .ok (.iload_n 3, 1) := by decide +kernel
theorem dX4_blurGreys_42 : decode cX4_blurGreys 42 = .ok (.invokevirtual 105, 3) := by decide +kernel
theorem dX4_blurGreys_45 : decode cX4_blurGreys 45 = .ok (.istore 5, 2) := by decide +kernel
theorem dX4_blurGreys_47 : decode cX4_blurGreys 47 = .ok (.aload_n 0, 1) := by decide +kernel
theorem dX4_blurGreys_48 : decode cX4_blurGreys 48 = .ok (.iload 4, 2) := by decide +kernel
theorem dX4_blurGreys_50 : decode cX4_blurGreys 50 = .ok (.iload_n 3, 1) := by decide +kernel
theorem dX4_blurGreys_51 : decode cX4_blurGreys 51 = .ok (.iload 5, 2) := by decide +kernel
theorem dX4_blurGreys_53 : decode cX4_blurGreys 53 = .ok (.invokevirtual 72, 3) := by decide +kernel
theorem dX4_blurGreys_56 : decode cX4_blurGreys 56 = .ok (.iload 5, 2) := by decide +kernel
theorem dX4_blurGreys_58 : decode cX4_blurGreys 58 = .ok (.if_icmp .eq 6, 3) := by decide +kernel
theorem dX4_blurGreys_61 : decode cX4_blurGreys 61 = .ok (.iinc 2 1, 3) := by decide +kernel
theorem dX4_blurGreys_64 : decode cX4_blurGreys 64 = .ok (.iinc 4 1, 3) := by decide +kernel
theorem dX4_blurGreys_67 : decode cX4_blurGreys 67 = .ok (.goto (-39), 3) := by decide +kernel
theorem dX4_blurGreys_70 : decode cX4_blurGreys 70 = .ok (.iinc 3 1, 3) := by decide +kernel
theorem dX4_blurGreys_73 : decode cX4_blurGreys 73 = .ok (.goto (-56), 3) := by decide +kernel
theorem dX4_blurGreys_76 : decode cX4_blurGreys 76 = .ok (.iload_n 2, 1) := by decide +kernel
theorem dX4_blurGreys_77 : decode cX4_blurGreys 77 = .ok (.ireturn, 1) := by decide +kernel
theorem c_blurGreys {n : Int} {B : Int → Int} (hd : dim c r) (hG : ∀ i, 0 ≤ G i ∧ G i ≤ 99) : Cd l yX4_blurGreys cX4_blurGreys 6 (some .int) rmX4_blurGreys [.ref 0, .ref 4] (stM c r G T n le Hh li ++ [ia 144 B]) (some (iv (cntK (fun j => decide (blF c r G j ≠ G j)) (c * r).toNat))) (stM c r (mapK (blF c r G) (c * r) G) T n le Hh li ++ [ia 144 G]) := by
  refine Ct.of miX4_blurGreys (Nat.le_of_ble_eq_true rfl) ?_
  intro X hXl hN ok
  refine AW.cast (L2 := [some (.ref 0), some (.ref 4), none, none, none, none]) ?_ rfl rfl rfl
  have hc := dim_cells hd
  obtain ⟨d1, d2, d3, d4⟩ := id hd
  have loop : ∀ y : Int, (0 ≤ y ∧ y ≤ r) → AW X 0 0 17 [some (.ref 0), some (.ref 4), some (iv (cntK (fun j => decide (blF c r G j ≠ G j)) (y * c).toNat)), some (iv y), none, none] [] (stM c r (mapK (blF c r G) (y * c) G) T n le Hh li ++ [ia 144 G]) := by
    refine wfl (fun y : Int => (r - y).toNat) _ _ ?_
    rintro y ⟨hy0, hy1⟩ ih
    have inner : ∀ x : Int, (0 ≤ x ∧ x ≤ c ∧ y < r) → AW X 0 0 28 [some (.ref 0), some (.ref 4), some (iv (cntK (fun j => decide (blF c r G j ≠ G j)) (y * c + x).toNat)), some (iv y), some (iv x), none] [] (stM c r (mapK (blF c r G) (y * c + x) G) T n le Hh li ++ [ia 144 G]) := by
      refine wfl (fun x : Int => (c - x).toNat) _ _ ?_
      rintro x ⟨hx0, hx1, hyr⟩ ih2
      have hq := dim_x hd (x := x) (y := y) ⟨hy0, hyr⟩
      have hat : mapK (blF c r G) (y * c + x) G (y * c + x) = G (y * c + x) := mapK_at
      have hb := blF_99 (c := c) (r := r) hG (y * c + x)
      have hGk := hG (y * c + x)
      have hup : up (mapK (blF c r G) (y * c + x) G) (y * c + x) (blF c r G (y * c + x)) = mapK (blF c r G) (y * c + (x + 1)) G := by rw [← Int.add_assoc]; exact mapK_up (by omega)
      have hcn : cntK (fun j => decide (blF c r G j ≠ G j)) (y * c + (x + 1)).toNat = cntK (fun j => decide (blF c r G j ≠ G j)) (y * c + x).toNat + if blF c r G (y * c + x) ≠ G (y * c + x) then 1 else 0 := by
        rw [show (y * c + (x + 1)).toNat = (y * c + x).toNat + 1 by omega]; simp only [cntK]; rw [Int.toNat_of_nonneg (by omega)]; simp only [decide_eq_true_eq]
      refine a_iload (pc := 28) ok dX4_blurGreys_28 rfl ?_
      refine a_aload_n (pc := 30) ok dX4_blurGreys_30 rfl ?_
      refine a_getf (pc := 31) ok dX4_blurGreys_31 fl4_38 rfl rfl ?_
      refine a_icmp_ge (pc := 34) (tgt := 70) ok dX4_blurGreys_34 (by decide) (by first | omega | (unfold rg; omega) | (simp only [rg] at *; omega) | exact bz_rg _ | grind [rg]) (by first | omega | (unfold rg; omega) | (simp only [rg] at *; omega) | exact bz_rg _ | grind [rg]) (fun c34 => ?_) (fun c34 => ?_)
      · have e : y * c + x = (y + 1) * c := by rw [Int.add_mul]; omega
        rw [e]
        refine a_iinc (pc := 70) ok dX4_blurGreys_70 rfl rfl (by rw [hN]; decide) ?_
        refine a_goto (pc := 73) (tgt := 17) ok dX4_blurGreys_73 (by decide) ?_
        exact AW.forget (ih (y + 1) ⟨by omega, by omega⟩ (by omega)) (by repeat' (first | exact trivial | refine ⟨rfl, ?_⟩))
      · refine a_aload_n (pc := 37) ok dX4_blurGreys_37 rfl ?_
        refine a_aload_n (pc := 38) ok dX4_blurGreys_38 rfl ?_
        refine a_iload (pc := 39) ok dX4_blurGreys_39 rfl ?_
        refine a_iload_n (pc := 41) ok dX4_blurGreys_41 rfl ?_
        refine a_callVp (pc := 42) ok [0, 1, 2, 3, 4] dX4_blurGreys_42 mv4_105 miX4_blurredGrey (c_blurredGrey hd hG ⟨hx0, by omega⟩ ⟨hy0, hyr⟩) ⟨by decide, by decide, rfl, rfl, Nat.zero_le _, Nat.zero_le _⟩ rfl rfl (by decide) rfl (by decide) rfl rfl ?_
        refine a_istore (pc := 45) ok dX4_blurGreys_45 rfl (by rw [hN]; decide) ?_
        refine a_aload_n (pc := 47) ok dX4_blurGreys_47 rfl ?_
        refine a_iload (pc := 48) ok dX4_blurGreys_48 rfl ?_
        refine a_iload_n (pc := 50) ok dX4_blurGreys_50 rfl ?_
        refine a_iload (pc := 51) ok dX4_blurGreys_51 rfl ?_
        refine a_callVi (pc := 53) ok [0, 1, 2, 3] dX4_blurGreys_53 mv4_72 miX4_setGrey (c_setGrey (by omega)) ⟨by decide, by decide, rfl, rfl, Nat.zero_le _, Nat.zero_le _⟩ rfl rfl (by decide) rfl (by decide) rfl rfl rfl ?_
        refine a_iload (pc := 56) ok dX4_blurGreys_56 rfl ?_
        refine AW.cast (st2 := [iv (blF c r G (y * c + x)), iv (G (y * c + x))]) ?_ rfl (by rw [hat]) rfl
        refine a_icmp_eq (pc := 58) (tgt := 64) ok dX4_blurGreys_58 (by decide) (by first | omega | (unfold rg; omega) | (simp only [rg] at *; omega) | exact bz_rg _ | grind [rg]) (by first | omega | (unfold rg; omega) | (simp only [rg] at *; omega) | exact bz_rg _ | grind [rg]) (fun c58 => ?_) (fun c58 => ?_)
        · refine AW.cast (L2 := [some (.ref 0), some (.ref 4), some (iv (cntK (fun j => decide (blF c r G j ≠ G j)) (y * c + (x + 1)).toNat)), some (iv y), some (iv x), some (iv (blF c r G (y * c + x)))]) ?_ (by rw [hcn]; first | (rw [if_pos (by omega)] <;> rfl) | (rw [if_neg (by omega), Int.add_zero] <;> rfl)) rfl rfl
          refine a_iinc (pc := 64) ok dX4_blurGreys_64 rfl rfl (by rw [hN]; decide) ?_
          refine a_goto (pc := 67) (tgt := 28) ok dX4_blurGreys_67 (by decide) ?_
          refine AW.cast (AW.forget (ih2 (x + 1) ⟨by omega, by omega, hyr⟩ (by omega)) (by repeat' (first | exact trivial | refine ⟨rfl, ?_⟩))) rfl rfl ?_
          exact congrArg (fun f => stM c r f T n le Hh li ++ [ia 144 G]) hup
        · refine a_iinc (pc := 61) ok dX4_blurGreys_61 rfl rfl (by rw [hN]; decide) ?_
          refine AW.cast (L2 := [some (.ref 0), some (.ref 4), some (iv (cntK (fun j => decide (blF c r G j ≠ G j)) (y * c + (x + 1)).toNat)), some (iv y), some (iv x), some (iv (blF c r G (y * c + x)))]) ?_ (by rw [hcn]; first | (rw [if_pos (by omega)] <;> rfl) | (rw [if_neg (by omega), Int.add_zero] <;> rfl)) rfl rfl
          refine a_iinc (pc := 64) ok dX4_blurGreys_64 rfl rfl (by rw [hN]; decide) ?_
          refine a_goto (pc := 67) (tgt := 28) ok dX4_blurGreys_67 (by decide) ?_
          refine AW.cast (AW.forget (ih2 (x + 1) ⟨by omega, by omega, hyr⟩ (by omega)) (by repeat' (first | exact trivial | refine ⟨rfl, ?_⟩))) rfl rfl ?_
          exact congrArg (fun f => stM c r f T n le Hh li ++ [ia 144 G]) hup
    refine a_iload_n (pc := 17) ok dX4_blurGreys_17 rfl ?_
    refine a_aload_n (pc := 18) ok dX4_blurGreys_18 rfl ?_
    refine a_getf (pc := 19) ok dX4_blurGreys_19 fl4_41 rfl rfl ?_
    refine a_icmp_ge (pc := 22) (tgt := 76) ok dX4_blurGreys_22 (by decide) (by first | omega | (unfold rg; omega) | (simp only [rg] at *; omega) | exact bz_rg _ | grind [rg]) (by first | omega | (unfold rg; omega) | (simp only [rg] at *; omega) | exact bz_rg _ | grind [rg]) (fun c22 => ?_) (fun c22 => ?_)
    · have e : y = r := by omega
      subst e
      refine a_iload_n (pc := 76) ok dX4_blurGreys_76 rfl ?_
      exact a_iret (pc := 77) ok dX4_blurGreys_77 (by rw [Int.mul_comm c y]; exact ⟨rfl, rfl⟩)
    · refine a_iconst (pc := 25) ok dX4_blurGreys_25 ?_
      refine a_istore (pc := 26) ok dX4_blurGreys_26 rfl (by rw [hN]; decide) ?_
      refine AW.cast (AW.forget (inner 0 ⟨by omega, by omega, by omega⟩) ?_) rfl rfl ?_
      · rw [Int.add_zero]; exact (by repeat' (first | exact trivial | refine ⟨rfl, ?_⟩))
      · rw [Int.add_zero]
  refine a_aload_n (pc := 0) ok dX4_blurGreys_0 rfl ?_
  refine a_getf (pc := 1) ok dX4_blurGreys_1 fl4_9 rfl rfl ?_
  refine a_iconst (pc := 4) ok dX4_blurGreys_4 ?_
  refine a_aload_n (pc := 5) ok dX4_blurGreys_5 rfl ?_
  refine a_iconst (pc := 6) ok dX4_blurGreys_6 ?_
  refine a_sipush (pc := 7) ok dX4_blurGreys_7 (by decide) ?_
  refine a_copy (pc := 10) ok dX4_blurGreys_10 (ug3 22 (by decide +kernel) rfl) ⟨by decide, by decide⟩ (by decide) rfl rfl rfl (by decide) ?_
  refine a_iconst (pc := 13) ok dX4_blurGreys_13 ?_
  refine a_istore_n (pc := 14) ok dX4_blurGreys_14 rfl (by rw [hN]; decide) ?_
  refine a_iconst (pc := 15) ok dX4_blurGreys_15 ?_
  refine a_istore_n (pc := 16) ok dX4_blurGreys_16 rfl (by rw [hN]; decide) ?_
  refine AW.cast (AW.forget (loop 0 ⟨by omega, by omega⟩) ?_) rfl rfl ?_
  · rw [Int.zero_mul]; exact (by repeat' (first | exact trivial | refine ⟨rfl, ?_⟩))
  · rw [Int.zero_mul]; exact congrArg (fun f => stM c r f T n le Hh li ++ [ia 144 G]) mapK_0.symm
theorem dX4_takePlate_0 : decode cX4_takePlate 0 = .ok (.aload_n 0, 1) := by decide +kernel
theorem dX4_takePlate_1 : decode cX4_takePlate 1 = .ok (.iload_n 1, 1) := by decide +kernel
theorem dX4_takePlate_2 : decode cX4_takePlate 2 = .ok (.putfield 38, 3) := by decide +kernel
theorem dX4_takePlate_5 : decode cX4_takePlate 5 = .ok (.aload_n 0, 1) := by decide +kernel
theorem dX4_takePlate_6 : decode cX4_takePlate 6 = .ok (.iload_n 2, 1) := by decide +kernel
theorem dX4_takePlate_7 : decode cX4_takePlate 7 = .ok (.putfield 41, 3) := by decide +kernel
theorem dX4_takePlate_10 : decode cX4_takePlate 10 = .ok (.aload_n 0, 1) := by decide +kernel
theorem dX4_takePlate_11 : decode cX4_takePlate 11 = .ok (.getfield 9, 3) := by decide +kernel
theorem dX4_takePlate_14 : decode cX4_takePlate 14 = .ok (.iconst 0, 1) := by decide +kernel
theorem dX4_takePlate_15 : decode cX4_takePlate 15 = .ok (.invokestatic 44, 3) := by decide +kernel
theorem dX4_takePlate_18 : decode cX4_takePlate 18 = .ok (.return_, 1) := by decide +kernel
theorem c_takePlate {n c2 r2 : Int} : Cd l yX4_takePlate cX4_takePlate 3 none rmX4_takePlate [.ref 0, iv c2, iv r2] (stM c r G T n le Hh li) none (stM c2 r2 (fun _ => 0) T n le Hh li) := by
  refine Ct.of miX4_takePlate (Nat.le_of_ble_eq_true rfl) ?_
  intro X hXl hN ok
  refine AW.cast (L2 := [some (.ref 0), some (iv c2), some (iv r2)]) ?_ rfl rfl rfl
  refine a_aload_n (pc := 0) ok dX4_takePlate_0 rfl ?_
  refine a_iload_n (pc := 1) ok dX4_takePlate_1 rfl ?_
  refine a_putf (pc := 2) ok dX4_takePlate_2 fp4_38 rfl (by first | rfl | decide) (by first | rfl | decide) (Nat.le_of_ble_eq_true rfl) ?_
  refine a_aload_n (pc := 5) ok dX4_takePlate_5 rfl ?_
  refine a_iload_n (pc := 6) ok dX4_takePlate_6 rfl ?_
  refine a_putf (pc := 7) ok dX4_takePlate_7 fp4_41 rfl (by first | rfl | decide) (by first | rfl | decide) (Nat.le_of_ble_eq_true rfl) ?_
  refine a_aload_n (pc := 10) ok dX4_takePlate_10 rfl ?_
  refine a_getf (pc := 11) ok dX4_takePlate_11 fl4_9 rfl rfl ?_
  refine a_iconst (pc := 14) ok dX4_takePlate_14 ?_
  refine a_callSv (pc := 15) ok [1] dX4_takePlate_15 mv4_44 miAF_fill (c_fill (by omega)) ⟨by decide, by decide, rfl, rfl, Nat.zero_le _, Nat.zero_le _⟩ rfl rfl (by decide) rfl (by decide) rfl ?_
  exact a_vret (pc := 18) ok dX4_takePlate_18 (⟨rfl, rfl⟩)
theorem dX4_reset_0 : decode cX4_reset 0 = .ok (.aload_n 0, 1) := by decide +kernel
theorem dX4_reset_1 : decode cX4_reset 1 = .ok (.iload_n 1, 1) := by decide +kernel
theorem dX4_reset_2 : decode cX4_reset 2 = .ok (.iload_n 2, 1) := by decide +kernel
theorem dX4_reset_3 : decode cX4_reset 3 = .ok (.invokevirtual 25, 3) := by decide +kernel
theorem dX4_reset_6 : decode cX4_reset 6 = .ok (.aload_n 0, 1) := by decide +kernel
theorem dX4_reset_7 : decode cX4_reset 7 = .ok (.getfield 15, 3) := by decide +kernel
theorem dX4_reset_10 : decode cX4_reset 10 = .ok (.iconst 0, 1) := by decide +kernel
theorem dX4_reset_11 : decode cX4_reset 11 = .ok (.bipush 50, 2) := by decide +kernel
theorem dX4_reset_13 : decode cX4_reset 13 = .ok (.iastore, 1) := by decide +kernel
theorem dX4_reset_14 : decode cX4_reset 14 = .ok (.aload_n 0, 1) := by decide +kernel
theorem dX4_reset_15 : decode cX4_reset 15 = .ok (.iconst 1, 1) := by decide +kernel
theorem dX4_reset_16 : decode cX4_reset 16 = .ok (.putfield 28, 3) := by decide +kernel
theorem dX4_reset_19 : decode cX4_reset 19 = .ok (.aload_n 0, 1) := by decide +kernel
theorem dX4_reset_20 : decode cX4_reset 20 = .ok (.iconst 1, 1) := by decide +kernel
theorem dX4_reset_21 : decode cX4_reset 21 = .ok (.putfield 32, 3) := by decide +kernel
theorem dX4_reset_24 : decode cX4_reset 24 = .ok (.iconst 0, 1) := by decide +kernel
theorem dX4_reset_25 : decode cX4_reset 25 = .ok (.istore_n 3, 1) := by decide +kernel
theorem dX4_reset_26 : decode cX4_reset 26 = .ok (.iload_n 3, 1) := by decide +kernel
theorem dX4_reset_27 : decode cX4_reset 27 = .ok (.iconst 5, 1) := by decide +kernel
theorem dX4_reset_28 : decode cX4_reset 28 = .ok (.if_icmp .gt 16, 3) := by decide +kernel
theorem dX4_reset_31 : decode cX4_reset 31 = .ok (.aload_n 0, 1) := by decide +kernel
theorem dX4_reset_32 : decode cX4_reset 32 = .ok (.getfield 18, 3) := by decide +kernel
theorem dX4_reset_35 : decode cX4_reset 35 = .ok (.iload_n 3, 1) := by decide +kernel
theorem dX4_reset_36 : decode cX4_reset 36 = .ok (.iload_n 3, 1) := by decide +kernel
theorem dX4_reset_37 : decode cX4_reset 37 = .ok (.iastore, 1) := by decide +kernel
theorem dX4_reset_38 : decode cX4_reset 38 = .ok (.iinc 3 1, 3) := by decide +kernel
theorem dX4_reset_41 : decode cX4_reset 41 = .ok (.goto (-15), 3) := by decide +kernel
theorem dX4_reset_44 : decode cX4_reset 44 = .ok (.aload_n 0, 1) := by decide +kernel
theorem dX4_reset_45 : decode cX4_reset 45 = .ok (.iconst 1, 1) := by decide +kernel
theorem dX4_reset_46 : decode cX4_reset 46 = .ok (.putfield 35, 3) := by decide +kernel
theorem dX4_reset_49 : decode cX4_reset 49 = .ok (.return_, 1) := by decide +kernel
theorem c_reset {n c2 r2 : Int} : Cd l yX4_reset cX4_reset 4 none rmX4_reset [.ref 0, iv c2, iv r2] (stM c r G T n le Hh li) none (stM c2 r2 (fun _ => 0) (up T 0 50) 1 1 (fun j => j) 1) := by
  refine Ct.of miX4_reset (Nat.le_of_ble_eq_true rfl) ?_
  intro X hXl hN ok
  refine AW.cast (L2 := [some (.ref 0), some (iv c2), some (iv r2), none]) ?_ rfl rfl rfl
  have loop : ∀ k : Nat, k ≤ 6 → AW X 0 0 26 [some (.ref 0), some (iv c2), some (iv r2), some (iv k)] [] (stM c2 r2 (fun _ => 0) (up T 0 50) 1 1 (mapK (fun j => j) k Hh) li) := by
    refine wfl (fun k : Nat => 6 - k) _ _ ?_
    intro k hk ih
    have hup : up (mapK (fun j => j) k Hh) k k = mapK (fun j => j) ((k + 1 : Nat) : Int) Hh := mapK_up (f := fun j => j) (by omega)
    refine a_iload_n (pc := 26) ok dX4_reset_26 rfl ?_
    refine a_iconst (pc := 27) ok dX4_reset_27 ?_
    refine a_icmp_gt (pc := 28) (tgt := 44) ok dX4_reset_28 (by decide) (by first | omega | (unfold rg; omega) | (simp only [rg] at *; omega) | exact bz_rg _ | grind [rg]) (by first | omega | (unfold rg; omega) | (simp only [rg] at *; omega) | exact bz_rg _ | grind [rg]) (fun c28 => ?_) (fun c28 => ?_)
    · refine AW.ext (q := 3) (g := fun j => j) rfl (fun j h1 h2 => by simp only [mapK]; rw [if_pos (by omega)]) ?_
      refine a_aload_n (pc := 44) ok dX4_reset_44 rfl ?_
      refine a_iconst (pc := 45) ok dX4_reset_45 ?_
      refine a_putf (pc := 46) ok dX4_reset_46 fp4_35 rfl (by first | rfl | decide) (by first | rfl | decide) (Nat.le_of_ble_eq_true rfl) ?_
      exact a_vret (pc := 49) ok dX4_reset_49 (⟨rfl, rfl⟩)
    · refine a_aload_n (pc := 31) ok dX4_reset_31 rfl ?_
      refine a_getf (pc := 32) ok dX4_reset_32 fl4_18 rfl rfl ?_
      refine a_iload_n (pc := 35) ok dX4_reset_35 rfl ?_
      refine a_iload_n (pc := 36) ok dX4_reset_36 rfl ?_
      refine a_iast (pc := 37) ok dX4_reset_37 rfl (by first | decide | omega) (by first | omega | (unfold rg; omega) | (simp only [rg] at *; omega) | exact bz_rg _ | grind [rg]) ?_
      refine a_iinc (pc := 38) ok dX4_reset_38 rfl rfl (by rw [hN]; decide) ?_
      refine a_goto (pc := 41) (tgt := 26) ok dX4_reset_41 (by decide) ?_
      refine AW.cast (ih (k + 1) (by omega) (by omega)) rfl rfl ?_
      exact congrArg (fun f => stM c2 r2 (fun _ => 0) (up T 0 50) 1 1 f li) hup
  refine a_aload_n (pc := 0) ok dX4_reset_0 rfl ?_
  refine a_iload_n (pc := 1) ok dX4_reset_1 rfl ?_
  refine a_iload_n (pc := 2) ok dX4_reset_2 rfl ?_
  refine a_callVv (pc := 3) ok [0, 1, 2, 3] dX4_reset_3 mv4_25 miX4_takePlate (c_takePlate) ⟨by decide, by decide, rfl, rfl, Nat.zero_le _, Nat.zero_le _⟩ rfl rfl (by decide) rfl (by decide) rfl rfl rfl ?_
  refine a_aload_n (pc := 6) ok dX4_reset_6 rfl ?_
  refine a_getf (pc := 7) ok dX4_reset_7 fl4_15 rfl rfl ?_
  refine a_iconst (pc := 10) ok dX4_reset_10 ?_
  refine a_bipush (pc := 11) ok dX4_reset_11 (by decide) ?_
  refine a_iast (pc := 13) ok dX4_reset_13 rfl (by first | decide | omega) (by first | omega | (unfold rg; omega) | (simp only [rg] at *; omega) | exact bz_rg _ | grind [rg]) ?_
  refine a_aload_n (pc := 14) ok dX4_reset_14 rfl ?_
  refine a_iconst (pc := 15) ok dX4_reset_15 ?_
  refine a_putf (pc := 16) ok dX4_reset_16 fp4_28 rfl (by first | rfl | decide) (by first | rfl | decide) (Nat.le_of_ble_eq_true rfl) ?_
  refine a_aload_n (pc := 19) ok dX4_reset_19 rfl ?_
  refine a_iconst (pc := 20) ok dX4_reset_20 ?_
  refine a_putf (pc := 21) ok dX4_reset_21 fp4_32 rfl (by first | rfl | decide) (by first | rfl | decide) (Nat.le_of_ble_eq_true rfl) ?_
  refine a_iconst (pc := 24) ok dX4_reset_24 ?_
  refine a_istore_n (pc := 25) ok dX4_reset_25 rfl (by rw [hN]; decide) ?_
  exact AW.cast (loop 0 (by omega)) rfl rfl (congrArg (fun f => stM c2 r2 (fun _ => 0) (up T 0 50) 1 1 f li) mapK_0.symm)
/-- a State that lies from the place p on -/
abbrev stA (p : Nat) (c r : Int) (G T : Int → Int) (n le : Int) (Hh : Int → Int) (li : Int) : List va_E := [ob 4 [iv c, iv r, .ref (p + 1), .ref (p + 2), iv n, iv le, .ref (p + 3), iv li], ia 144 G, ia 5 T, ia 6 Hh]
theorem dX4_copyFrom_0 : decode cX4_copyFrom 0 = .ok (.aload_n 0, 1) := by decide +kernel
theorem dX4_copyFrom_1 : decode cX4_copyFrom 1 = .ok (.aload_n 1, 1) := by decide +kernel
theorem dX4_copyFrom_2 : decode cX4_copyFrom 2 = .ok (.getfield 38, 3) := by decide +kernel
theorem dX4_copyFrom_5 : decode cX4_copyFrom 5 = .ok (.putfield 38, 3) := by decide +kernel
theorem dX4_copyFrom_8 : decode cX4_copyFrom 8 = .ok (.aload_n 0, 1) := by decide +kernel
theorem dX4_copyFrom_9 : decode cX4_copyFrom 9 = .ok (.aload_n 1, 1) := by decide +kernel
theorem dX4_copyFrom_10 : decode cX4_copyFrom 10 = .ok (.getfield 41, 3) := by decide +kernel
theorem dX4_copyFrom_13 : decode cX4_copyFrom 13 = .ok (.putfield 41, 3) := by decide +kernel
theorem dX4_copyFrom_16 : decode cX4_copyFrom 16 = .ok (.aload_n 1, 1) := by decide +kernel
theorem dX4_copyFrom_17 : decode cX4_copyFrom 17 = .ok (.getfield 9, 3) := by decide +kernel
theorem dX4_copyFrom_20 : decode cX4_copyFrom 20 = .ok (.iconst 0, 1) := by decide +kernel
theorem dX4_copyFrom_21 : decode cX4_copyFrom 21 = .ok (.aload_n 0, 1) := by decide +kernel
theorem dX4_copyFrom_22 : decode cX4_copyFrom 22 = .ok (.getfield 9, 3) := by decide +kernel
theorem dX4_copyFrom_25 : decode cX4_copyFrom 25 = .ok (.iconst 0, 1) := by decide +kernel
theorem dX4_copyFrom_26 : decode cX4_copyFrom 26 = .ok (.sipush 144, 3) := by decide +kernel
theorem dX4_copyFrom_29 : decode cX4_copyFrom 29 = .ok (.invokestatic 50, 3) := by decide +kernel
theorem dX4_copyFrom_32 : decode cX4_copyFrom 32 = .ok (.aload_n 1, 1) := by decide +kernel
theorem dX4_copyFrom_33 : decode cX4_copyFrom 33 = .ok (.getfield 15, 3) := by decide +kernel
theorem dX4_copyFrom_36 : decode cX4_copyFrom 36 = .ok (.iconst 0, 1) := by decide +kernel
theorem dX4_copyFrom_37 : decode cX4_copyFrom 37 = .ok (.aload_n 0, 1) := by decide +kernel
theorem dX4_copyFrom_38 : decode cX4_copyFrom 38 = .ok (.getfield 15, 3) := by decide +kernel
theorem dX4_copyFrom_41 : decode cX4_copyFrom 41 = .ok (.iconst 0, 1) := by decide +kernel
theorem dX4_copyFrom_42 : decode cX4_copyFrom 42 = .ok (.iconst 5, 1) := by decide +kernel
theorem dX4_copyFrom_43 : decode cX4_copyFrom 43 = .ok (.invokestatic 50, 3) := by decide +kernel
theorem dX4_copyFrom_46 : decode cX4_copyFrom 46 = .ok (.aload_n 0, 1) := by decide +kernel
theorem dX4_copyFrom_47 : decode cX4_copyFrom 47 = .ok (.aload_n 1, 1) := by decide +kernel
theorem dX4_copyFrom_48 : decode cX4_copyFrom 48 = .ok (.getfield 28, 3) := by decide +kernel
theorem dX4_copyFrom_51 : decode cX4_copyFrom 51 = .ok (.putfield 28, 3) := by decide +kernel
theorem dX4_copyFrom_54 : decode cX4_copyFrom 54 = .ok (.aload_n 0, 1) := by decide +kernel
theorem dX4_copyFrom_55 : decode cX4_copyFrom 55 = .ok (.aload_n 1, 1) := by decide +kernel
theorem dX4_copyFrom_56 : decode cX4_copyFrom 56 = .ok (.getfield 32, 3) := by decide +kernel
theorem dX4_copyFrom_59 : decode cX4_copyFrom 59 = .ok (.putfield 32, 3) := by decide +kernel
theorem dX4_copyFrom_62 : decode cX4_copyFrom 62 = .ok (.aload_n 1, 1) := by decide +kernel
theorem dX4_copyFrom_63 : decode cX4_copyFrom 63 = .ok (.getfield 18, 3) := by decide +kernel
theorem dX4_copyFrom_66 : decode cX4_copyFrom 66 = .ok (.iconst 0, 1) := by decide +kernel
theorem dX4_copyFrom_67 : decode cX4_copyFrom 67 = .ok (.aload_n 0, 1) := by decide +kernel
theorem dX4_copyFrom_68 : decode cX4_copyFrom 68 = .ok (.getfield 18, 3) := by decide +kernel
theorem dX4_copyFrom_71 : decode cX4_copyFrom 71 = .ok (.iconst 0, 1) := by decide +kernel
theorem dX4_copyFrom_72 : decode cX4_copyFrom 72 = .ok (.bipush 6, 2) := by decide +kernel
theorem dX4_copyFrom_74 : decode cX4_copyFrom 74 = .ok (.invokestatic 50, 3) := by decide +kernel
theorem dX4_copyFrom_77 : decode cX4_copyFrom 77 = .ok (.aload_n 0, 1) := by decide +kernel
theorem dX4_copyFrom_78 : decode cX4_copyFrom 78 = .ok (.aload_n 1, 1) := by decide +kernel
theorem dX4_copyFrom_79 : decode cX4_copyFrom 79 = .ok (.getfield 35, 3) := by decide +kernel
theorem dX4_copyFrom_82 : decode cX4_copyFrom 82 = .ok (.putfield 35, 3) := by decide +kernel
theorem dX4_copyFrom_85 : decode cX4_copyFrom 85 = .ok (.return_, 1) := by decide +kernel
theorem c_copyFrom {n c2 r2 n2 le2 li2 : Int} {G2 T2 Hh2 : Int → Int} : Cd l yX4_copyFrom cX4_copyFrom 2 none rmX4_copyFrom [.ref 0, .ref 4] (stA 0 c r G T n le Hh li ++ stA 4 c2 r2 G2 T2 n2 le2 Hh2 li2) none (stA 0 c2 r2 G2 T2 n2 le2 Hh2 li2 ++ stA 4 c2 r2 G2 T2 n2 le2 Hh2 li2) := by
  refine Ct.of miX4_copyFrom (Nat.le_of_ble_eq_true rfl) ?_
  intro X hXl hN ok
  refine AW.cast (L2 := [some (.ref 0), some (.ref 4)]) ?_ rfl rfl rfl
  refine a_aload_n (pc := 0) ok dX4_copyFrom_0 rfl ?_
  refine a_aload_n (pc := 1) ok dX4_copyFrom_1 rfl ?_
  refine a_getf (pc := 2) ok dX4_copyFrom_2 fl4_38 rfl rfl ?_
  refine a_putf (pc := 5) ok dX4_copyFrom_5 fp4_38 rfl (by first | rfl | decide) (by first | rfl | decide) (Nat.le_of_ble_eq_true rfl) ?_
  refine a_aload_n (pc := 8) ok dX4_copyFrom_8 rfl ?_
  refine a_aload_n (pc := 9) ok dX4_copyFrom_9 rfl ?_
  refine a_getf (pc := 10) ok dX4_copyFrom_10 fl4_41 rfl rfl ?_
  refine a_putf (pc := 13) ok dX4_copyFrom_13 fp4_41 rfl (by first | rfl | decide) (by first | rfl | decide) (Nat.le_of_ble_eq_true rfl) ?_
  refine a_aload_n (pc := 16) ok dX4_copyFrom_16 rfl ?_
  refine a_getf (pc := 17) ok dX4_copyFrom_17 fl4_9 rfl rfl ?_
  refine a_iconst (pc := 20) ok dX4_copyFrom_20 ?_
  refine a_aload_n (pc := 21) ok dX4_copyFrom_21 rfl ?_
  refine a_getf (pc := 22) ok dX4_copyFrom_22 fl4_9 rfl rfl ?_
  refine a_iconst (pc := 25) ok dX4_copyFrom_25 ?_
  refine a_sipush (pc := 26) ok dX4_copyFrom_26 (by decide) ?_
  refine a_copy (pc := 29) ok dX4_copyFrom_29 (ug3 22 (by decide +kernel) rfl) ⟨by decide, by decide⟩ (by decide) rfl rfl rfl (by decide) ?_
  refine a_aload_n (pc := 32) ok dX4_copyFrom_32 rfl ?_
  refine a_getf (pc := 33) ok dX4_copyFrom_33 fl4_15 rfl rfl ?_
  refine a_iconst (pc := 36) ok dX4_copyFrom_36 ?_
  refine a_aload_n (pc := 37) ok dX4_copyFrom_37 rfl ?_
  refine a_getf (pc := 38) ok dX4_copyFrom_38 fl4_15 rfl rfl ?_
  refine a_iconst (pc := 41) ok dX4_copyFrom_41 ?_
  refine a_iconst (pc := 42) ok dX4_copyFrom_42 ?_
  refine a_copy (pc := 43) ok dX4_copyFrom_43 (ug3 22 (by decide +kernel) rfl) ⟨by decide, by decide⟩ (by decide) rfl rfl rfl (by decide) ?_
  refine a_aload_n (pc := 46) ok dX4_copyFrom_46 rfl ?_
  refine a_aload_n (pc := 47) ok dX4_copyFrom_47 rfl ?_
  refine a_getf (pc := 48) ok dX4_copyFrom_48 fl4_28 rfl rfl ?_
  refine a_putf (pc := 51) ok dX4_copyFrom_51 fp4_28 rfl (by first | rfl | decide) (by first | rfl | decide) (Nat.le_of_ble_eq_true rfl) ?_
  refine a_aload_n (pc := 54) ok dX4_copyFrom_54 rfl ?_
  refine a_aload_n (pc := 55) ok dX4_copyFrom_55 rfl ?_
  refine a_getf (pc := 56) ok dX4_copyFrom_56 fl4_32 rfl rfl ?_
  refine a_putf (pc := 59) ok dX4_copyFrom_59 fp4_32 rfl (by first | rfl | decide) (by first | rfl | decide) (Nat.le_of_ble_eq_true rfl) ?_
  refine a_aload_n (pc := 62) ok dX4_copyFrom_62 rfl ?_
  refine a_getf (pc := 63) ok dX4_copyFrom_63 fl4_18 rfl rfl ?_
  refine a_iconst (pc := 66) ok dX4_copyFrom_66 ?_
  refine a_aload_n (pc := 67) ok dX4_copyFrom_67 rfl ?_
  refine a_getf (pc := 68) ok dX4_copyFrom_68 fl4_18 rfl rfl ?_
  refine a_iconst (pc := 71) ok dX4_copyFrom_71 ?_
  refine a_bipush (pc := 72) ok dX4_copyFrom_72 (by decide) ?_
  refine a_copy (pc := 74) ok dX4_copyFrom_74 (ug3 22 (by decide +kernel) rfl) ⟨by decide, by decide⟩ (by decide) rfl rfl rfl (by decide) ?_
  refine a_aload_n (pc := 77) ok dX4_copyFrom_77 rfl ?_
  refine a_aload_n (pc := 78) ok dX4_copyFrom_78 rfl ?_
  refine a_getf (pc := 79) ok dX4_copyFrom_79 fl4_35 rfl rfl ?_
  refine a_putf (pc := 82) ok dX4_copyFrom_82 fp4_35 rfl (by first | rfl | decide) (by first | rfl | decide) (Nat.le_of_ble_eq_true rfl) ?_
  exact a_vret (pc := 85) ok dX4_copyFrom_85 (⟨rfl, rfl⟩)
end ST6
