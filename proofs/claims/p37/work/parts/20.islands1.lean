/-! ISLANDS: neighbours, the queue, an island gathered. -/
section IS1
variable {l : Launch} {c r ct : Int} {B F S Br Q Fo No : Int → Int}
abbrev isM (c r m ct : Int) (B F S Br Q Fo No : Int → Int) : List va_E := [ob 0 [iv c, iv r, iv m, iv ct, .ref 1, .ref 2, .ref 3, .ref 4, .ref 5, .ref 6, .ref 7], ia 144 B, ia 144 F, ia 144 S, ia 144 Br, ia 144 Q, ia 144 Fo, ia 144 No]
theorem dX0_neighbour_0 : decode cX0_neighbour 0 = .ok (.iload_n 2, 1) := by decide +kernel
theorem dX0_neighbour_1 : decode cX0_neighbour 1 = .ok (.tableswitch 91 0 2 #[27, 50, 74], 27) := by decide +kernel
theorem dX0_neighbour_28 : decode cX0_neighbour 28 = .ok (.iload_n 1, 1) := by decide +kernel
theorem dX0_neighbour_29 : decode cX0_neighbour 29 = .ok (.aload_n 0, 1) := by decide +kernel
theorem dX0_neighbour_30 : decode cX0_neighbour 30 = .ok (.getfield 9, 3) := by decide +kernel
theorem dX0_neighbour_33 : decode cX0_neighbour 33 = .ok (.irem, 1) := by decide +kernel
theorem dX0_neighbour_34 : decode cX0_neighbour 34 = .ok (.aload_n 0, 1) := by decide +kernel
theorem dX0_neighbour_35 : decode cX0_neighbour 35 = .ok (.getfield 9, 3) := by decide +kernel
theorem dX0_neighbour_38 : decode cX0_neighbour 38 = .ok (.iconst 1, 1) := by decide +kernel
theorem dX0_neighbour_39 : decode cX0_neighbour 39 = .ok (.isub, 1) := by decide +kernel
theorem dX0_neighbour_40 : decode cX0_neighbour 40 = .ok (.if_icmp .ge 9, 3) := by decide +kernel
theorem dX0_neighbour_43 : decode cX0_neighbour 43 = .ok (.iload_n 1, 1) := by decide +kernel
theorem dX0_neighbour_44 : decode cX0_neighbour 44 = .ok (.iconst 1, 1) := by decide +kernel
theorem dX0_neighbour_45 : decode cX0_neighbour 45 = .ok (.iadd, 1) := by decide +kernel
theorem dX0_neighbour_46 : decode cX0_neighbour 46 = .ok (.goto 4, 3) := by decide +kernel
theorem dX0_neighbour_49 : decode cX0_neighbour 49 = .ok (.iconst (-1), 1) := by decide +kernel
theorem dX0_neighbour_50 : decode cX0_neighbour 50 = .ok (.ireturn, 1) := by decide +kernel
theorem dX0_neighbour_51 : decode cX0_neighbour 51 = .ok (.iload_n 1, 1) := by decide +kernel
theorem dX0_neighbour_52 : decode cX0_neighbour 52 = .ok (.aload_n 0, 1) := by decide +kernel
theorem dX0_neighbour_53 : decode cX0_neighbour 53 = .ok (.getfield 9, 3) := by decide +kernel
theorem dX0_neighbour_56 : decode cX0_neighbour 56 = .ok (.iadd, 1) := by decide +kernel
theorem dX0_neighbour_57 : decode cX0_neighbour 57 = .ok (.aload_n 0, 1) := by decide +kernel
theorem dX0_neighbour_58 : decode cX0_neighbour 58 = .ok (.getfield 18, 3) := by decide +kernel
theorem dX0_neighbour_61 : decode cX0_neighbour 61 = .ok (.if_icmp .ge 12, 3) := by decide +kernel
theorem dX0_neighbour_64 : decode cX0_neighbour 64 = .ok (.iload_n 1, 1) := by decide +kernel
theorem dX0_neighbour_65 : decode cX0_neighbour 65 = .ok (.aload_n 0, 1) := by decide +kernel
theorem dX0_neighbour_66 : decode cX0_neighbour 66 = .ok (.getfield 9, 3) := by decide +kernel
theorem dX0_neighbour_69 : decode cX0_neighbour 69 = .ok (.iadd, 1) := by decide +kernel
theorem dX0_neighbour_70 : decode cX0_neighbour 70 = .ok (.goto 4, 3) := by decide +kernel
theorem dX0_neighbour_73 : decode cX0_neighbour 73 = .ok (.iconst (-1), 1) := by decide +kernel
theorem dX0_neighbour_74 : decode cX0_neighbour 74 = .ok (.ireturn, 1) := by decide +kernel
theorem dX0_neighbour_75 : decode cX0_neighbour 75 = .ok (.iload_n 1, 1) := by decide +kernel
theorem dX0_neighbour_76 : decode cX0_neighbour 76 = .ok (.aload_n 0, 1) := by decide +kernel
theorem dX0_neighbour_77 : decode cX0_neighbour 77 = .ok (.getfield 9, 3) := by decide +kernel
theorem dX0_neighbour_80 : decode cX0_neighbour 80 = .ok (.irem, 1) := by decide +kernel
theorem dX0_neighbour_81 : decode cX0_neighbour 81 = .ok (.ifCond .le 9, 3) := by decide +kernel
theorem dX0_neighbour_84 : decode cX0_neighbour 84 = .ok (.iload_n 1, 1) := by decide +kernel
theorem dX0_neighbour_85 : decode cX0_neighbour 85 = .ok (.iconst 1, 1) := by decide +kernel
theorem dX0_neighbour_86 : decode cX0_neighbour 86 = .ok (.isub, 1) := by decide +kernel
theorem dX0_neighbour_87 : decode cX0_neighbour 87 = .ok (.goto 4, 3) := by decide +kernel
theorem dX0_neighbour_90 : decode cX0_neighbour 90 = .ok (.iconst (-1), 1) := by decide +kernel
theorem dX0_neighbour_91 : decode cX0_neighbour 91 = .ok (.ireturn, 1) := by decide +kernel
theorem dX0_neighbour_92 : decode cX0_neighbour 92 = .ok (.iload_n 1, 1) := by decide +kernel
theorem dX0_neighbour_93 : decode cX0_neighbour 93 = .ok (.aload_n 0, 1) := by decide +kernel
theorem dX0_neighbour_94 : decode cX0_neighbour 94 = .ok (.getfield 9, 3) := by decide +kernel
theorem dX0_neighbour_97 : decode cX0_neighbour 97 = .ok (.if_icmp .lt 12, 3) := by decide +kernel
theorem dX0_neighbour_100 : decode cX0_neighbour 100 = .ok (.iload_n 1, 1) := by decide +kernel
theorem dX0_neighbour_101 : decode cX0_neighbour 101 = .ok (.aload_n 0, 1) := by decide +kernel
theorem dX0_neighbour_102 : decode cX0_neighbour 102 = .ok (.getfield 9, 3) := by decide +kernel
theorem dX0_neighbour_105 : decode cX0_neighbour 105 = .ok (.isub, 1) := by decide +kernel
theorem dX0_neighbour_106 : decode cX0_neighbour 106 = .ok (.goto 4, 3) := by decide +kernel
theorem dX0_neighbour_109 : decode cX0_neighbour 109 = .ok (.iconst (-1), 1) := by decide +kernel
theorem dX0_neighbour_110 : decode cX0_neighbour 110 = .ok (.ireturn, 1) := by decide +kernel
theorem c_neighbour {k w : Int} (hd : dim c r) (hk : cel c r k) (hw : 0 ≤ w ∧ w < 4) : Cd l yX0_neighbour cX0_neighbour 3 (some .int) rmX0_neighbour [.ref 0, iv k, iv w] (isM c r (c * r) ct B F S Br Q Fo No) (some (iv (nb c r k w))) (isM c r (c * r) ct B F S Br Q Fo No) := by
  refine Ct.of miX0_neighbour (Nat.le_of_ble_eq_true rfl) ?_
  intro X hXl hN ok
  refine AW.cast (L2 := [some (.ref 0), some (iv k), some (iv w)]) ?_ rfl rfl rfl
  have h := dim_k hd hk
  have hc := dim_cells hd
  obtain ⟨hk1, hk2⟩ := hk
  have hq := dim_x hd (x := 0) (y := k / c) ⟨h.2.2.1, h.2.2.2.1⟩
  obtain ⟨d1, d2, d3, d4⟩ := id hd
  have s1 : k + c < c * r ↔ k / c < r - 1 := by
    constructor
    · intro z
      rcases Int.lt_or_le (k / c) (r - 1) with y | y
      · exact y
      · have e : k / c = r - 1 := by omega
        rw [e, Int.sub_mul, Int.mul_comm r c] at h; omega
    · intro z; have := hq.2.1 z; omega
  have s3 : c ≤ k ↔ 0 < k / c := by
    constructor
    · intro z
      rcases Int.lt_or_le 0 (k / c) with y | y
      · exact y
      · have e : k / c = 0 := by omega
        rw [e] at h; omega
    · intro z; have := hq.1 z; omega
  refine a_iload_n (pc := 0) ok dX0_neighbour_0 rfl ?_
  refine a_tab (pc := 1) (dt := 92) ok [28, 51, 75] dX0_neighbour_1 (by decide) (by decide) (by decide) (by first | omega | (unfold rg; omega) | (simp only [rg] at *; omega) | exact bz_rg _ | grind [rg]) (fun j1 hj1 c1 => ?_) (fun c1 => ?_)
  · rcases (show j1 = 0 ∨ j1 = 1 ∨ j1 = 2 by simp only [List.length_cons, List.length_nil] at hj1; omega) with rfl | rfl | rfl
    · refine a_iload_n (pc := 28) ok dX0_neighbour_28 rfl ?_
      refine a_aload_n (pc := 29) ok dX0_neighbour_29 rfl ?_
      refine a_getf (pc := 30) ok dX0_neighbour_30 fl0_9 rfl rfl ?_
      refine a_irem (pc := 33) ok dX0_neighbour_33 (by first | omega | (unfold rg; omega) | (simp only [rg] at *; omega) | exact bz_rg _ | grind [rg]) (by first | omega | (unfold rg; omega) | (simp only [rg] at *; omega) | exact bz_rg _ | grind [rg]) ?_
      refine a_aload_n (pc := 34) ok dX0_neighbour_34 rfl ?_
      refine a_getf (pc := 35) ok dX0_neighbour_35 fl0_9 rfl rfl ?_
      refine a_iconst (pc := 38) ok dX0_neighbour_38 ?_
      refine a_isub (pc := 39) ok dX0_neighbour_39 ?_
      refine a_icmp_ge (pc := 40) (tgt := 49) ok dX0_neighbour_40 (by decide) (by first | omega | (unfold rg; omega) | (simp only [rg] at *; omega) | exact bz_rg _ | grind [rg]) (by first | omega | (unfold rg; omega) | (simp only [rg] at *; omega) | exact bz_rg _ | grind [rg]) (fun c40 => ?_) (fun c40 => ?_)
      · refine a_iconst (pc := 49) ok dX0_neighbour_49 ?_
        exact a_iret (pc := 50) ok dX0_neighbour_50 (⟨by unfold nb; rw [if_pos (by omega)]; first | rw [if_pos (by omega)] | rw [if_neg (by omega)], rfl⟩)
      · refine a_iload_n (pc := 43) ok dX0_neighbour_43 rfl ?_
        refine a_iconst (pc := 44) ok dX0_neighbour_44 ?_
        refine a_iadd (pc := 45) ok dX0_neighbour_45 ?_
        refine a_goto (pc := 46) (tgt := 50) ok dX0_neighbour_46 (by decide) ?_
        exact a_iret (pc := 50) ok dX0_neighbour_50 (⟨by unfold nb; rw [if_pos (by omega)]; first | rw [if_pos (by omega)] | rw [if_neg (by omega)], rfl⟩)
    · refine a_iload_n (pc := 51) ok dX0_neighbour_51 rfl ?_
      refine a_aload_n (pc := 52) ok dX0_neighbour_52 rfl ?_
      refine a_getf (pc := 53) ok dX0_neighbour_53 fl0_9 rfl rfl ?_
      refine a_iadd (pc := 56) ok dX0_neighbour_56 ?_
      refine a_aload_n (pc := 57) ok dX0_neighbour_57 rfl ?_
      refine a_getf (pc := 58) ok dX0_neighbour_58 fl0_18 rfl rfl ?_
      refine a_icmp_ge (pc := 61) (tgt := 73) ok dX0_neighbour_61 (by decide) (by first | omega | (unfold rg; omega) | (simp only [rg] at *; omega) | exact bz_rg _ | grind [rg]) (by first | omega | (unfold rg; omega) | (simp only [rg] at *; omega) | exact bz_rg _ | grind [rg]) (fun c61 => ?_) (fun c61 => ?_)
      · refine a_iconst (pc := 73) ok dX0_neighbour_73 ?_
        exact a_iret (pc := 74) ok dX0_neighbour_74 (⟨by unfold nb; rw [if_neg (by omega), if_pos (by omega)]; first | rw [if_pos (by omega)] | rw [if_neg (by omega)], rfl⟩)
      · refine a_iload_n (pc := 64) ok dX0_neighbour_64 rfl ?_
        refine a_aload_n (pc := 65) ok dX0_neighbour_65 rfl ?_
        refine a_getf (pc := 66) ok dX0_neighbour_66 fl0_9 rfl rfl ?_
        refine a_iadd (pc := 69) ok dX0_neighbour_69 ?_
        refine a_goto (pc := 70) (tgt := 74) ok dX0_neighbour_70 (by decide) ?_
        exact a_iret (pc := 74) ok dX0_neighbour_74 (⟨by unfold nb; rw [if_neg (by omega), if_pos (by omega)]; first | rw [if_pos (by omega)] | rw [if_neg (by omega)], rfl⟩)
    · refine a_iload_n (pc := 75) ok dX0_neighbour_75 rfl ?_
      refine a_aload_n (pc := 76) ok dX0_neighbour_76 rfl ?_
      refine a_getf (pc := 77) ok dX0_neighbour_77 fl0_9 rfl rfl ?_
      refine a_irem (pc := 80) ok dX0_neighbour_80 (by first | omega | (unfold rg; omega) | (simp only [rg] at *; omega) | exact bz_rg _ | grind [rg]) (by first | omega | (unfold rg; omega) | (simp only [rg] at *; omega) | exact bz_rg _ | grind [rg]) ?_
      refine a_if_le (pc := 81) (tgt := 90) ok dX0_neighbour_81 (by decide) (by first | omega | (unfold rg; omega) | (simp only [rg] at *; omega) | exact bz_rg _ | grind [rg]) (fun c81 => ?_) (fun c81 => ?_)
      · refine a_iconst (pc := 90) ok dX0_neighbour_90 ?_
        exact a_iret (pc := 91) ok dX0_neighbour_91 (⟨by unfold nb; rw [if_neg (by omega), if_neg (by omega), if_pos (by omega)]; first | rw [if_pos (by omega)] | rw [if_neg (by omega)], rfl⟩)
      · refine a_iload_n (pc := 84) ok dX0_neighbour_84 rfl ?_
        refine a_iconst (pc := 85) ok dX0_neighbour_85 ?_
        refine a_isub (pc := 86) ok dX0_neighbour_86 ?_
        refine a_goto (pc := 87) (tgt := 91) ok dX0_neighbour_87 (by decide) ?_
        exact a_iret (pc := 91) ok dX0_neighbour_91 (⟨by unfold nb; rw [if_neg (by omega), if_neg (by omega), if_pos (by omega)]; first | rw [if_pos (by omega)] | rw [if_neg (by omega)], rfl⟩)
  · refine a_iload_n (pc := 92) ok dX0_neighbour_92 rfl ?_
    refine a_aload_n (pc := 93) ok dX0_neighbour_93 rfl ?_
    refine a_getf (pc := 94) ok dX0_neighbour_94 fl0_9 rfl rfl ?_
    refine a_icmp_lt (pc := 97) (tgt := 109) ok dX0_neighbour_97 (by decide) (by first | omega | (unfold rg; omega) | (simp only [rg] at *; omega) | exact bz_rg _ | grind [rg]) (by first | omega | (unfold rg; omega) | (simp only [rg] at *; omega) | exact bz_rg _ | grind [rg]) (fun c97 => ?_) (fun c97 => ?_)
    · refine a_iconst (pc := 109) ok dX0_neighbour_109 ?_
      exact a_iret (pc := 110) ok dX0_neighbour_110 (⟨by unfold nb; rw [if_neg (by omega), if_neg (by omega), if_neg (by omega)]; first | rw [if_pos (by omega)] | rw [if_neg (by omega)], rfl⟩)
    · refine a_iload_n (pc := 100) ok dX0_neighbour_100 rfl ?_
      refine a_aload_n (pc := 101) ok dX0_neighbour_101 rfl ?_
      refine a_getf (pc := 102) ok dX0_neighbour_102 fl0_9 rfl rfl ?_
      refine a_isub (pc := 105) ok dX0_neighbour_105 ?_
      refine a_goto (pc := 106) (tgt := 110) ok dX0_neighbour_106 (by decide) ?_
      exact a_iret (pc := 110) ok dX0_neighbour_110 (⟨by unfold nb; rw [if_neg (by omega), if_neg (by omega), if_neg (by omega)]; first | rw [if_pos (by omega)] | rw [if_neg (by omega)], rfl⟩)
theorem dX0_enqueue_0 : decode cX0_enqueue 0 = .ok (.iload_n 2, 1) := by decide +kernel
theorem dX0_enqueue_1 : decode cX0_enqueue 1 = .ok (.sipush 144, 3) := by decide +kernel
theorem dX0_enqueue_4 : decode cX0_enqueue 4 = .ok (.if_icmp .lt 5, 3) := by decide +kernel
theorem dX0_enqueue_7 : decode cX0_enqueue 7 = .ok (.iload_n 2, 1) := by decide +kernel
theorem dX0_enqueue_8 : decode cX0_enqueue 8 = .ok (.ireturn, 1) := by decide +kernel
theorem dX0_enqueue_9 : decode cX0_enqueue 9 = .ok (.aload_n 0, 1) := by decide +kernel
theorem dX0_enqueue_10 : decode cX0_enqueue 10 = .ok (.getfield 28, 3) := by decide +kernel
theorem dX0_enqueue_13 : decode cX0_enqueue 13 = .ok (.iload_n 1, 1) := by decide +kernel
theorem dX0_enqueue_14 : decode cX0_enqueue 14 = .ok (.iaload, 1) := by decide +kernel
theorem dX0_enqueue_15 : decode cX0_enqueue 15 = .ok (.iload_n 1, 1) := by decide +kernel
theorem dX0_enqueue_16 : decode cX0_enqueue 16 = .ok (.if_icmp .ne 13, 3) := by decide +kernel
theorem dX0_enqueue_19 : decode cX0_enqueue 19 = .ok (.aload_n 0, 1) := by decide +kernel
theorem dX0_enqueue_20 : decode cX0_enqueue 20 = .ok (.dup, 1) := by decide +kernel
theorem dX0_enqueue_21 : decode cX0_enqueue 21 = .ok (.getfield 21, 3) := by decide +kernel
theorem dX0_enqueue_24 : decode cX0_enqueue 24 = .ok (.iconst 1, 1) := by decide +kernel
theorem dX0_enqueue_25 : decode cX0_enqueue 25 = .ok (.isub, 1) := by decide +kernel
theorem dX0_enqueue_26 : decode cX0_enqueue 26 = .ok (.putfield 21, 3) := by decide +kernel
theorem dX0_enqueue_29 : decode cX0_enqueue 29 = .ok (.aload_n 0, 1) := by decide +kernel
theorem dX0_enqueue_30 : decode cX0_enqueue 30 = .ok (.getfield 28, 3) := by decide +kernel
theorem dX0_enqueue_33 : decode cX0_enqueue 33 = .ok (.iload_n 1, 1) := by decide +kernel
theorem dX0_enqueue_34 : decode cX0_enqueue 34 = .ok (.bipush (-2), 2) := by decide +kernel
theorem dX0_enqueue_36 : decode cX0_enqueue 36 = .ok (.iastore, 1) := by decide +kernel
theorem dX0_enqueue_37 : decode cX0_enqueue 37 = .ok (.aload_n 0, 1) := by decide +kernel
theorem dX0_enqueue_38 : decode cX0_enqueue 38 = .ok (.getfield 37, 3) := by decide +kernel
theorem dX0_enqueue_41 : decode cX0_enqueue 41 = .ok (.iload_n 2, 1) := by decide +kernel
theorem dX0_enqueue_42 : decode cX0_enqueue 42 = .ok (.iload_n 1, 1) := by decide +kernel
theorem dX0_enqueue_43 : decode cX0_enqueue 43 = .ok (.iastore, 1) := by decide +kernel
theorem dX0_enqueue_44 : decode cX0_enqueue 44 = .ok (.iload_n 2, 1) := by decide +kernel
theorem dX0_enqueue_45 : decode cX0_enqueue 45 = .ok (.iconst 1, 1) := by decide +kernel
theorem dX0_enqueue_46 : decode cX0_enqueue 46 = .ok (.iadd, 1) := by decide +kernel
theorem dX0_enqueue_47 : decode cX0_enqueue 47 = .ok (.ireturn, 1) := by decide +kernel
theorem c_enqueue {m k e : Int} (hk : 0 ≤ k ∧ k < 144) (he : 0 ≤ e ∧ e < 144) (hF : rg (F k)) : Cd l yX0_enqueue cX0_enqueue 3 (some .int) rmX0_enqueue [.ref 0, iv k, iv e] (isM c r m ct B F S Br Q Fo No) (some (iv (e + 1))) (isM c r m (ct - if F k = k then 1 else 0) B (up F k (-2)) S Br (up Q e k) Fo No) := by
  refine Ct.of miX0_enqueue (Nat.le_of_ble_eq_true rfl) ?_
  intro X hXl hN ok
  refine AW.cast (L2 := [some (.ref 0), some (iv k), some (iv e)]) ?_ rfl rfl rfl
  refine a_iload_n (pc := 0) ok dX0_enqueue_0 rfl ?_
  refine a_sipush (pc := 1) ok dX0_enqueue_1 (by decide) ?_
  refine a_icmp_lt (pc := 4) (tgt := 9) ok dX0_enqueue_4 (by decide) (by first | omega | (unfold rg; omega) | (simp only [rg] at *; omega) | exact bz_rg _ | grind [rg]) (by first | omega | (unfold rg; omega) | (simp only [rg] at *; omega) | exact bz_rg _ | grind [rg]) (fun c4 => ?_) (fun c4 => ?_)
  · refine a_aload_n (pc := 9) ok dX0_enqueue_9 rfl ?_
    refine a_getf (pc := 10) ok dX0_enqueue_10 fl0_28 rfl rfl ?_
    refine a_iload_n (pc := 13) ok dX0_enqueue_13 rfl ?_
    refine a_iald (pc := 14) ok dX0_enqueue_14 rfl (by first | decide | omega) (by first | omega | (unfold rg; omega) | (simp only [rg] at *; omega) | exact bz_rg _ | grind [rg]) ?_
    refine a_iload_n (pc := 15) ok dX0_enqueue_15 rfl ?_
    refine a_icmp_ne (pc := 16) (tgt := 29) ok dX0_enqueue_16 (by decide) (by first | omega | (unfold rg; omega) | (simp only [rg] at *; omega) | exact bz_rg _ | grind [rg]) (by first | omega | (unfold rg; omega) | (simp only [rg] at *; omega) | exact bz_rg _ | grind [rg]) (fun c16 => ?_) (fun c16 => ?_)
    · refine a_aload_n (pc := 29) ok dX0_enqueue_29 rfl ?_
      refine a_getf (pc := 30) ok dX0_enqueue_30 fl0_28 rfl rfl ?_
      refine a_iload_n (pc := 33) ok dX0_enqueue_33 rfl ?_
      refine a_bipush (pc := 34) ok dX0_enqueue_34 (by decide) ?_
      refine a_iast (pc := 36) ok dX0_enqueue_36 rfl (by first | decide | omega) (by first | omega | (unfold rg; omega) | (simp only [rg] at *; omega) | exact bz_rg _ | grind [rg]) ?_
      refine a_aload_n (pc := 37) ok dX0_enqueue_37 rfl ?_
      refine a_getf (pc := 38) ok dX0_enqueue_38 fl0_37 rfl rfl ?_
      refine a_iload_n (pc := 41) ok dX0_enqueue_41 rfl ?_
      refine a_iload_n (pc := 42) ok dX0_enqueue_42 rfl ?_
      refine a_iast (pc := 43) ok dX0_enqueue_43 rfl (by first | decide | omega) (by first | omega | (unfold rg; omega) | (simp only [rg] at *; omega) | exact bz_rg _ | grind [rg]) ?_
      refine a_iload_n (pc := 44) ok dX0_enqueue_44 rfl ?_
      refine a_iconst (pc := 45) ok dX0_enqueue_45 ?_
      refine a_iadd (pc := 46) ok dX0_enqueue_46 ?_
      exact a_iret (pc := 47) ok dX0_enqueue_47 (⟨rfl, by first | (rw [if_pos (by omega)] <;> rfl) | (rw [if_neg (by omega), Int.sub_zero] <;> rfl)⟩)
    · refine a_aload_n (pc := 19) ok dX0_enqueue_19 rfl ?_
      refine a_dup (pc := 20) ok dX0_enqueue_20 rfl ?_
      refine a_getf (pc := 21) ok dX0_enqueue_21 fl0_21 rfl rfl ?_
      refine a_iconst (pc := 24) ok dX0_enqueue_24 ?_
      refine a_isub (pc := 25) ok dX0_enqueue_25 ?_
      refine a_putf (pc := 26) ok dX0_enqueue_26 fp0_21 rfl (by first | rfl | decide) (by first | rfl | decide) (Nat.le_of_ble_eq_true rfl) ?_
      refine a_aload_n (pc := 29) ok dX0_enqueue_29 rfl ?_
      refine a_getf (pc := 30) ok dX0_enqueue_30 fl0_28 rfl rfl ?_
      refine a_iload_n (pc := 33) ok dX0_enqueue_33 rfl ?_
      refine a_bipush (pc := 34) ok dX0_enqueue_34 (by decide) ?_
      refine a_iast (pc := 36) ok dX0_enqueue_36 rfl (by first | decide | omega) (by first | omega | (unfold rg; omega) | (simp only [rg] at *; omega) | exact bz_rg _ | grind [rg]) ?_
      refine a_aload_n (pc := 37) ok dX0_enqueue_37 rfl ?_
      refine a_getf (pc := 38) ok dX0_enqueue_38 fl0_37 rfl rfl ?_
      refine a_iload_n (pc := 41) ok dX0_enqueue_41 rfl ?_
      refine a_iload_n (pc := 42) ok dX0_enqueue_42 rfl ?_
      refine a_iast (pc := 43) ok dX0_enqueue_43 rfl (by first | decide | omega) (by first | omega | (unfold rg; omega) | (simp only [rg] at *; omega) | exact bz_rg _ | grind [rg]) ?_
      refine a_iload_n (pc := 44) ok dX0_enqueue_44 rfl ?_
      refine a_iconst (pc := 45) ok dX0_enqueue_45 ?_
      refine a_iadd (pc := 46) ok dX0_enqueue_46 ?_
      exact a_iret (pc := 47) ok dX0_enqueue_47 (⟨rfl, by first | (rw [if_pos (by omega)] <;> rfl) | (rw [if_neg (by omega), Int.sub_zero] <;> rfl)⟩)
  · exfalso; first | omega | grind
theorem dX0_gather_0 : decode cX0_gather 0 = .ok (.aload_n 0, 1) := by decide +kernel
theorem dX0_gather_1 : decode cX0_gather 1 = .ok (.getfield 24, 3) := by decide +kernel
theorem dX0_gather_4 : decode cX0_gather 4 = .ok (.iload_n 1, 1) := by decide +kernel
theorem dX0_gather_5 : decode cX0_gather 5 = .ok (.iaload, 1) := by decide +kernel
theorem dX0_gather_6 : decode cX0_gather 6 = .ok (.istore_n 2, 1) := by decide +kernel
theorem dX0_gather_7 : decode cX0_gather 7 = .ok (.iload_n 1, 1) := by decide +kernel
theorem dX0_gather_8 : decode cX0_gather 8 = .ok (.istore_n 3, 1) := by decide +kernel
theorem dX0_gather_9 : decode cX0_gather 9 = .ok (.aload_n 0, 1) := by decide +kernel
theorem dX0_gather_10 : decode cX0_gather 10 = .ok (.iload_n 1, 1) := by decide +kernel
theorem dX0_gather_11 : decode cX0_gather 11 = .ok (.iconst 0, 1) := by decide +kernel
theorem dX0_gather_12 : decode cX0_gather 12 = .ok (.invokevirtual 99, 3) := by decide +kernel
theorem dX0_gather_15 : decode cX0_gather 15 = .ok (.istore 4, 2) := by decide +kernel
theorem dX0_gather_17 : decode cX0_gather 17 = .ok (.iconst 0, 1) := by decide +kernel
theorem dX0_gather_18 : decode cX0_gather 18 = .ok (.istore 5, 2) := by decide +kernel
theorem dX0_gather_20 : decode cX0_gather 20 = .ok (.iload 5, 2) := by decide +kernel
theorem dX0_gather_22 : decode cX0_gather 22 = .ok (.iload 4, 2) := by decide +kernel
theorem dX0_gather_24 : decode cX0_gather 24 = .ok (.if_icmp .ge 97, 3) := by decide +kernel
theorem dX0_gather_27 : decode cX0_gather 27 = .ok (.iload 5, 2) := by decide +kernel
theorem dX0_gather_29 : decode cX0_gather 29 = .ok (.sipush 144, 3) := by decide +kernel
theorem dX0_gather_32 : decode cX0_gather 32 = .ok (.if_icmp .ge 89, 3) := by decide +kernel
theorem dX0_gather_35 : decode cX0_gather 35 = .ok (.aload_n 0, 1) := by decide +kernel
theorem dX0_gather_36 : decode cX0_gather 36 = .ok (.getfield 37, 3) := by decide +kernel
theorem dX0_gather_39 : decode cX0_gather 39 = .ok (.iload 5, 2) := by decide +kernel
theorem dX0_gather_41 : decode cX0_gather 41 = .ok (.iaload, 1) := by decide +kernel
theorem dX0_gather_42 : decode cX0_gather 42 = .ok (.istore 6, 2) := by decide +kernel
theorem dX0_gather_44 : decode cX0_gather 44 = .ok (.iload_n 3, 1) := by decide +kernel
theorem dX0_gather_45 : decode cX0_gather 45 = .ok (.iload 6, 2) := by decide +kernel
theorem dX0_gather_47 : decode cX0_gather 47 = .ok (.invokestatic 102, 3) := by decide +kernel
theorem dX0_gather_50 : decode cX0_gather 50 = .ok (.istore_n 3, 1) := by decide +kernel
theorem dX0_gather_51 : decode cX0_gather 51 = .ok (.iconst 0, 1) := by decide +kernel
theorem dX0_gather_52 : decode cX0_gather 52 = .ok (.istore 7, 2) := by decide +kernel
theorem dX0_gather_54 : decode cX0_gather 54 = .ok (.iload 7, 2) := by decide +kernel
theorem dX0_gather_56 : decode cX0_gather 56 = .ok (.iconst 4, 1) := by decide +kernel
theorem dX0_gather_57 : decode cX0_gather 57 = .ok (.if_icmp .ge 58, 3) := by decide +kernel
theorem dX0_gather_60 : decode cX0_gather 60 = .ok (.aload_n 0, 1) := by decide +kernel
theorem dX0_gather_61 : decode cX0_gather 61 = .ok (.iload 6, 2) := by decide +kernel
theorem dX0_gather_63 : decode cX0_gather 63 = .ok (.iload 7, 2) := by decide +kernel
theorem dX0_gather_65 : decode cX0_gather 65 = .ok (.invokevirtual 95, 3) := by decide +kernel
theorem dX0_gather_68 : decode cX0_gather 68 = .ok (.istore 8, 2) := by decide +kernel
theorem dX0_gather_70 : decode cX0_gather 70 = .ok (.iload 8, 2) := by decide +kernel
theorem dX0_gather_72 : decode cX0_gather 72 = .ok (.iconst (-1), 1) := by decide +kernel
theorem dX0_gather_73 : decode cX0_gather 73 = .ok (.if_icmp .eq 36, 3) := by decide +kernel
theorem dX0_gather_76 : decode cX0_gather 76 = .ok (.aload_n 0, 1) := by decide +kernel
theorem dX0_gather_77 : decode cX0_gather 77 = .ok (.getfield 24, 3) := by decide +kernel
theorem dX0_gather_80 : decode cX0_gather 80 = .ok (.iload 8, 2) := by decide +kernel
theorem dX0_gather_82 : decode cX0_gather 82 = .ok (.iaload, 1) := by decide +kernel
theorem dX0_gather_83 : decode cX0_gather 83 = .ok (.iload_n 2, 1) := by decide +kernel
theorem dX0_gather_84 : decode cX0_gather 84 = .ok (.if_icmp .ne 25, 3) := by decide +kernel
theorem dX0_gather_87 : decode cX0_gather 87 = .ok (.aload_n 0, 1) := by decide +kernel
theorem dX0_gather_88 : decode cX0_gather 88 = .ok (.getfield 28, 3) := by decide +kernel
theorem dX0_gather_91 : decode cX0_gather 91 = .ok (.iload 8, 2) := by decide +kernel
theorem dX0_gather_93 : decode cX0_gather 93 = .ok (.iaload, 1) := by decide +kernel
theorem dX0_gather_94 : decode cX0_gather 94 = .ok (.bipush (-2), 2) := by decide +kernel
theorem dX0_gather_96 : decode cX0_gather 96 = .ok (.if_icmp .eq 13, 3) := by decide +kernel
theorem dX0_gather_99 : decode cX0_gather 99 = .ok (.aload_n 0, 1) := by decide +kernel
theorem dX0_gather_100 : decode cX0_gather 100 = .ok (.iload 8, 2) := by decide +kernel
theorem dX0_gather_102 : decode cX0_gather 102 = .ok (.iload 4, 2) := by decide +kernel
theorem dX0_gather_104 : decode cX0_gather 104 = .ok (.invokevirtual 99, 3) := by decide +kernel
theorem dX0_gather_107 : decode cX0_gather 107 = .ok (.istore 4, 2) := by decide +kernel
theorem dX0_gather_109 : decode cX0_gather 109 = .ok (.iinc 7 1, 3) := by decide +kernel
theorem dX0_gather_112 : decode cX0_gather 112 = .ok (.goto (-58), 3) := by decide +kernel
theorem dX0_gather_115 : decode cX0_gather 115 = .ok (.iinc 5 1, 3) := by decide +kernel
theorem dX0_gather_118 : decode cX0_gather 118 = .ok (.goto (-98), 3) := by decide +kernel
theorem dX0_gather_121 : decode cX0_gather 121 = .ok (.iconst 0, 1) := by decide +kernel
theorem dX0_gather_122 : decode cX0_gather 122 = .ok (.istore 5, 2) := by decide +kernel
theorem dX0_gather_124 : decode cX0_gather 124 = .ok (.iload 5, 2) := by decide +kernel
theorem dX0_gather_126 : decode cX0_gather 126 = .ok (.iload 4, 2) := by decide +kernel
theorem dX0_gather_128 : decode cX0_gather 128 = .ok (.if_icmp .ge 22, 3) := by decide +kernel
theorem dX0_gather_131 : decode cX0_gather 131 = .ok (.aload_n 0, 1) := by decide +kernel
theorem dX0_gather_132 : decode cX0_gather 132 = .ok (.getfield 28, 3) := by decide +kernel
theorem dX0_gather_135 : decode cX0_gather 135 = .ok (.aload_n 0, 1) := by decide +kernel
theorem dX0_gather_136 : decode cX0_gather 136 = .ok (.getfield 37, 3) := by decide +kernel
theorem dX0_gather_139 : decode cX0_gather 139 = .ok (.iload 5, 2) := by decide +kernel
theorem dX0_gather_141 : decode cX0_gather 141 = .ok (.iaload, 1) := by decide +kernel
theorem dX0_gather_142 : decode cX0_gather 142 = .ok (.iload_n 3, 1) := by decide +kernel
theorem dX0_gather_143 : decode cX0_gather 143 = .ok (.iastore, 1) := by decide +kernel
theorem dX0_gather_144 : decode cX0_gather 144 = .ok (.iinc 5 1, 3) := by decide +kernel
theorem dX0_gather_147 : decode cX0_gather 147 = .ok (.goto (-23), 3) := by decide +kernel
theorem dX0_gather_150 : decode cX0_gather 150 = .ok (.aload_n 0, 1) := by decide +kernel
theorem dX0_gather_151 : decode cX0_gather 151 = .ok (.getfield 31, 3) := by decide +kernel
theorem dX0_gather_154 : decode cX0_gather 154 = .ok (.iload_n 3, 1) := by decide +kernel
theorem dX0_gather_155 : decode cX0_gather 155 = .ok (.iload 4, 2) := by decide +kernel
theorem dX0_gather_157 : decode cX0_gather 157 = .ok (.iastore, 1) := by decide +kernel
theorem dX0_gather_158 : decode cX0_gather 158 = .ok (.aload_n 0, 1) := by decide +kernel
theorem dX0_gather_159 : decode cX0_gather 159 = .ok (.dup, 1) := by decide +kernel
theorem dX0_gather_160 : decode cX0_gather 160 = .ok (.getfield 21, 3) := by decide +kernel
theorem dX0_gather_163 : decode cX0_gather 163 = .ok (.iconst 1, 1) := by decide +kernel
theorem dX0_gather_164 : decode cX0_gather 164 = .ok (.iadd, 1) := by decide +kernel
theorem dX0_gather_165 : decode cX0_gather 165 = .ok (.putfield 21, 3) := by decide +kernel
theorem dX0_gather_168 : decode cX0_gather 168 = .ok (.return_, 1) := by decide +kernel
theorem c_gather {s : Int} (hd : dim c r) (hs : cel c r s) (hB : ∀ i, rg (B i)) (hF : ∀ i, rg (F i)) (hF2 : ∀ j, cel c r j → F j ≠ -2) : Ct l yX0_gather cX0_gather 9 none rmX0_gather [.ref 0, iv s] (isM c r (c * r) ct B F S Br Q Fo No)
    (fun v M => v = none ∧ ∃ Q' : Int → Int, M = isM c r (c * r) (ct - cntK (fun j => tr (con (EB c r B) s j ∧ F j = j)) (c * r).toNat + 1) B (mkF F (con (EB c r B) s) (lw c r B s)) (up S (lw c r B s) (cntK (fun j => tr (con (EB c r B) s j)) (c * r).toNat)) Br Q' Fo No) := by
  refine Ct.of miX0_gather (Nat.le_of_ble_eq_true rfl) ?_
  intro X hXl hN ok
  refine AW.cast (L2 := [some (.ref 0), some (iv s), none, none, none, none, none, none, none]) ?_ rfl rfl rfl
  have hc := dim_cells hd
  have hNc : ∀ b, cel c r b → 0 ≤ b ∧ b < (((c * r).toNat : Nat) : Int) := fun b hb => cel_N hd hb
  have hcn : ∀ b, con (EB c r B) s b → cel c r b := fun b hb => con_cel hd hs hb
  have hs1 := hs.1
  have hs2 := hs.2
  have hrF : ∀ (mk : Int → Prop) j, rg (mkF F mk (-2) j) := fun mk j => by
    by_cases h : mk j
    · rw [mkF_t h]; unfold rg; omega
    · rw [mkF_f h]; exact hF j
  have loop3 : ∀ q : (Int → Prop) × (Int → Int) × Int × Int × Nat, (BI (EB c r B) (c * r).toNat s q.1 q.2.1 q.2.2.1 ∧ (∀ j, q.1 j ↔ con (EB c r B) s j) ∧ q.2.2.2.1 = lw c r B s ∧ q.2.2.2.2 ≤ q.2.2.1) →
      AW X 0 0 124 [some (.ref 0), some (iv s), some (iv (B s)), some (iv q.2.2.2.1), some (iv q.2.2.1), some (iv q.2.2.2.2), none, none, none] [] (isM c r (c * r) (ct - cntK (fun j => tr (q.1 j ∧ F j = j)) (c * r).toNat) B (mkF (mkF F q.1 (-2)) (fun j => ∃ i, 0 ≤ i ∧ i < (q.2.2.2.2 : Int) ∧ q.2.1 i = j) (lw c r B s)) S Br q.2.1 Fo No) := by
    refine wfl (fun q : (Int → Prop) × (Int → Int) × Int × Int × Nat => 145 - q.2.2.2.2) _ _ ?_
    rintro ⟨mk, Qf, had, lo, k⟩ ⟨h1, h2, h3, h4⟩ ih
    dsimp only at h1 h2 h3 h4 ih ⊢
    have hl := (lw_ok (B := B) hd hs).1
    have hl1 := hl.1
    have hl2 := hl.2
    have h0 := BI_0 h1
    have hQk : (k : Int) < had → 0 ≤ Qf k ∧ Qf k < 144 := fun z => by have := hcn _ ((h2 _).mp (h1.2.2.1 k (by omega) z)); have a := this.1; have b := this.2; omega
    refine a_iload (pc := 124) ok dX0_gather_124 rfl ?_
    refine a_iload (pc := 126) ok dX0_gather_126 rfl ?_
    refine a_icmp_ge (pc := 128) (tgt := 150) ok dX0_gather_128 (by decide) (by first | omega | (unfold rg; omega) | (simp only [rg] at *; omega) | exact bz_rg _ | grind [rg]) (by first | omega | (unfold rg; omega) | (simp only [rg] at *; omega) | exact bz_rg _ | grind [rg]) (fun c128 => ?_) (fun c128 => ?_)
    · have ek : (k : Int) = had := by omega
      have e1 : mkF (mkF F mk (-2)) (fun j => ∃ i, 0 ≤ i ∧ i < (k : Int) ∧ Qf i = j) (lw c r B s) = mkF F (con (EB c r B) s) (lw c r B s) := by
        funext j
        by_cases z : con (EB c r B) s j
        · rw [mkF_t z, mkF_t (by rw [ek]; exact h1.2.2.2.1 j ((h2 j).mpr z))]
        · rw [mkF_f z, mkF_f (fun ⟨i, a1, a2, a3⟩ => z ((h2 j).mp (a3 ▸ h1.2.2.1 i a1 (by omega)))), mkF_f (fun y => z ((h2 j).mp y))]
      have e2 : cntK (fun j => tr (mk j ∧ F j = j)) (c * r).toNat = cntK (fun j => tr (con (EB c r B) s j ∧ F j = j)) (c * r).toNat := cntK_congr _ fun j _ => tr_iff (and_congr (h2 j) Iff.rfl)
      have e3 : had = cntK (fun j => tr (con (EB c r B) s j)) (c * r).toNat := h1.2.2.2.2.trans (cntK_congr _ fun j _ => tr_iff (h2 j))
      subst h3
      refine a_aload_n (pc := 150) ok dX0_gather_150 rfl ?_
      refine a_getf (pc := 151) ok dX0_gather_151 fl0_31 rfl rfl ?_
      refine a_iload_n (pc := 154) ok dX0_gather_154 rfl ?_
      refine a_iload (pc := 155) ok dX0_gather_155 rfl ?_
      refine a_iast (pc := 157) ok dX0_gather_157 rfl (by first | decide | omega) (by first | omega | (unfold rg; omega) | (simp only [rg] at *; omega) | exact bz_rg _ | grind [rg]) ?_
      refine a_aload_n (pc := 158) ok dX0_gather_158 rfl ?_
      refine a_dup (pc := 159) ok dX0_gather_159 rfl ?_
      refine a_getf (pc := 160) ok dX0_gather_160 fl0_21 rfl rfl ?_
      refine a_iconst (pc := 163) ok dX0_gather_163 ?_
      refine a_iadd (pc := 164) ok dX0_gather_164 ?_
      refine a_putf (pc := 165) ok dX0_gather_165 fp0_21 rfl (by first | rfl | decide) (by first | rfl | decide) (Nat.le_of_ble_eq_true rfl) ?_
      exact a_vret (pc := 168) ok dX0_gather_168 (⟨rfl, Qf, by rw [← e1, ← e2, ← e3]; rfl⟩)
    · refine a_aload_n (pc := 131) ok dX0_gather_131 rfl ?_
      refine a_getf (pc := 132) ok dX0_gather_132 fl0_28 rfl rfl ?_
      refine a_aload_n (pc := 135) ok dX0_gather_135 rfl ?_
      refine a_getf (pc := 136) ok dX0_gather_136 fl0_37 rfl rfl ?_
      refine a_iload (pc := 139) ok dX0_gather_139 rfl ?_
      refine a_iald (pc := 141) ok dX0_gather_141 rfl (by first | decide | omega) (by first | omega | (unfold rg; omega) | (simp only [rg] at *; omega) | exact bz_rg _ | grind [rg]) ?_
      refine a_iload_n (pc := 142) ok dX0_gather_142 rfl ?_
      subst h3
      refine a_iast (pc := 143) ok dX0_gather_143 rfl (by first | decide | omega) (by first | omega | (unfold rg; omega) | (simp only [rg] at *; omega) | exact bz_rg _ | grind [rg]) ?_
      refine a_iinc (pc := 144) ok dX0_gather_144 rfl rfl (by rw [hN]; decide) ?_
      refine a_goto (pc := 147) (tgt := 124) ok dX0_gather_147 (by decide) ?_
      refine AW.cast (ih (mk, Qf, had, lw c r B s, k + 1) ⟨h1, h2, rfl, by dsimp only; omega⟩ (by dsimp only; omega)) rfl rfl ?_
      have e : up (mkF (mkF F mk (-2)) (fun j => ∃ i, 0 ≤ i ∧ i < (k : Int) ∧ Qf i = j) (lw c r B s)) (Qf k) (lw c r B s) = mkF (mkF F mk (-2)) (fun j => ∃ i, 0 ≤ i ∧ i < ((k + 1 : Nat) : Int) ∧ Qf i = j) (lw c r B s) := by
        rw [mkF_up]
        refine mkF_congr fun j => ⟨fun z => ?_, fun z => ?_⟩
        · rcases z with z | ⟨i, a1, a2, a3⟩
          · exact ⟨k, by omega, by omega, z.symm⟩
          · exact ⟨i, a1, by omega, a3⟩
        · obtain ⟨i, a1, a2, a3⟩ := z
          rcases (show i < (k : Int) ∨ i = k by omega) with y | y
          · exact Or.inr ⟨i, a1, y, a3⟩
          · exact Or.inl (by rw [← a3, y])
      exact congrArg (fun f => isM c r (c * r) (ct - cntK (fun j => tr (mk j ∧ F j = j)) (c * r).toNat) B f S Br Qf Fo No) e
  have loop : ∀ q : (Int → Prop) × (Int → Int) × Int × Int × Int, (BI (EB c r B) (c * r).toNat s q.1 q.2.1 q.2.2.1 ∧ CL (EB c r B) q.1 q.2.1 q.2.2.2.1 ∧ (0 ≤ q.2.2.2.1 ∧ q.2.2.2.1 ≤ q.2.2.1) ∧ con (EB c r B) s q.2.2.2.2 ∧ q.2.2.2.2 ≤ s ∧ (∀ i, 0 ≤ i → i < q.2.2.2.1 → q.2.2.2.2 ≤ q.2.1 i)) →
      AW X 0 0 20 [some (.ref 0), some (iv s), some (iv (B s)), some (iv q.2.2.2.2), some (iv q.2.2.1), some (iv q.2.2.2.1), none, none, none] [] (isM c r (c * r) (ct - cntK (fun j => tr (q.1 j ∧ F j = j)) (c * r).toNat) B (mkF F q.1 (-2)) S Br q.2.1 Fo No) := by
    refine wfl (fun q : (Int → Prop) × (Int → Int) × Int × Int × Int => (145 - q.2.2.2.1).toNat) _ _ ?_
    rintro ⟨mk, Qf, had, got, lo⟩ ⟨h1, h2, h3, h4, h5, h6⟩ ih
    dsimp only at h1 h2 h3 h4 h5 h6 ih ⊢
    have h0 := BI_0 h1
    have inner : ∀ (lo2 cur : Int), got < had → Qf got = cur → con (EB c r B) s lo2 → lo2 ≤ s → lo2 ≤ cur → (∀ i, 0 ≤ i → i < got → lo2 ≤ Qf i) → ∀ q : (Int → Prop) × (Int → Int) × Int × Int, (BI (EB c r B) (c * r).toNat s q.1 q.2.1 q.2.2.1 ∧ CL (EB c r B) q.1 q.2.1 got ∧ got < q.2.2.1 ∧ (∀ i, i ≤ got → q.2.1 i = Qf i) ∧ (0 ≤ q.2.2.2 ∧ q.2.2.2 ≤ 4) ∧ (∀ w, 0 ≤ w → w < q.2.2.2 → nb c r cur w ≠ -1 → B (nb c r cur w) = B s → q.1 (nb c r cur w))) →
        AW X 0 0 54 [some (.ref 0), some (iv s), some (iv (B s)), some (iv lo2), some (iv q.2.2.1), some (iv got), some (iv cur), some (iv q.2.2.2), none] [] (isM c r (c * r) (ct - cntK (fun j => tr (q.1 j ∧ F j = j)) (c * r).toNat) B (mkF F q.1 (-2)) S Br q.2.1 Fo No) := by
      intro lo2 cur hg hcur hl1 hl2 hl3 hl4
      have hcc : con (EB c r B) s cur := hcur ▸ h1.2.1 _ (h1.2.2.1 got h3.1 hg)
      have hcel := hcn cur hcc
      have hbc : B s = B cur := con_band hcc
      refine wfl (fun q : (Int → Prop) × (Int → Int) × Int × Int => (4 - q.2.2.2).toNat) _ _ ?_
      rintro ⟨mk2, Q2, had2, w⟩ ⟨i1, i2, i3, i4, i5, i6⟩ ih2
      dsimp only at i1 i2 i3 i4 i5 i6 ih2 ⊢
      have i0 := BI_0 i1
      have hr2 := hrF mk2
      have hb2 : 0 ≤ w ∧ w < 4 → nb c r cur w ≠ -1 → cel c r (nb c r cur w) ∧ (0 ≤ nb c r cur w ∧ nb c r cur w < 144) := fun z1 z2 => by
        have := (nb_back hd hcel z1 z2).1
        have a := this.1; have b := this.2
        exact ⟨this, by omega⟩
      have hnr := fun z1 : 0 ≤ w ∧ w < 4 => nb_rg (w := w) hd hcel
      have hBn := hB (nb c r cur w)
      have hBs := hB s
      have hr3 := hr2 (nb c r cur w)
      have skip : ∀ u : Value, (nb c r cur w = -1 ∨ B (nb c r cur w) ≠ B s ∨ mk2 (nb c r cur w)) → w < 4 → AW X 0 0 109 [some (.ref 0), some (iv s), some (iv (B s)), some (iv lo2), some (iv had2), some (iv got), some (iv cur), some (iv w), some u] [] (isM c r (c * r) (ct - cntK (fun j => tr (mk2 j ∧ F j = j)) (c * r).toNat) B (mkF F mk2 (-2)) S Br Q2 Fo No) := by
        intro u hu hw4
        have hi6 : ∀ v, 0 ≤ v → v < w + 1 → nb c r cur v ≠ -1 → B (nb c r cur v) = B s → mk2 (nb c r cur v) := by
          intro v v1 v2 v3 v4
          rcases (show v < w ∨ v = w by omega) with y | y
          · exact i6 v v1 y v3 v4
          · subst y
            rcases hu with z | z | z
            · exact absurd z v3
            · exact absurd v4 z
            · exact z
        refine a_iinc (pc := 109) ok dX0_gather_109 rfl rfl (by rw [hN]; decide) ?_
        refine a_goto (pc := 112) (tgt := 54) ok dX0_gather_112 (by decide) ?_
        exact AW.forget (ih2 (mk2, Q2, had2, w + 1) ⟨i1, i2, i3, i4, by dsimp only; omega, hi6⟩ (by dsimp only; omega)) (by repeat' (first | exact trivial | refine ⟨rfl, ?_⟩))
      have take : nb c r cur w ≠ -1 → B (nb c r cur w) = B s → ¬ mk2 (nb c r cur w) → 0 ≤ w ∧ w < 4 → ∀ u : Value, AW X 0 0 109 [some (.ref 0), some (iv s), some (iv (B s)), some (iv lo2), some (iv (had2 + 1)), some (iv got), some (iv cur), some (iv w), some u] [] (isM c r (c * r) (ct - cntK (fun j => tr (mk2 j ∧ F j = j)) (c * r).toNat - if mkF F mk2 (-2) (nb c r cur w) = nb c r cur w then 1 else 0) B (up (mkF F mk2 (-2)) (nb c r cur w) (-2)) S Br (up Q2 had2 (nb c r cur w)) Fo No) := by
        intro hn1 hbs hnm hw4 u
        have hb3 := hb2 hw4 hn1
        have hcon : con (EB c r B) s (nb c r cur w) := con_step hcc ⟨hcel, ⟨w, hw4, rfl, hn1⟩, by omega⟩
        have e1 := cntK_mk (mk := mk2) (hNc _ hb3.1) hnm (fun j => F j = j)
        have e2 : mkF F mk2 (-2) (nb c r cur w) = F (nb c r cur w) := mkF_f hnm
        have e3 : ct - cntK (fun j => tr (mk2 j ∧ F j = j)) (c * r).toNat - (if mkF F mk2 (-2) (nb c r cur w) = nb c r cur w then 1 else 0) = ct - cntK (fun j => tr ((j = nb c r cur w ∨ mk2 j) ∧ F j = j)) (c * r).toNat := by
          rw [e1, e2]; omega
        rw [e3, mkF_up]
        have hi6 : ∀ v, 0 ≤ v → v < w + 1 → nb c r cur v ≠ -1 → B (nb c r cur v) = B s → (nb c r cur v = nb c r cur w ∨ mk2 (nb c r cur v)) := by
          intro v v1 v2 v3 v4
          rcases (show v < w ∨ v = w by omega) with y | y
          · exact Or.inr (i6 v v1 y v3 v4)
          · exact Or.inl (by rw [y])
        have hi4 : ∀ i, i ≤ got → up Q2 had2 (nb c r cur w) i = Qf i := fun i hi => by unfold up; rw [if_neg (by omega)]; exact i4 i hi
        refine a_iinc (pc := 109) ok dX0_gather_109 rfl rfl (by rw [hN]; decide) ?_
        refine a_goto (pc := 112) (tgt := 54) ok dX0_gather_112 (by decide) ?_
        exact AW.forget (ih2 (fun j => j = nb c r cur w ∨ mk2 j, up Q2 had2 (nb c r cur w), had2 + 1, w + 1) ⟨BI_add i1 (hNc _ hb3.1) hcon hnm, CL_add i2 (by omega), by dsimp only; omega, hi4, by dsimp only; omega, hi6⟩ (by dsimp only; omega)) (by repeat' (first | exact trivial | refine ⟨rfl, ?_⟩))
      refine a_iload (pc := 54) ok dX0_gather_54 rfl ?_
      refine a_iconst (pc := 56) ok dX0_gather_56 ?_
      refine a_icmp_ge (pc := 57) (tgt := 115) ok dX0_gather_57 (by decide) (by first | omega | (unfold rg; omega) | (simp only [rg] at *; omega) | exact bz_rg _ | grind [rg]) (by first | omega | (unfold rg; omega) | (simp only [rg] at *; omega) | exact bz_rg _ | grind [rg]) (fun c57 => ?_) (fun c57 => ?_)
      · refine a_iinc (pc := 115) ok dX0_gather_115 rfl rfl (by rw [hN]; decide) ?_
        refine a_goto (pc := 118) (tgt := 20) ok dX0_gather_118 (by decide) ?_
        refine AW.forget (ih (mk2, Q2, had2, got + 1, lo2) ⟨i1, fun i a1 a2 b hb => ?_, by dsimp only; omega, hl1, hl2, fun i a1 a2 => ?_⟩ (by dsimp only; omega)) (by repeat' (first | exact trivial | refine ⟨rfl, ?_⟩))
        · rcases (show i < got ∨ i = got by dsimp only at a2; omega) with y | y
          · exact i2 i a1 y b hb
          · dsimp only at hb ⊢
            rw [y, i4 got (by omega), hcur] at hb
            obtain ⟨e1, ⟨v, v1, v2, v3⟩, e3⟩ := hb
            subst v2
            exact i6 v v1.1 (by omega) v3 (e3.symm.trans hbc.symm)
        · rcases (show i < got ∨ i = got by dsimp only at a2; omega) with y | y
          · dsimp only; rw [i4 i (by omega)]; exact hl4 i a1 y
          · dsimp only; rw [y, i4 got (by omega), hcur]; exact hl3
      · refine a_aload_n (pc := 60) ok dX0_gather_60 rfl ?_
        refine a_iload (pc := 61) ok dX0_gather_61 rfl ?_
        refine a_iload (pc := 63) ok dX0_gather_63 rfl ?_
        refine a_callVp (pc := 65) ok [0, 1, 2, 3, 4, 5, 6, 7] dX0_gather_65 mv0_95 miX0_neighbour (c_neighbour hd hcel (by omega)) ⟨by decide, by decide, rfl, rfl, Nat.zero_le _, Nat.zero_le _⟩ rfl rfl (Nat.le_of_ble_eq_true rfl) rfl (by decide) rfl rfl ?_
        refine a_istore (pc := 68) ok dX0_gather_68 rfl (by rw [hN]; decide) ?_
        refine a_iload (pc := 70) ok dX0_gather_70 rfl ?_
        refine a_iconst (pc := 72) ok dX0_gather_72 ?_
        refine a_icmp_eq (pc := 73) (tgt := 109) ok dX0_gather_73 (by decide) (by have := hnr (by omega); unfold rg; omega) (by have := hnr (by omega); unfold rg; omega) (fun c73 => ?_) (fun c73 => ?_)
        · first
          | exact skip _ (Or.inl c73) (by omega)
          | exact skip _ (Or.inr (Or.inl c84)) (by omega)
          | exact skip _ (Or.inr (Or.inr (Classical.byContradiction fun z => by rw [mkF_f z] at c96; exact hF2 _ (hb2 (by omega) (by omega)).1 c96))) (by omega)
          | exact take c73 (by omega) hnm (by omega) _
        · refine a_aload_n (pc := 76) ok dX0_gather_76 rfl ?_
          refine a_getf (pc := 77) ok dX0_gather_77 fl0_24 rfl rfl ?_
          refine a_iload (pc := 80) ok dX0_gather_80 rfl ?_
          refine a_iald (pc := 82) ok dX0_gather_82 rfl (by first | decide | omega) (by have := hb2 (by omega) (by omega); omega) ?_
          refine a_iload_n (pc := 83) ok dX0_gather_83 rfl ?_
          refine a_icmp_ne (pc := 84) (tgt := 109) ok dX0_gather_84 (by decide) (by first | omega | (unfold rg; omega) | (simp only [rg] at *; omega) | exact bz_rg _ | grind [rg]) (by first | omega | (unfold rg; omega) | (simp only [rg] at *; omega) | exact bz_rg _ | grind [rg]) (fun c84 => ?_) (fun c84 => ?_)
          · first
            | exact skip _ (Or.inl c73) (by omega)
            | exact skip _ (Or.inr (Or.inl c84)) (by omega)
            | exact skip _ (Or.inr (Or.inr (Classical.byContradiction fun z => by rw [mkF_f z] at c96; exact hF2 _ (hb2 (by omega) (by omega)).1 c96))) (by omega)
            | exact take c73 (by omega) hnm (by omega) _
          · refine a_aload_n (pc := 87) ok dX0_gather_87 rfl ?_
            refine a_getf (pc := 88) ok dX0_gather_88 fl0_28 rfl rfl ?_
            refine a_iload (pc := 91) ok dX0_gather_91 rfl ?_
            refine a_iald (pc := 93) ok dX0_gather_93 rfl (by first | decide | omega) (by have := hb2 (by omega) (by omega); omega) ?_
            refine a_bipush (pc := 94) ok dX0_gather_94 (by decide) ?_
            refine a_icmp_eq (pc := 96) (tgt := 109) ok dX0_gather_96 (by decide) (by first | omega | (unfold rg; omega) | (simp only [rg] at *; omega) | exact bz_rg _ | grind [rg]) (by first | omega | (unfold rg; omega) | (simp only [rg] at *; omega) | exact bz_rg _ | grind [rg]) (fun c96 => ?_) (fun c96 => ?_)
            · first
              | exact skip _ (Or.inl c73) (by omega)
              | exact skip _ (Or.inr (Or.inl c84)) (by omega)
              | exact skip _ (Or.inr (Or.inr (Classical.byContradiction fun z => by rw [mkF_f z] at c96; exact hF2 _ (hb2 (by omega) (by omega)).1 c96))) (by omega)
              | exact take c73 (by omega) hnm (by omega) _
            · have hb3 := hb2 (by omega) (by omega)
              have hnm : ¬ mk2 (nb c r cur w) := fun z => by rw [mkF_t z] at c96; exact c96 rfl
              have hhad := BI_lt i1 (hNc _ hb3.1) hnm
              refine a_aload_n (pc := 99) ok dX0_gather_99 rfl ?_
              refine a_iload (pc := 100) ok dX0_gather_100 rfl ?_
              refine a_iload (pc := 102) ok dX0_gather_102 rfl ?_
              refine a_callVi (pc := 104) ok [0, 1, 2, 3, 4, 5, 6, 7] dX0_gather_104 mv0_99 miX0_enqueue (c_enqueue (e := had2) hb3.2 (by omega) (hr2 _)) ⟨by decide, by decide, rfl, rfl, Nat.zero_le _, Nat.zero_le _⟩ rfl rfl (Nat.le_of_ble_eq_true rfl) rfl (by decide) rfl rfl rfl ?_
              refine a_istore (pc := 107) ok dX0_gather_107 rfl (by rw [hN]; decide) ?_
              first
              | exact skip _ (Or.inl c73) (by omega)
              | exact skip _ (Or.inr (Or.inl c84)) (by omega)
              | exact skip _ (Or.inr (Or.inr (Classical.byContradiction fun z => by rw [mkF_f z] at c96; exact hF2 _ (hb2 (by omega) (by omega)).1 c96))) (by omega)
              | exact take c73 (by omega) hnm (by omega) _
    have hfin : had ≤ got → AW X 0 0 121 [some (.ref 0), some (iv s), some (iv (B s)), some (iv lo), some (iv had), some (iv got), none, none, none] [] (isM c r (c * r) (ct - cntK (fun j => tr (mk j ∧ F j = j)) (c * r).toNat) B (mkF F mk (-2)) S Br Qf Fo No) := by
      intro hg
      have eg : got = had := by omega
      subst eg
      have hdone := BI_done h1 h2
      have hlo : lo = lw c r B s := by
        have a := lw_ok (B := B) hd hs
        have b := a.2.2.2 lo h4
        obtain ⟨i, q1, q2, q3⟩ := h1.2.2.2.1 _ ((hdone _).mpr a.2.2.1)
        have := h6 i q1 q2
        omega
      have e0 : mkF (mkF F mk (-2)) (fun j => ∃ i, 0 ≤ i ∧ i < ((0 : Nat) : Int) ∧ Qf i = j) (lw c r B s) = mkF F mk (-2) := by
        funext j; exact mkF_f (fun ⟨i, a1, a2, _⟩ => by omega)
      refine a_iconst (pc := 121) ok dX0_gather_121 ?_
      refine a_istore (pc := 122) ok dX0_gather_122 rfl (by rw [hN]; decide) ?_
      refine AW.cast (loop3 (mk, Qf, got, lo, 0) ⟨h1, hdone, hlo, by dsimp only; omega⟩) rfl rfl ?_
      exact congrArg (fun f => isM c r (c * r) (ct - cntK (fun j => tr (mk j ∧ F j = j)) (c * r).toNat) B f S Br Qf Fo No) e0.symm
    have hcr : got < had → cel c r (Qf got) := fun z => hcn _ (h1.2.1 _ (h1.2.2.1 got h3.1 z))
    have hlc := hcn lo h4
    have hlc1 := hlc.1
    have hlc2 := hlc.2
    refine a_iload (pc := 20) ok dX0_gather_20 rfl ?_
    refine a_iload (pc := 22) ok dX0_gather_22 rfl ?_
    refine a_icmp_ge (pc := 24) (tgt := 121) ok dX0_gather_24 (by decide) (by first | omega | (unfold rg; omega) | (simp only [rg] at *; omega) | exact bz_rg _ | grind [rg]) (by first | omega | (unfold rg; omega) | (simp only [rg] at *; omega) | exact bz_rg _ | grind [rg]) (fun c24 => ?_) (fun c24 => ?_)
    · exact hfin (by omega)
    · refine a_iload (pc := 27) ok dX0_gather_27 rfl ?_
      refine a_sipush (pc := 29) ok dX0_gather_29 (by decide) ?_
      refine a_icmp_ge (pc := 32) (tgt := 121) ok dX0_gather_32 (by decide) (by first | omega | (unfold rg; omega) | (simp only [rg] at *; omega) | exact bz_rg _ | grind [rg]) (by first | omega | (unfold rg; omega) | (simp only [rg] at *; omega) | exact bz_rg _ | grind [rg]) (fun c32 => ?_) (fun c32 => ?_)
      · exact hfin (by omega)
      · refine a_aload_n (pc := 35) ok dX0_gather_35 rfl ?_
        refine a_getf (pc := 36) ok dX0_gather_36 fl0_37 rfl rfl ?_
        refine a_iload (pc := 39) ok dX0_gather_39 rfl ?_
        refine a_iald (pc := 41) ok dX0_gather_41 rfl (by first | decide | omega) (by first | omega | (unfold rg; omega) | (simp only [rg] at *; omega) | exact bz_rg _ | grind [rg]) ?_
        refine a_istore (pc := 42) ok dX0_gather_42 rfl (by rw [hN]; decide) ?_
        refine a_iload_n (pc := 44) ok dX0_gather_44 rfl ?_
        refine a_iload (pc := 45) ok dX0_gather_45 rfl ?_
        refine a_mmin (pc := 47) ok dX0_gather_47 (ug3 61 (by decide +kernel) rfl) ⟨by decide, by decide, Nat.zero_le _, Nat.zero_le _⟩ (by decide) (by have a := hcr (by omega); have b := a.1; have d := a.2; unfold rg; omega) (by have a := hcr (by omega); have b := a.1; have d := a.2; unfold rg; omega) ?_
        refine a_istore_n (pc := 50) ok dX0_gather_50 rfl (by rw [hN]; decide) ?_
        refine a_iconst (pc := 51) ok dX0_gather_51 ?_
        refine a_istore (pc := 52) ok dX0_gather_52 rfl (by rw [hN]; decide) ?_
        have a := hcr (by omega)
        refine inner (min lo (Qf got)) (Qf got) (by omega) rfl ?_ (by omega) (by omega) (fun i a1 a2 => by have := h6 i a1 a2; omega) (mk, Qf, had, 0) ⟨h1, h2, by dsimp only; omega, fun i _ => rfl, by dsimp only; omega, fun v v1 v2 => by dsimp only at v2; omega⟩
        rcases (show min lo (Qf got) = lo ∨ min lo (Qf got) = Qf got by omega) with y | y
        · rw [y]; exact h4
        · rw [y]; exact h1.2.1 _ (h1.2.2.1 got h3.1 (by omega))
  refine a_aload_n (pc := 0) ok dX0_gather_0 rfl ?_
  refine a_getf (pc := 1) ok dX0_gather_1 fl0_24 rfl rfl ?_
  refine a_iload_n (pc := 4) ok dX0_gather_4 rfl ?_
  refine a_iald (pc := 5) ok dX0_gather_5 rfl (by first | decide | omega) (by first | omega | (unfold rg; omega) | (simp only [rg] at *; omega) | exact bz_rg _ | grind [rg]) ?_
  refine a_istore_n (pc := 6) ok dX0_gather_6 rfl (by rw [hN]; decide) ?_
  refine a_iload_n (pc := 7) ok dX0_gather_7 rfl ?_
  refine a_istore_n (pc := 8) ok dX0_gather_8 rfl (by rw [hN]; decide) ?_
  refine a_aload_n (pc := 9) ok dX0_gather_9 rfl ?_
  refine a_iload_n (pc := 10) ok dX0_gather_10 rfl ?_
  refine a_iconst (pc := 11) ok dX0_gather_11 ?_
  refine a_callVi (pc := 12) ok [0, 1, 2, 3, 4, 5, 6, 7] dX0_gather_12 mv0_99 miX0_enqueue (c_enqueue (e := 0) (by omega) (by omega) (hF s)) ⟨by decide, by decide, rfl, rfl, Nat.zero_le _, Nat.zero_le _⟩ rfl rfl (Nat.le_of_ble_eq_true rfl) rfl (by decide) rfl rfl rfl ?_
  refine a_istore (pc := 15) ok dX0_gather_15 rfl (by rw [hN]; decide) ?_
  refine a_iconst (pc := 17) ok dX0_gather_17 ?_
  refine a_istore (pc := 18) ok dX0_gather_18 rfl (by rw [hN]; decide) ?_
  have e1 := cntK_one (b := s) (hNc s hs) (fun j => F j = j)
  refine AW.cast (loop (fun j => j = s, up Q 0 s, 1, 0, s) ⟨BI_start (hNc s hs) (show up Q 0 s 0 = s from if_pos rfl), fun i a1 a2 => by dsimp only at a2; omega, by dsimp only; omega, con_refl s, Int.le_refl _, fun i a1 a2 => by dsimp only at a2; omega⟩) rfl rfl ?_
  rw [e1, ← mkF_one]
  rfl
end IS1
