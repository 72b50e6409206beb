/-! STATE: boxes, thresholds, bands. -/
section ST2
variable {l : Launch} {c r le li : Int} {G T Hh : Int → Int}
theorem dX4_tryFillBox_0 : decode cX4_tryFillBox 0 = .ok (.aload_n 0, 1) := by decide +kernel
theorem dX4_tryFillBox_1 : decode cX4_tryFillBox 1 = .ok (.iload_n 1, 1) := by decide +kernel
theorem dX4_tryFillBox_2 : decode cX4_tryFillBox 2 = .ok (.iload_n 3, 1) := by decide +kernel
theorem dX4_tryFillBox_3 : decode cX4_tryFillBox 3 = .ok (.invokevirtual 64, 3) := by decide +kernel
theorem dX4_tryFillBox_6 : decode cX4_tryFillBox 6 = .ok (.ifCond .eq 35, 3) := by decide +kernel
theorem dX4_tryFillBox_9 : decode cX4_tryFillBox 9 = .ok (.aload_n 0, 1) := by decide +kernel
theorem dX4_tryFillBox_10 : decode cX4_tryFillBox 10 = .ok (.iload_n 2, 1) := by decide +kernel
theorem dX4_tryFillBox_11 : decode cX4_tryFillBox 11 = .ok (.iload 4, 2) := by decide +kernel
theorem dX4_tryFillBox_13 : decode cX4_tryFillBox 13 = .ok (.invokevirtual 64, 3) := by decide +kernel
theorem dX4_tryFillBox_16 : decode cX4_tryFillBox 16 = .ok (.ifCond .eq 25, 3) := by decide +kernel
theorem dX4_tryFillBox_19 : decode cX4_tryFillBox 19 = .ok (.iload_n 2, 1) := by decide +kernel
theorem dX4_tryFillBox_20 : decode cX4_tryFillBox 20 = .ok (.iload_n 1, 1) := by decide +kernel
theorem dX4_tryFillBox_21 : decode cX4_tryFillBox 21 = .ok (.if_icmp .lt 20, 3) := by decide +kernel
theorem dX4_tryFillBox_24 : decode cX4_tryFillBox 24 = .ok (.iload 4, 2) := by decide +kernel
theorem dX4_tryFillBox_26 : decode cX4_tryFillBox 26 = .ok (.iload_n 3, 1) := by decide +kernel
theorem dX4_tryFillBox_27 : decode cX4_tryFillBox 27 = .ok (.if_icmp .lt 14, 3) := by decide +kernel
theorem dX4_tryFillBox_30 : decode cX4_tryFillBox 30 = .ok (.iload 5, 2) := by decide +kernel
theorem dX4_tryFillBox_32 : decode cX4_tryFillBox 32 = .ok (.iconst 0, 1) := by decide +kernel
theorem dX4_tryFillBox_33 : decode cX4_tryFillBox 33 = .ok (.bipush 99, 2) := by decide +kernel
theorem dX4_tryFillBox_35 : decode cX4_tryFillBox 35 = .ok (.invokestatic 68, 3) := by decide +kernel
theorem dX4_tryFillBox_38 : decode cX4_tryFillBox 38 = .ok (.ifCond .ne 5, 3) := by decide +kernel
theorem dX4_tryFillBox_41 : decode cX4_tryFillBox 41 = .ok (.iconst 0, 1) := by decide +kernel
theorem dX4_tryFillBox_42 : decode cX4_tryFillBox 42 = .ok (.ireturn, 1) := by decide +kernel
theorem dX4_tryFillBox_43 : decode cX4_tryFillBox 43 = .ok (.aload_n 0, 1) := by decide +kernel
theorem dX4_tryFillBox_44 : decode cX4_tryFillBox 44 = .ok (.iload_n 1, 1) := by decide +kernel
theorem dX4_tryFillBox_45 : decode cX4_tryFillBox 45 = .ok (.iload_n 2, 1) := by decide +kernel
theorem dX4_tryFillBox_46 : decode cX4_tryFillBox 46 = .ok (.iload_n 3, 1) := by decide +kernel
theorem dX4_tryFillBox_47 : decode cX4_tryFillBox 47 = .ok (.iload 4, 2) := by decide +kernel
theorem dX4_tryFillBox_49 : decode cX4_tryFillBox 49 = .ok (.iload 5, 2) := by decide +kernel
theorem dX4_tryFillBox_51 : decode cX4_tryFillBox 51 = .ok (.invokevirtual 76, 3) := by decide +kernel
theorem dX4_tryFillBox_54 : decode cX4_tryFillBox 54 = .ok (.pop, 1) := by decide +kernel
theorem dX4_tryFillBox_55 : decode cX4_tryFillBox 55 = .ok (.iconst 1, 1) := by decide +kernel
theorem dX4_tryFillBox_56 : decode cX4_tryFillBox 56 = .ok (.ireturn, 1) := by decide +kernel
abbrev inBox (c r x0 x1 y0 y1 g : Int) : Prop := inP c r x0 y0 ∧ inP c r x1 y1 ∧ x0 ≤ x1 ∧ y0 ≤ y1 ∧ 0 ≤ g ∧ g ≤ 99
theorem c_tryFillBox {n x0 x1 y0 y1 g : Int} (hd : dim c r) (h0 : rg x0) (h1 : rg x1) (h2 : rg y0) (h3 : rg y1) (hg : rg g) (hG : ∀ i, 0 ≤ G i ∧ G i ≤ 99) : Cd l yX4_tryFillBox cX4_tryFillBox 6 (some .boolean) rmX4_tryFillBox [.ref 0, iv x0, iv x1, iv y0, iv y1, iv g] (stM c r G T n le Hh li)
    (some (iv (bz (inBox c r x0 x1 y0 y1 g)))) (stM c r (if inBox c r x0 x1 y0 y1 g then (boxF c g x0 (x1 - x0 + 1).toNat y0 (y1 - y0 + 1).toNat (G, 0)).1 else G) T n le Hh li) := by
  refine Ct.of miX4_tryFillBox (Nat.le_of_ble_eq_true rfl) ?_
  intro X hXl hN ok
  refine AW.cast (L2 := [some (.ref 0), some (iv x0), some (iv x1), some (iv y0), some (iv y1), some (iv g)]) ?_ rfl rfl rfl
  have hd' := id hd
  unfold dim at hd'
  refine a_aload_n (pc := 0) ok dX4_tryFillBox_0 rfl ?_
  refine a_iload_n (pc := 1) ok dX4_tryFillBox_1 rfl ?_
  refine a_iload_n (pc := 2) ok dX4_tryFillBox_2 rfl ?_
  refine a_callVp (pc := 3) ok [0, 1, 2, 3] dX4_tryFillBox_3 mv4_64 miX4_hasCell (c_hasCell hd h0 h2) ⟨by decide, by decide, rfl, rfl, Nat.zero_le _, Nat.zero_le _⟩ rfl rfl (by decide) rfl (by decide) rfl rfl ?_
  refine a_if_eq (pc := 6) (tgt := 41) ok dX4_tryFillBox_6 (by decide) (by first | omega | (unfold rg; omega) | (simp only [rg] at *; omega) | exact bz_rg _ | grind [rg]) (fun c6 => ?_) (fun c6 => ?_)
  · refine a_iconst (pc := 41) ok dX4_tryFillBox_41 ?_
    exact a_zret (pc := 42) ok dX4_tryFillBox_42 (by first | rfl | exact nb_bz _ | decide) (⟨congrArg (fun z => some (iv z)) (bz_neg (by simp only [bz_0] at *; omega)).symm, by rw [if_neg (by simp only [bz_0] at *; omega)]⟩)
  · refine a_aload_n (pc := 9) ok dX4_tryFillBox_9 rfl ?_
    refine a_iload_n (pc := 10) ok dX4_tryFillBox_10 rfl ?_
    refine a_iload (pc := 11) ok dX4_tryFillBox_11 rfl ?_
    refine a_callVp (pc := 13) ok [0, 1, 2, 3] dX4_tryFillBox_13 mv4_64 miX4_hasCell (c_hasCell hd h1 h3) ⟨by decide, by decide, rfl, rfl, Nat.zero_le _, Nat.zero_le _⟩ rfl rfl (by decide) rfl (by decide) rfl rfl ?_
    refine a_if_eq (pc := 16) (tgt := 41) ok dX4_tryFillBox_16 (by decide) (by first | omega | (unfold rg; omega) | (simp only [rg] at *; omega) | exact bz_rg _ | grind [rg]) (fun c16 => ?_) (fun c16 => ?_)
    · refine a_iconst (pc := 41) ok dX4_tryFillBox_41 ?_
      exact a_zret (pc := 42) ok dX4_tryFillBox_42 (by first | rfl | exact nb_bz _ | decide) (⟨congrArg (fun z => some (iv z)) (bz_neg (by simp only [bz_0] at *; omega)).symm, by rw [if_neg (by simp only [bz_0] at *; omega)]⟩)
    · refine a_iload_n (pc := 19) ok dX4_tryFillBox_19 rfl ?_
      refine a_iload_n (pc := 20) ok dX4_tryFillBox_20 rfl ?_
      refine a_icmp_lt (pc := 21) (tgt := 41) ok dX4_tryFillBox_21 (by decide) (by first | omega | (unfold rg; omega) | (simp only [rg] at *; omega) | exact bz_rg _ | grind [rg]) (by first | omega | (unfold rg; omega) | (simp only [rg] at *; omega) | exact bz_rg _ | grind [rg]) (fun c21 => ?_) (fun c21 => ?_)
      · refine a_iconst (pc := 41) ok dX4_tryFillBox_41 ?_
        exact a_zret (pc := 42) ok dX4_tryFillBox_42 (by first | rfl | exact nb_bz _ | decide) (⟨congrArg (fun z => some (iv z)) (bz_neg (by simp only [bz_0] at *; omega)).symm, by rw [if_neg (by simp only [bz_0] at *; omega)]⟩)
      · refine a_iload (pc := 24) ok dX4_tryFillBox_24 rfl ?_
        refine a_iload_n (pc := 26) ok dX4_tryFillBox_26 rfl ?_
        refine a_icmp_lt (pc := 27) (tgt := 41) ok dX4_tryFillBox_27 (by decide) (by first | omega | (unfold rg; omega) | (simp only [rg] at *; omega) | exact bz_rg _ | grind [rg]) (by first | omega | (unfold rg; omega) | (simp only [rg] at *; omega) | exact bz_rg _ | grind [rg]) (fun c27 => ?_) (fun c27 => ?_)
        · refine a_iconst (pc := 41) ok dX4_tryFillBox_41 ?_
          exact a_zret (pc := 42) ok dX4_tryFillBox_42 (by first | rfl | exact nb_bz _ | decide) (⟨congrArg (fun z => some (iv z)) (bz_neg (by simp only [bz_0] at *; omega)).symm, by rw [if_neg (by simp only [bz_0] at *; omega)]⟩)
        · refine a_iload (pc := 30) ok dX4_tryFillBox_30 rfl ?_
          refine a_iconst (pc := 32) ok dX4_tryFillBox_32 ?_
          refine a_bipush (pc := 33) ok dX4_tryFillBox_33 (by decide) ?_
          refine a_callSp (pc := 35) ok [] dX4_tryFillBox_35 mv4_68 miX6_isWithin (c_isWithin hg (by unfold rg; omega) (by unfold rg; omega)) ⟨by decide, by decide, rfl, rfl, Nat.zero_le _, Nat.zero_le _⟩ rfl rfl (by decide) rfl (by decide) ?_
          refine a_if_ne (pc := 38) (tgt := 43) ok dX4_tryFillBox_38 (by decide) (by first | omega | (unfold rg; omega) | (simp only [rg] at *; omega) | exact bz_rg _ | grind [rg]) (fun c38 => ?_) (fun c38 => ?_)
          · refine a_aload_n (pc := 43) ok dX4_tryFillBox_43 rfl ?_
            refine a_iload_n (pc := 44) ok dX4_tryFillBox_44 rfl ?_
            refine a_iload_n (pc := 45) ok dX4_tryFillBox_45 rfl ?_
            refine a_iload_n (pc := 46) ok dX4_tryFillBox_46 rfl ?_
            refine a_iload (pc := 47) ok dX4_tryFillBox_47 rfl ?_
            refine a_iload (pc := 49) ok dX4_tryFillBox_49 rfl ?_
            refine a_callVi (pc := 51) ok [0, 1, 2, 3] dX4_tryFillBox_51 mv4_76 miX4_fillBox (c_fillBox hd (by simp only [bz_0] at *; omega) (by simp only [bz_0] at *; omega) (fun i => by have := hG i; unfold rg; omega) hg) ⟨by decide, by decide, rfl, rfl, Nat.zero_le _, Nat.zero_le _⟩ rfl rfl (by decide) rfl (by decide) rfl rfl rfl ?_
            refine a_pop (pc := 54) ok dX4_tryFillBox_54 rfl ?_
            refine a_iconst (pc := 55) ok dX4_tryFillBox_55 ?_
            exact a_zret (pc := 56) ok dX4_tryFillBox_56 (by first | rfl | exact nb_bz _ | decide) (⟨congrArg (fun z => some (iv z)) (bz_pos (by simp only [bz_0] at *; omega)).symm, by rw [if_pos (by simp only [bz_0] at *; omega)]; rfl⟩)
          · refine a_iconst (pc := 41) ok dX4_tryFillBox_41 ?_
            exact a_zret (pc := 42) ok dX4_tryFillBox_42 (by first | rfl | exact nb_bz _ | decide) (⟨congrArg (fun z => some (iv z)) (bz_neg (by simp only [bz_0] at *; omega)).symm, by rw [if_neg (by simp only [bz_0] at *; omega)]⟩)
theorem dX4_hasThreshold_0 : decode cX4_hasThreshold 0 = .ok (.iload_n 1, 1) := by decide +kernel
theorem dX4_hasThreshold_1 : decode cX4_hasThreshold 1 = .ok (.ifCond .lt 15, 3) := by decide +kernel
theorem dX4_hasThreshold_4 : decode cX4_hasThreshold 4 = .ok (.iload_n 1, 1) := by decide +kernel
theorem dX4_hasThreshold_5 : decode cX4_hasThreshold 5 = .ok (.aload_n 0, 1) := by decide +kernel
theorem dX4_hasThreshold_6 : decode cX4_hasThreshold 6 = .ok (.getfield 28, 3) := by decide +kernel
theorem dX4_hasThreshold_9 : decode cX4_hasThreshold 9 = .ok (.if_icmp .ge 7, 3) := by decide +kernel
theorem dX4_hasThreshold_12 : decode cX4_hasThreshold 12 = .ok (.iconst 1, 1) := by decide +kernel
theorem dX4_hasThreshold_13 : decode cX4_hasThreshold 13 = .ok (.goto 4, 3) := by decide +kernel
theorem dX4_hasThreshold_16 : decode cX4_hasThreshold 16 = .ok (.iconst 0, 1) := by decide +kernel
theorem dX4_hasThreshold_17 : decode cX4_hasThreshold 17 = .ok (.ireturn, 1) := by decide +kernel
theorem c_hasThreshold {n k : Int} (hn : 0 ≤ n ∧ n ≤ 5) (hk : rg k) : Cd l yX4_hasThreshold cX4_hasThreshold 2 (some .boolean) rmX4_hasThreshold [.ref 0, iv k] (stM c r G T n le Hh li) (some (iv (bz (0 ≤ k ∧ k < n)))) (stM c r G T n le Hh li) := by
  refine Ct.of miX4_hasThreshold (Nat.le_of_ble_eq_true rfl) ?_
  intro X hXl hN ok
  refine AW.cast (L2 := [some (.ref 0), some (iv k)]) ?_ rfl rfl rfl
  refine a_iload_n (pc := 0) ok dX4_hasThreshold_0 rfl ?_
  refine a_if_lt (pc := 1) (tgt := 16) ok dX4_hasThreshold_1 (by decide) (by first | omega | (unfold rg; omega) | (simp only [rg] at *; omega) | exact bz_rg _ | grind [rg]) (fun c1 => ?_) (fun c1 => ?_)
  · refine a_iconst (pc := 16) ok dX4_hasThreshold_16 ?_
    exact a_zret (pc := 17) ok dX4_hasThreshold_17 (by first | rfl | exact nb_bz _ | decide) (⟨by first | rfl | exact congrArg (fun z => some (iv z)) (bz_pos (by first | omega | grind)).symm | exact congrArg (fun z => some (iv z)) (bz_neg (by first | omega | grind)).symm, rfl⟩)
  · refine a_iload_n (pc := 4) ok dX4_hasThreshold_4 rfl ?_
    refine a_aload_n (pc := 5) ok dX4_hasThreshold_5 rfl ?_
    refine a_getf (pc := 6) ok dX4_hasThreshold_6 fl4_28 rfl rfl ?_
    refine a_icmp_ge (pc := 9) (tgt := 16) ok dX4_hasThreshold_9 (by decide) (by first | omega | (unfold rg; omega) | (simp only [rg] at *; omega) | exact bz_rg _ | grind [rg]) (by first | omega | (unfold rg; omega) | (simp only [rg] at *; omega) | exact bz_rg _ | grind [rg]) (fun c9 => ?_) (fun c9 => ?_)
    · refine a_iconst (pc := 16) ok dX4_hasThreshold_16 ?_
      exact a_zret (pc := 17) ok dX4_hasThreshold_17 (by first | rfl | exact nb_bz _ | decide) (⟨by first | rfl | exact congrArg (fun z => some (iv z)) (bz_pos (by first | omega | grind)).symm | exact congrArg (fun z => some (iv z)) (bz_neg (by first | omega | grind)).symm, rfl⟩)
    · refine a_iconst (pc := 12) ok dX4_hasThreshold_12 ?_
      refine a_goto (pc := 13) (tgt := 17) ok dX4_hasThreshold_13 (by decide) ?_
      exact a_zret (pc := 17) ok dX4_hasThreshold_17 (by first | rfl | exact nb_bz _ | decide) (⟨by first | rfl | exact congrArg (fun z => some (iv z)) (bz_pos (by first | omega | grind)).symm | exact congrArg (fun z => some (iv z)) (bz_neg (by first | omega | grind)).symm, rfl⟩)
/-- the first place that holds p, or -1 -/
def fstK (p : Int → Bool) : Nat → Int
  | 0 => -1
  | k + 1 => if fstK p k = -1 then (if p k then k else -1) else fstK p k
theorem fstK_rg (p : Int → Bool) : ∀ m : Nat, -1 ≤ fstK p m ∧ fstK p m < m
  | 0 => by simp [fstK]
  | m + 1 => by have := fstK_rg p m; simp only [fstK]; split <;> (try split) <;> omega
theorem fstK_neg {p : Int → Bool} : ∀ {m : Nat}, fstK p m = -1 ↔ ∀ j : Nat, j < m → p j = false
  | 0 => by simp [fstK]
  | m + 1 => by
    have ih := fstK_neg (p := p) (m := m)
    simp only [fstK]
    constructor
    · intro h j hj
      split at h
      · rename_i h1
        split at h
        · omega
        · rename_i h2
          rcases Nat.lt_or_ge j m with z | z
          · exact ih.mp h1 j z
          · rw [show j = m by omega]; simpa using h2
      · rename_i h1; exact absurd h h1
    · intro h
      rw [if_pos (ih.mpr (fun j hj => h j (by omega))), if_neg (by rw [h m (by omega)]; simp)]
theorem fstK_at {p : Int → Bool} {k : Nat} (h1 : fstK p k = -1) (h2 : p k = true) : ∀ m : Nat, k < m → fstK p m = k
  | 0, h => by omega
  | m + 1, h => by
    simp only [fstK]
    rcases Nat.lt_or_ge k m with z | z
    · rw [fstK_at h1 h2 m z, if_neg (by omega)]
    · rw [show m = k by omega, if_pos h1, if_pos h2]
theorem fstK_spec {p : Int → Bool} {m : Nat} (h : fstK p m ≠ -1) : p (fstK p m) = true := by
  induction m with
  | zero => simp [fstK] at h
  | succ m ih =>
    simp only [fstK] at h ⊢
    split
    · rename_i h1
      rw [if_pos h1] at h
      split
      · assumption
      · rename_i h2; rw [if_neg h2] at h; exact absurd rfl h
    · rename_i h1; exact ih h1
/-- is v among the first n thresholds -/
def hasT (T : Int → Int) (n : Nat) (v : Int) : Bool := fstK (fun k => T k == v) n != -1
theorem dX4_indexOfThreshold_0 : decode cX4_indexOfThreshold 0 = .ok (.iconst 0, 1) := by decide +kernel
theorem dX4_indexOfThreshold_1 : decode cX4_indexOfThreshold 1 = .ok (.istore_n 2, 1) := by decide +kernel
theorem dX4_indexOfThreshold_2 : decode cX4_indexOfThreshold 2 = .ok (.iload_n 2, 1) := by decide +kernel
theorem dX4_indexOfThreshold_3 : decode cX4_indexOfThreshold 3 = .ok (.aload_n 0, 1) := by decide +kernel
theorem dX4_indexOfThreshold_4 : decode cX4_indexOfThreshold 4 = .ok (.getfield 28, 3) := by decide +kernel
theorem dX4_indexOfThreshold_7 : decode cX4_indexOfThreshold 7 = .ok (.if_icmp .ge 21, 3) := by decide +kernel
theorem dX4_indexOfThreshold_10 : decode cX4_indexOfThreshold 10 = .ok (.aload_n 0, 1) := by decide +kernel
theorem dX4_indexOfThreshold_11 : decode cX4_indexOfThreshold 11 = .ok (.getfield 15, 3) := by decide +kernel
theorem dX4_indexOfThreshold_14 : decode cX4_indexOfThreshold 14 = .ok (.iload_n 2, 1) := by decide +kernel
theorem dX4_indexOfThreshold_15 : decode cX4_indexOfThreshold 15 = .ok (.iaload, 1) := by decide +kernel
theorem dX4_indexOfThreshold_16 : decode cX4_indexOfThreshold 16 = .ok (.iload_n 1, 1) := by decide +kernel
theorem dX4_indexOfThreshold_17 : decode cX4_indexOfThreshold 17 = .ok (.if_icmp .ne 5, 3) := by decide +kernel
theorem dX4_indexOfThreshold_20 : decode cX4_indexOfThreshold 20 = .ok (.iload_n 2, 1) := by decide +kernel
theorem dX4_indexOfThreshold_21 : decode cX4_indexOfThreshold 21 = .ok (.ireturn, 1) := by decide +kernel
theorem dX4_indexOfThreshold_22 : decode cX4_indexOfThreshold 22 = .ok (.iinc 2 1, 3) := by decide +kernel
theorem dX4_indexOfThreshold_25 : decode cX4_indexOfThreshold 25 = .ok (.goto (-23), 3) := by decide +kernel
theorem dX4_indexOfThreshold_28 : decode cX4_indexOfThreshold 28 = .ok (.iconst (-1), 1) := by decide +kernel
theorem dX4_indexOfThreshold_29 : decode cX4_indexOfThreshold 29 = .ok (.ireturn, 1) := by decide +kernel
theorem c_indexOfThreshold {n : Nat} {v : Int} (hn : n ≤ 5) (hT : ∀ i, rg (T i)) (hv : rg v) : Cd l yX4_indexOfThreshold cX4_indexOfThreshold 3 (some .int) rmX4_indexOfThreshold [.ref 0, iv v] (stM c r G T n le Hh li) (some (iv (fstK (fun k => T k == v) n))) (stM c r G T n le Hh li) := by
  refine Ct.of miX4_indexOfThreshold (Nat.le_of_ble_eq_true rfl) ?_
  intro X hXl hN ok
  refine AW.cast (L2 := [some (.ref 0), some (iv v), none]) ?_ rfl rfl rfl
  have loop : ∀ k : Nat, (k ≤ n ∧ fstK (fun i => T i == v) k = -1) → AW X 0 0 2 [some (.ref 0), some (iv v), some (iv k)] [] (stM c r G T n le Hh li) := by
    refine wfl (fun k : Nat => n - k) _ _ ?_
    intro k hk ih
    have hTk := hT k
    refine a_iload_n (pc := 2) ok dX4_indexOfThreshold_2 rfl ?_
    refine a_aload_n (pc := 3) ok dX4_indexOfThreshold_3 rfl ?_
    refine a_getf (pc := 4) ok dX4_indexOfThreshold_4 fl4_28 rfl rfl ?_
    refine a_icmp_ge (pc := 7) (tgt := 28) ok dX4_indexOfThreshold_7 (by decide) (by first | omega | (unfold rg; omega) | (simp only [rg] at *; omega) | exact bz_rg _ | grind [rg]) (by first | omega | (unfold rg; omega) | (simp only [rg] at *; omega) | exact bz_rg _ | grind [rg]) (fun c7 => ?_) (fun c7 => ?_)
    · have e : k = n := by omega
      subst e
      refine a_iconst (pc := 28) ok dX4_indexOfThreshold_28 ?_
      exact a_iret (pc := 29) ok dX4_indexOfThreshold_29 (by rw [hk.2]; exact ⟨rfl, rfl⟩)
    · refine a_aload_n (pc := 10) ok dX4_indexOfThreshold_10 rfl ?_
      refine a_getf (pc := 11) ok dX4_indexOfThreshold_11 fl4_15 rfl rfl ?_
      refine a_iload_n (pc := 14) ok dX4_indexOfThreshold_14 rfl ?_
      refine a_iald (pc := 15) ok dX4_indexOfThreshold_15 rfl (by first | decide | omega) (by first | omega | (unfold rg; omega) | (simp only [rg] at *; omega) | exact bz_rg _ | grind [rg]) ?_
      refine a_iload_n (pc := 16) ok dX4_indexOfThreshold_16 rfl ?_
      refine a_icmp_ne (pc := 17) (tgt := 22) ok dX4_indexOfThreshold_17 (by decide) (by first | omega | (unfold rg; omega) | (simp only [rg] at *; omega) | exact bz_rg _ | grind [rg]) (by first | omega | (unfold rg; omega) | (simp only [rg] at *; omega) | exact bz_rg _ | grind [rg]) (fun c17 => ?_) (fun c17 => ?_)
      · refine a_iinc (pc := 22) ok dX4_indexOfThreshold_22 rfl rfl (by rw [hN]; decide) ?_
        refine a_goto (pc := 25) (tgt := 2) ok dX4_indexOfThreshold_25 (by decide) ?_
        exact ih (k + 1) ⟨by omega, by simp only [fstK]; rw [if_pos hk.2, if_neg (by simpa using c17)]⟩ (by omega)
      · refine a_iload_n (pc := 20) ok dX4_indexOfThreshold_20 rfl ?_
        exact a_iret (pc := 21) ok dX4_indexOfThreshold_21 (by rw [fstK_at hk.2 (by simpa using c17) n (by omega)]; exact ⟨rfl, rfl⟩)
  refine a_iconst (pc := 0) ok dX4_indexOfThreshold_0 ?_
  refine a_istore_n (pc := 1) ok dX4_indexOfThreshold_1 rfl (by rw [hN]; decide) ?_
  exact loop 0 ⟨by omega, rfl⟩
/-- may v be put in (b not 0), or taken out -/
def canT (T : Int → Int) (n : Nat) (v b : Int) : Bool := if b = 0 then hasT T n v else !hasT T n v && decide (n < 5)
theorem dX4_canChangeThreshold_0 : decode cX4_canChangeThreshold 0 = .ok (.aload_n 0, 1) := by decide +kernel
theorem dX4_canChangeThreshold_1 : decode cX4_canChangeThreshold 1 = .ok (.iload_n 1, 1) := by decide +kernel
theorem dX4_canChangeThreshold_2 : decode cX4_canChangeThreshold 2 = .ok (.invokevirtual 80, 3) := by decide +kernel
theorem dX4_canChangeThreshold_5 : decode cX4_canChangeThreshold 5 = .ok (.iconst (-1), 1) := by decide +kernel
theorem dX4_canChangeThreshold_6 : decode cX4_canChangeThreshold 6 = .ok (.if_icmp .eq 7, 3) := by decide +kernel
theorem dX4_canChangeThreshold_9 : decode cX4_canChangeThreshold 9 = .ok (.iconst 1, 1) := by decide +kernel
theorem dX4_canChangeThreshold_10 : decode cX4_canChangeThreshold 10 = .ok (.goto 4, 3) := by decide +kernel
theorem dX4_canChangeThreshold_13 : decode cX4_canChangeThreshold 13 = .ok (.iconst 0, 1) := by decide +kernel
theorem dX4_canChangeThreshold_14 : decode cX4_canChangeThreshold 14 = .ok (.istore_n 3, 1) := by decide +kernel
theorem dX4_canChangeThreshold_15 : decode cX4_canChangeThreshold 15 = .ok (.iload_n 2, 1) := by decide +kernel
theorem dX4_canChangeThreshold_16 : decode cX4_canChangeThreshold 16 = .ok (.ifCond .eq 23, 3) := by decide +kernel
theorem dX4_canChangeThreshold_19 : decode cX4_canChangeThreshold 19 = .ok (.iload_n 3, 1) := by decide +kernel
theorem dX4_canChangeThreshold_20 : decode cX4_canChangeThreshold 20 = .ok (.ifCond .ne 15, 3) := by decide +kernel
theorem dX4_canChangeThreshold_23 : decode cX4_canChangeThreshold 23 = .ok (.aload_n 0, 1) := by decide +kernel
theorem dX4_canChangeThreshold_24 : decode cX4_canChangeThreshold 24 = .ok (.getfield 28, 3) := by decide +kernel
theorem dX4_canChangeThreshold_27 : decode cX4_canChangeThreshold 27 = .ok (.iconst 5, 1) := by decide +kernel
theorem dX4_canChangeThreshold_28 : decode cX4_canChangeThreshold 28 = .ok (.if_icmp .ge 7, 3) := by decide +kernel
theorem dX4_canChangeThreshold_31 : decode cX4_canChangeThreshold 31 = .ok (.iconst 1, 1) := by decide +kernel
theorem dX4_canChangeThreshold_32 : decode cX4_canChangeThreshold 32 = .ok (.goto 8, 3) := by decide +kernel
theorem dX4_canChangeThreshold_35 : decode cX4_canChangeThreshold 35 = .ok (.iconst 0, 1) := by decide +kernel
theorem dX4_canChangeThreshold_36 : decode cX4_canChangeThreshold 36 = .ok (.goto 4, 3) := by decide +kernel
theorem dX4_canChangeThreshold_39 : decode cX4_canChangeThreshold 39 = .ok (.iload_n 3, 1) := by decide +kernel
theorem dX4_canChangeThreshold_40 : decode cX4_canChangeThreshold 40 = .ok (.ireturn, 1) := by decide +kernel
theorem c_canChangeThreshold {n : Nat} {v b : Int} (hn : n ≤ 5) (hT : ∀ i, rg (T i)) (hv : rg v) (hb : rg b) : Cd l yX4_canChangeThreshold cX4_canChangeThreshold 4 (some .boolean) rmX4_canChangeThreshold [.ref 0, iv v, iv b] (stM c r G T n le Hh li) (some (iv (bz (canT T n v b = true)))) (stM c r G T n le Hh li) := by
  refine Ct.of miX4_canChangeThreshold (Nat.le_of_ble_eq_true rfl) ?_
  intro X hXl hN ok
  refine AW.cast (L2 := [some (.ref 0), some (iv v), some (iv b), none]) ?_ rfl rfl rfl
  have hf := fstK_rg (fun k => T k == v) n
  have h1 : hasT T n v = true → AW X 0 0 14 [some (.ref 0), some (iv v), some (iv b), none] [iv 1] (stM c r G T n le Hh li) := by
    intro hz
    refine a_istore_n (pc := 14) ok dX4_canChangeThreshold_14 rfl (by rw [hN]; decide) ?_
    refine a_iload_n (pc := 15) ok dX4_canChangeThreshold_15 rfl ?_
    refine a_if_eq (pc := 16) (tgt := 39) ok dX4_canChangeThreshold_16 (by decide) (by first | omega | (unfold rg; omega) | (simp only [rg] at *; omega) | exact bz_rg _ | grind [rg]) (fun c16 => ?_) (fun c16 => ?_)
    · refine a_iload_n (pc := 39) ok dX4_canChangeThreshold_39 rfl ?_
      exact a_zret (pc := 40) ok dX4_canChangeThreshold_40 (by first | rfl | exact nb_bz _ | decide) (⟨by first | (exfalso; omega) | exact congrArg (fun z => some (iv z)) (bz_pos (by simp [canT, hz, *] <;> omega)).symm | exact congrArg (fun z => some (iv z)) (bz_neg (by simp [canT, hz, *] <;> omega)).symm, rfl⟩)
    · refine a_iload_n (pc := 19) ok dX4_canChangeThreshold_19 rfl ?_
      refine a_if_ne (pc := 20) (tgt := 35) ok dX4_canChangeThreshold_20 (by decide) (by first | omega | (unfold rg; omega) | (simp only [rg] at *; omega) | exact bz_rg _ | grind [rg]) (fun c20 => ?_) (fun c20 => ?_)
      · refine a_iconst (pc := 35) ok dX4_canChangeThreshold_35 ?_
        refine a_goto (pc := 36) (tgt := 40) ok dX4_canChangeThreshold_36 (by decide) ?_
        exact a_zret (pc := 40) ok dX4_canChangeThreshold_40 (by first | rfl | exact nb_bz _ | decide) (⟨by first | (exfalso; omega) | exact congrArg (fun z => some (iv z)) (bz_pos (by simp [canT, hz, *] <;> omega)).symm | exact congrArg (fun z => some (iv z)) (bz_neg (by simp [canT, hz, *] <;> omega)).symm, rfl⟩)
      · refine a_aload_n (pc := 23) ok dX4_canChangeThreshold_23 rfl ?_
        refine a_getf (pc := 24) ok dX4_canChangeThreshold_24 fl4_28 rfl rfl ?_
        refine a_iconst (pc := 27) ok dX4_canChangeThreshold_27 ?_
        refine a_icmp_ge (pc := 28) (tgt := 35) ok dX4_canChangeThreshold_28 (by decide) (by first | omega | (unfold rg; omega) | (simp only [rg] at *; omega) | exact bz_rg _ | grind [rg]) (by first | omega | (unfold rg; omega) | (simp only [rg] at *; omega) | exact bz_rg _ | grind [rg]) (fun c28 => ?_) (fun c28 => ?_)
        · refine a_iconst (pc := 35) ok dX4_canChangeThreshold_35 ?_
          refine a_goto (pc := 36) (tgt := 40) ok dX4_canChangeThreshold_36 (by decide) ?_
          exact a_zret (pc := 40) ok dX4_canChangeThreshold_40 (by first | rfl | exact nb_bz _ | decide) (⟨by first | (exfalso; omega) | exact congrArg (fun z => some (iv z)) (bz_pos (by simp [canT, hz, *] <;> omega)).symm | exact congrArg (fun z => some (iv z)) (bz_neg (by simp [canT, hz, *] <;> omega)).symm, rfl⟩)
        · refine a_iconst (pc := 31) ok dX4_canChangeThreshold_31 ?_
          refine a_goto (pc := 32) (tgt := 40) ok dX4_canChangeThreshold_32 (by decide) ?_
          exact a_zret (pc := 40) ok dX4_canChangeThreshold_40 (by first | rfl | exact nb_bz _ | decide) (⟨by first | (exfalso; omega) | exact congrArg (fun z => some (iv z)) (bz_pos (by simp [canT, hz, *] <;> omega)).symm | exact congrArg (fun z => some (iv z)) (bz_neg (by simp [canT, hz, *] <;> omega)).symm, rfl⟩)
  have h0 : hasT T n v = false → AW X 0 0 14 [some (.ref 0), some (iv v), some (iv b), none] [iv 0] (stM c r G T n le Hh li) := by
    intro hz
    refine a_istore_n (pc := 14) ok dX4_canChangeThreshold_14 rfl (by rw [hN]; decide) ?_
    refine a_iload_n (pc := 15) ok dX4_canChangeThreshold_15 rfl ?_
    refine a_if_eq (pc := 16) (tgt := 39) ok dX4_canChangeThreshold_16 (by decide) (by first | omega | (unfold rg; omega) | (simp only [rg] at *; omega) | exact bz_rg _ | grind [rg]) (fun c16 => ?_) (fun c16 => ?_)
    · refine a_iload_n (pc := 39) ok dX4_canChangeThreshold_39 rfl ?_
      exact a_zret (pc := 40) ok dX4_canChangeThreshold_40 (by first | rfl | exact nb_bz _ | decide) (⟨by first | (exfalso; omega) | exact congrArg (fun z => some (iv z)) (bz_pos (by simp [canT, hz, *] <;> omega)).symm | exact congrArg (fun z => some (iv z)) (bz_neg (by simp [canT, hz, *] <;> omega)).symm, rfl⟩)
    · refine a_iload_n (pc := 19) ok dX4_canChangeThreshold_19 rfl ?_
      refine a_if_ne (pc := 20) (tgt := 35) ok dX4_canChangeThreshold_20 (by decide) (by first | omega | (unfold rg; omega) | (simp only [rg] at *; omega) | exact bz_rg _ | grind [rg]) (fun c20 => ?_) (fun c20 => ?_)
      · refine a_iconst (pc := 35) ok dX4_canChangeThreshold_35 ?_
        refine a_goto (pc := 36) (tgt := 40) ok dX4_canChangeThreshold_36 (by decide) ?_
        exact a_zret (pc := 40) ok dX4_canChangeThreshold_40 (by first | rfl | exact nb_bz _ | decide) (⟨by first | (exfalso; omega) | exact congrArg (fun z => some (iv z)) (bz_pos (by simp [canT, hz, *] <;> omega)).symm | exact congrArg (fun z => some (iv z)) (bz_neg (by simp [canT, hz, *] <;> omega)).symm, rfl⟩)
      · refine a_aload_n (pc := 23) ok dX4_canChangeThreshold_23 rfl ?_
        refine a_getf (pc := 24) ok dX4_canChangeThreshold_24 fl4_28 rfl rfl ?_
        refine a_iconst (pc := 27) ok dX4_canChangeThreshold_27 ?_
        refine a_icmp_ge (pc := 28) (tgt := 35) ok dX4_canChangeThreshold_28 (by decide) (by first | omega | (unfold rg; omega) | (simp only [rg] at *; omega) | exact bz_rg _ | grind [rg]) (by first | omega | (unfold rg; omega) | (simp only [rg] at *; omega) | exact bz_rg _ | grind [rg]) (fun c28 => ?_) (fun c28 => ?_)
        · refine a_iconst (pc := 35) ok dX4_canChangeThreshold_35 ?_
          refine a_goto (pc := 36) (tgt := 40) ok dX4_canChangeThreshold_36 (by decide) ?_
          exact a_zret (pc := 40) ok dX4_canChangeThreshold_40 (by first | rfl | exact nb_bz _ | decide) (⟨by first | (exfalso; omega) | exact congrArg (fun z => some (iv z)) (bz_pos (by simp [canT, hz, *] <;> omega)).symm | exact congrArg (fun z => some (iv z)) (bz_neg (by simp [canT, hz, *] <;> omega)).symm, rfl⟩)
        · refine a_iconst (pc := 31) ok dX4_canChangeThreshold_31 ?_
          refine a_goto (pc := 32) (tgt := 40) ok dX4_canChangeThreshold_32 (by decide) ?_
          exact a_zret (pc := 40) ok dX4_canChangeThreshold_40 (by first | rfl | exact nb_bz _ | decide) (⟨by first | (exfalso; omega) | exact congrArg (fun z => some (iv z)) (bz_pos (by simp [canT, hz, *] <;> omega)).symm | exact congrArg (fun z => some (iv z)) (bz_neg (by simp [canT, hz, *] <;> omega)).symm, rfl⟩)
  refine a_aload_n (pc := 0) ok dX4_canChangeThreshold_0 rfl ?_
  refine a_iload_n (pc := 1) ok dX4_canChangeThreshold_1 rfl ?_
  refine a_callVp (pc := 2) ok [0, 1, 2, 3] dX4_canChangeThreshold_2 mv4_80 miX4_indexOfThreshold (c_indexOfThreshold hn hT hv) ⟨by decide, by decide, rfl, rfl, Nat.zero_le _, Nat.zero_le _⟩ rfl rfl (by decide) rfl (by decide) rfl rfl ?_
  refine a_iconst (pc := 5) ok dX4_canChangeThreshold_5 ?_
  refine a_icmp_eq (pc := 6) (tgt := 13) ok dX4_canChangeThreshold_6 (by decide) (by first | omega | (unfold rg; omega) | (simp only [rg] at *; omega) | exact bz_rg _ | grind [rg]) (by first | omega | (unfold rg; omega) | (simp only [rg] at *; omega) | exact bz_rg _ | grind [rg]) (fun c6 => ?_) (fun c6 => ?_)
  · refine a_iconst (pc := 13) ok dX4_canChangeThreshold_13 ?_
    first | exact h1 (by simp [hasT, *]) | exact h0 (by simp [hasT, *])
  · refine a_iconst (pc := 9) ok dX4_canChangeThreshold_9 ?_
    refine a_goto (pc := 10) (tgt := 14) ok dX4_canChangeThreshold_10 (by decide) ?_
    first | exact h1 (by simp [hasT, *]) | exact h0 (by simp [hasT, *])
/-- thresholds: sorted, all unlike, 1 to 99 -/
def srt (T : Int → Int) (n : Nat) : Prop := ∀ i j : Int, 0 ≤ i → i < j → j < n → T i < T j
def insT (T : Int → Int) (n : Nat) (v : Int) : Int → Int := fun j =>
  if j < cntK (fun k => decide (T k ≤ v)) n then T j else if j = cntK (fun k => decide (T k ≤ v)) n then v else if j ≤ n then T (j - 1) else T j
theorem cntK_cut {p : Int → Bool} {a : Nat} : ∀ m : Nat, a ≤ m → (∀ j : Nat, j < a → p j = true) → (∀ j : Nat, a ≤ j → j < m → p j = false) → cntK p m = a
  | 0, h, _, _ => by have : a = 0 := by omega
                     subst this; rfl
  | m + 1, h, h1, h2 => by
    simp only [cntK]
    rcases Nat.lt_or_ge m a with z | z
    · have e : a = m + 1 := by omega
      have : cntK p m = m := cntK_cut (a := m) m (Nat.le_refl m) (fun j hj => h1 j (by omega)) (fun j _ _ => by omega)
      rw [this, h1 m (by omega)]; simp; omega
    · rw [cntK_cut m z h1 (fun j hj1 hj2 => h2 j hj1 (by omega)), h2 m z (by omega)]; simp
theorem up_self {f : Int → Int} {i : Int} : up f i (f i) = f := by funext j; simp only [up]; split <;> simp_all
theorem up_rg {f : Int → Int} {i v : Int} (h : ∀ j, rg (f j)) (hv : rg v) : ∀ j, rg (up f i v j) := fun j => by unfold up; split; exact hv; exact h j
theorem dX4_putThreshold_0 : decode cX4_putThreshold 0 = .ok (.aload_n 0, 1) := by decide +kernel
theorem dX4_putThreshold_1 : decode cX4_putThreshold 1 = .ok (.getfield 28, 3) := by decide +kernel
theorem dX4_putThreshold_4 : decode cX4_putThreshold 4 = .ok (.iconst 5, 1) := by decide +kernel
theorem dX4_putThreshold_5 : decode cX4_putThreshold 5 = .ok (.if_icmp .lt 4, 3) := by decide +kernel
theorem dX4_putThreshold_8 : decode cX4_putThreshold 8 = .ok (.return_, 1) := by decide +kernel
theorem dX4_putThreshold_9 : decode cX4_putThreshold 9 = .ok (.aload_n 0, 1) := by decide +kernel
theorem dX4_putThreshold_10 : decode cX4_putThreshold 10 = .ok (.getfield 28, 3) := by decide +kernel
theorem dX4_putThreshold_13 : decode cX4_putThreshold 13 = .ok (.istore_n 2, 1) := by decide +kernel
theorem dX4_putThreshold_14 : decode cX4_putThreshold 14 = .ok (.iload_n 2, 1) := by decide +kernel
theorem dX4_putThreshold_15 : decode cX4_putThreshold 15 = .ok (.ifCond .le 35, 3) := by decide +kernel
theorem dX4_putThreshold_18 : decode cX4_putThreshold 18 = .ok (.aload_n 0, 1) := by decide +kernel
theorem dX4_putThreshold_19 : decode cX4_putThreshold 19 = .ok (.getfield 15, 3) := by decide +kernel
theorem dX4_putThreshold_22 : decode cX4_putThreshold 22 = .ok (.iload_n 2, 1) := by decide +kernel
theorem dX4_putThreshold_23 : decode cX4_putThreshold 23 = .ok (.iconst 1, 1) := by decide +kernel
theorem dX4_putThreshold_24 : decode cX4_putThreshold 24 = .ok (.isub, 1) := by decide +kernel
theorem dX4_putThreshold_25 : decode cX4_putThreshold 25 = .ok (.iaload, 1) := by decide +kernel
theorem dX4_putThreshold_26 : decode cX4_putThreshold 26 = .ok (.iload_n 1, 1) := by decide +kernel
theorem dX4_putThreshold_27 : decode cX4_putThreshold 27 = .ok (.if_icmp .le 23, 3) := by decide +kernel
theorem dX4_putThreshold_30 : decode cX4_putThreshold 30 = .ok (.aload_n 0, 1) := by decide +kernel
theorem dX4_putThreshold_31 : decode cX4_putThreshold 31 = .ok (.getfield 15, 3) := by decide +kernel
theorem dX4_putThreshold_34 : decode cX4_putThreshold 34 = .ok (.iload_n 2, 1) := by decide +kernel
theorem dX4_putThreshold_35 : decode cX4_putThreshold 35 = .ok (.aload_n 0, 1) := by decide +kernel
theorem dX4_putThreshold_36 : decode cX4_putThreshold 36 = .ok (.getfield 15, 3) := by decide +kernel
theorem dX4_putThreshold_39 : decode cX4_putThreshold 39 = .ok (.iload_n 2, 1) := by decide +kernel
theorem dX4_putThreshold_40 : decode cX4_putThreshold 40 = .ok (.iconst 1, 1) := by decide +kernel
theorem dX4_putThreshold_41 : decode cX4_putThreshold 41 = .ok (.isub, 1) := by decide +kernel
theorem dX4_putThreshold_42 : decode cX4_putThreshold 42 = .ok (.iaload, 1) := by decide +kernel
theorem dX4_putThreshold_43 : decode cX4_putThreshold 43 = .ok (.iastore, 1) := by decide +kernel
theorem dX4_putThreshold_44 : decode cX4_putThreshold 44 = .ok (.iinc 2 (-1), 3) := by decide +kernel
theorem dX4_putThreshold_47 : decode cX4_putThreshold 47 = .ok (.goto (-33), 3) := by decide +kernel
theorem dX4_putThreshold_50 : decode cX4_putThreshold 50 = .ok (.aload_n 0, 1) := by decide +kernel
theorem dX4_putThreshold_51 : decode cX4_putThreshold 51 = .ok (.getfield 15, 3) := by decide +kernel
theorem dX4_putThreshold_54 : decode cX4_putThreshold 54 = .ok (.iload_n 2, 1) := by decide +kernel
theorem dX4_putThreshold_55 : decode cX4_putThreshold 55 = .ok (.iload_n 1, 1) := by decide +kernel
theorem dX4_putThreshold_56 : decode cX4_putThreshold 56 = .ok (.iastore, 1) := by decide +kernel
theorem dX4_putThreshold_57 : decode cX4_putThreshold 57 = .ok (.aload_n 0, 1) := by decide +kernel
theorem dX4_putThreshold_58 : decode cX4_putThreshold 58 = .ok (.dup, 1) := by decide +kernel
theorem dX4_putThreshold_59 : decode cX4_putThreshold 59 = .ok (.getfield 28, 3) := by decide +kernel
theorem dX4_putThreshold_62 : decode cX4_putThreshold 62 = .ok (.iconst 1, 1) := by decide +kernel
theorem dX4_putThreshold_63 : decode cX4_putThreshold 63 = .ok (.iadd, 1) := by decide +kernel
theorem dX4_putThreshold_64 : decode cX4_putThreshold 64 = .ok (.putfield 28, 3) := by decide +kernel
theorem dX4_putThreshold_67 : decode cX4_putThreshold 67 = .ok (.return_, 1) := by decide +kernel
theorem c_putThreshold {n : Nat} {v : Int} (hn : n < 5) (hT : ∀ i, rg (T i)) (hs : srt T n) (hv : rg v) : Cd l yX4_putThreshold cX4_putThreshold 3 none rmX4_putThreshold [.ref 0, iv v] (stM c r G T n le Hh li) none (stM c r G (insT T n v) (n + 1 : Nat) le Hh li) := by
  refine Ct.of miX4_putThreshold (Nat.le_of_ble_eq_true rfl) ?_
  intro X hXl hN ok
  refine AW.cast (L2 := [some (.ref 0), some (iv v), none]) ?_ rfl rfl rfl
  have loop : ∀ p : Nat, (p ≤ n ∧ ∀ j : Int, p ≤ j → j < n → v < T j) → AW X 0 0 14 [some (.ref 0), some (iv v), some (iv p)] [] (stM c r G (fun j => if p < j ∧ j ≤ n then T (j - 1) else T j) n le Hh li) := by
    refine wfl (fun p : Nat => p) _ _ ?_
    intro p hp ih
    have hTp := hT ((p : Int) - 1)
    have hz : (if (p : Int) < (p : Int) - 1 ∧ (p : Int) - 1 ≤ n then T ((p : Int) - 1 - 1) else T ((p : Int) - 1)) = T ((p : Int) - 1) := if_neg (by omega)
    have fin : (p = 0 ∨ T ((p : Int) - 1) ≤ v) → AW X 0 0 50 [some (.ref 0), some (iv v), some (iv p)] [] (stM c r G (fun j => if p < j ∧ j ≤ n then T (j - 1) else T j) n le Hh li) := by
      intro hc
      have e : up (fun j => if (p : Int) < j ∧ j ≤ n then T (j - 1) else T j) p v = insT T n v := by
        have hcnt : cntK (fun k => decide (T k ≤ v)) n = p := by
          refine cntK_cut n hp.1 (fun j hj => ?_) (fun j hj1 hj2 => ?_)
          · rcases hc with hc | hc
            · omega
            · rcases Nat.lt_or_ge (j + 1) p with z | z
              · have := hs j ((p : Int) - 1) (by omega) (by omega) (by omega); simp; omega
              · rw [show (j : Int) = (p : Int) - 1 by omega]; simpa using hc
          · have := hp.2 j (by omega) (by omega); simp; omega
        funext j
        simp only [up, insT, hcnt]
        by_cases h1 : j = (p : Int)
        · simp [h1]
        · by_cases h2 : j < (p : Int)
          · simp [h1, h2]; omega
          · simp [h1, h2]; by_cases h3 : j ≤ (n : Int) <;> simp [h3] <;> omega
      refine a_aload_n (pc := 50) ok dX4_putThreshold_50 rfl ?_
      refine a_getf (pc := 51) ok dX4_putThreshold_51 fl4_15 rfl rfl ?_
      refine a_iload_n (pc := 54) ok dX4_putThreshold_54 rfl ?_
      refine a_iload_n (pc := 55) ok dX4_putThreshold_55 rfl ?_
      refine a_iast (pc := 56) ok dX4_putThreshold_56 rfl (by first | decide | omega) (by first | omega | (unfold rg; omega) | (simp only [rg] at *; omega) | exact bz_rg _ | grind [rg]) ?_
      refine a_aload_n (pc := 57) ok dX4_putThreshold_57 rfl ?_
      refine a_dup (pc := 58) ok dX4_putThreshold_58 rfl ?_
      refine a_getf (pc := 59) ok dX4_putThreshold_59 fl4_28 rfl rfl ?_
      refine a_iconst (pc := 62) ok dX4_putThreshold_62 ?_
      refine a_iadd (pc := 63) ok dX4_putThreshold_63 ?_
      refine a_putf (pc := 64) ok dX4_putThreshold_64 fp4_28 rfl (by first | rfl | decide) (by first | rfl | decide) (Nat.le_of_ble_eq_true rfl) ?_
      exact a_vret (pc := 67) ok dX4_putThreshold_67 (⟨rfl, by rw [← e]; rfl⟩)
    refine a_iload_n (pc := 14) ok dX4_putThreshold_14 rfl ?_
    refine a_if_le (pc := 15) (tgt := 50) ok dX4_putThreshold_15 (by decide) (by first | omega | (unfold rg; omega) | (simp only [rg] at *; omega) | exact bz_rg _ | grind [rg]) (fun c15 => ?_) (fun c15 => ?_)
    · exact fin (by omega)
    · refine a_aload_n (pc := 18) ok dX4_putThreshold_18 rfl ?_
      refine a_getf (pc := 19) ok dX4_putThreshold_19 fl4_15 rfl rfl ?_
      refine a_iload_n (pc := 22) ok dX4_putThreshold_22 rfl ?_
      refine a_iconst (pc := 23) ok dX4_putThreshold_23 ?_
      refine a_isub (pc := 24) ok dX4_putThreshold_24 ?_
      refine a_iald (pc := 25) ok dX4_putThreshold_25 rfl (by first | decide | omega) (by first | omega | (unfold rg; omega) | (simp only [rg] at *; omega) | exact bz_rg _ | grind [rg]) ?_
      refine a_iload_n (pc := 26) ok dX4_putThreshold_26 rfl ?_
      refine AW.cast (st2 := [iv v, iv (T ((p : Int) - 1))]) ?_ rfl (by rw [hz]) rfl
      refine a_icmp_le (pc := 27) (tgt := 50) ok dX4_putThreshold_27 (by decide) (by first | omega | (unfold rg; omega) | (simp only [rg] at *; omega) | exact bz_rg _ | grind [rg]) (by first | omega | (unfold rg; omega) | (simp only [rg] at *; omega) | exact bz_rg _ | grind [rg]) (fun c27 => ?_) (fun c27 => ?_)
      · exact fin (by omega)
      · refine a_aload_n (pc := 30) ok dX4_putThreshold_30 rfl ?_
        refine a_getf (pc := 31) ok dX4_putThreshold_31 fl4_15 rfl rfl ?_
        refine a_iload_n (pc := 34) ok dX4_putThreshold_34 rfl ?_
        refine a_aload_n (pc := 35) ok dX4_putThreshold_35 rfl ?_
        refine a_getf (pc := 36) ok dX4_putThreshold_36 fl4_15 rfl rfl ?_
        refine a_iload_n (pc := 39) ok dX4_putThreshold_39 rfl ?_
        refine a_iconst (pc := 40) ok dX4_putThreshold_40 ?_
        refine a_isub (pc := 41) ok dX4_putThreshold_41 ?_
        refine a_iald (pc := 42) ok dX4_putThreshold_42 rfl (by first | decide | omega) (by first | omega | (unfold rg; omega) | (simp only [rg] at *; omega) | exact bz_rg _ | grind [rg]) ?_
        refine AW.cast (st2 := [iv (T ((p : Int) - 1)), iv p, .ref 2]) ?_ rfl (by rw [hz]) rfl
        refine a_iast (pc := 43) ok dX4_putThreshold_43 rfl (by first | decide | omega) (by first | omega | (unfold rg; omega) | (simp only [rg] at *; omega) | exact bz_rg _ | grind [rg]) ?_
        refine a_iinc (pc := 44) ok dX4_putThreshold_44 rfl rfl (by rw [hN]; decide) ?_
        refine a_goto (pc := 47) (tgt := 14) ok dX4_putThreshold_47 (by decide) ?_
        refine AW.cast (ih (p - 1) ⟨by omega, fun j hj1 hj2 => ?_⟩ (by omega)) ?_ rfl ?_
        · rcases (show j = (p : Int) - 1 ∨ (p : Int) ≤ j by omega) with e | e
          · rw [e]; omega
          · exact hp.2 j e hj2
        · rw [show ((p - 1 : Nat) : Int) = (p : Int) + -1 by omega]; rfl
        · have e : up (fun j => if (p : Int) < j ∧ j ≤ n then T (j - 1) else T j) p (T ((p : Int) - 1)) = fun j => if ((p - 1 : Nat) : Int) < j ∧ j ≤ n then T (j - 1) else T j := by
            funext j; simp only [up]
            by_cases h1 : j = (p : Int)
            · simp [h1]; omega
            · simp [h1]; split <;> split <;> first | rfl | omega
          exact congrArg (fun f => stM c r G f n le Hh li) e
  refine a_aload_n (pc := 0) ok dX4_putThreshold_0 rfl ?_
  refine a_getf (pc := 1) ok dX4_putThreshold_1 fl4_28 rfl rfl ?_
  refine a_iconst (pc := 4) ok dX4_putThreshold_4 ?_
  refine a_icmp_lt (pc := 5) (tgt := 9) ok dX4_putThreshold_5 (by decide) (by first | omega | (unfold rg; omega) | (simp only [rg] at *; omega) | exact bz_rg _ | grind [rg]) (by first | omega | (unfold rg; omega) | (simp only [rg] at *; omega) | exact bz_rg _ | grind [rg]) (fun c5 => ?_) (fun c5 => ?_)
  · refine a_aload_n (pc := 9) ok dX4_putThreshold_9 rfl ?_
    refine a_getf (pc := 10) ok dX4_putThreshold_10 fl4_28 rfl rfl ?_
    refine a_istore_n (pc := 13) ok dX4_putThreshold_13 rfl (by rw [hN]; decide) ?_
    refine AW.cast (loop n ⟨Nat.le_refl _, fun j h1 h2 => by omega⟩) rfl rfl ?_
    have e : T = fun j => if (n : Int) < j ∧ j ≤ n then T (j - 1) else T j := by funext j; rw [if_neg (by omega)]
    exact congrArg (fun f => stM c r G f n le Hh li) e
  · exfalso; first | omega | grind
end ST2
