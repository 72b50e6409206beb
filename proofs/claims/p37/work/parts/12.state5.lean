/-! STATE: distances, spreads, turned greys, noise. -/
section ST5
variable {l : Launch} {c r le li : Int} {G T Hh : Int → Int}
/-- the least distance to a grey of another band -/
def dstK (T : Int → Int) (g : Int) : Nat → Int
  | 0 => -1
  | k + 1 => if dstK T g k = -1 ∨ (if T k ≤ g then g - T k + 1 else T k - g) < dstK T g k then (if T k ≤ g then g - T k + 1 else T k - g) else dstK T g k
theorem dstK_rg {g : Int} (hT : ∀ i, 0 ≤ T i ∧ T i ≤ 99) (hg : 0 ≤ g ∧ g ≤ 99) : ∀ k : Nat, -1 ≤ dstK T g k ∧ dstK T g k ≤ 100
  | 0 => by simp [dstK]
  | k + 1 => by have := dstK_rg hT hg k; have := hT k; simp only [dstK]; split <;> (try split) <;> omega
theorem dX4_distanceToOtherBand_0 : decode cX4_distanceToOtherBand 0 = .ok (.iconst (-1), 1) := by decide +kernel
theorem dX4_distanceToOtherBand_1 : decode cX4_distanceToOtherBand 1 = .ok (.istore_n 2, 1) := by decide +kernel
theorem dX4_distanceToOtherBand_2 : decode cX4_distanceToOtherBand 2 = .ok (.iconst 0, 1) := by decide +kernel
theorem dX4_distanceToOtherBand_3 : decode cX4_distanceToOtherBand 3 = .ok (.istore_n 3, 1) := by decide +kernel
theorem dX4_distanceToOtherBand_4 : decode cX4_distanceToOtherBand 4 = .ok (.iload_n 3, 1) := by decide +kernel
theorem dX4_distanceToOtherBand_5 : decode cX4_distanceToOtherBand 5 = .ok (.aload_n 0, 1) := by decide +kernel
theorem dX4_distanceToOtherBand_6 : decode cX4_distanceToOtherBand 6 = .ok (.getfield 28, 3) := by decide +kernel
theorem dX4_distanceToOtherBand_9 : decode cX4_distanceToOtherBand 9 = .ok (.if_icmp .ge 52, 3) := by decide +kernel
theorem dX4_distanceToOtherBand_12 : decode cX4_distanceToOtherBand 12 = .ok (.aload_n 0, 1) := by decide +kernel
theorem dX4_distanceToOtherBand_13 : decode cX4_distanceToOtherBand 13 = .ok (.getfield 15, 3) := by decide +kernel
theorem dX4_distanceToOtherBand_16 : decode cX4_distanceToOtherBand 16 = .ok (.iload_n 3, 1) := by decide +kernel
theorem dX4_distanceToOtherBand_17 : decode cX4_distanceToOtherBand 17 = .ok (.iaload, 1) := by decide +kernel
theorem dX4_distanceToOtherBand_18 : decode cX4_distanceToOtherBand 18 = .ok (.istore 4, 2) := by decide +kernel
theorem dX4_distanceToOtherBand_20 : decode cX4_distanceToOtherBand 20 = .ok (.iload 4, 2) := by decide +kernel
theorem dX4_distanceToOtherBand_22 : decode cX4_distanceToOtherBand 22 = .ok (.iload_n 1, 1) := by decide +kernel
theorem dX4_distanceToOtherBand_23 : decode cX4_distanceToOtherBand 23 = .ok (.if_icmp .gt 12, 3) := by decide +kernel
theorem dX4_distanceToOtherBand_26 : decode cX4_distanceToOtherBand 26 = .ok (.iload_n 1, 1) := by decide +kernel
theorem dX4_distanceToOtherBand_27 : decode cX4_distanceToOtherBand 27 = .ok (.iload 4, 2) := by decide +kernel
theorem dX4_distanceToOtherBand_29 : decode cX4_distanceToOtherBand 29 = .ok (.isub, 1) := by decide +kernel
theorem dX4_distanceToOtherBand_30 : decode cX4_distanceToOtherBand 30 = .ok (.iconst 1, 1) := by decide +kernel
theorem dX4_distanceToOtherBand_31 : decode cX4_distanceToOtherBand 31 = .ok (.iadd, 1) := by decide +kernel
theorem dX4_distanceToOtherBand_32 : decode cX4_distanceToOtherBand 32 = .ok (.goto 7, 3) := by decide +kernel
theorem dX4_distanceToOtherBand_35 : decode cX4_distanceToOtherBand 35 = .ok (.iload 4, 2) := by decide +kernel
theorem dX4_distanceToOtherBand_37 : decode cX4_distanceToOtherBand 37 = .ok (.iload_n 1, 1) := by decide +kernel
theorem dX4_distanceToOtherBand_38 : decode cX4_distanceToOtherBand 38 = .ok (.isub, 1) := by decide +kernel
theorem dX4_distanceToOtherBand_39 : decode cX4_distanceToOtherBand 39 = .ok (.istore 5, 2) := by decide +kernel
theorem dX4_distanceToOtherBand_41 : decode cX4_distanceToOtherBand 41 = .ok (.iload_n 2, 1) := by decide +kernel
theorem dX4_distanceToOtherBand_42 : decode cX4_distanceToOtherBand 42 = .ok (.iconst (-1), 1) := by decide +kernel
theorem dX4_distanceToOtherBand_43 : decode cX4_distanceToOtherBand 43 = .ok (.if_icmp .eq 9, 3) := by decide +kernel
theorem dX4_distanceToOtherBand_46 : decode cX4_distanceToOtherBand 46 = .ok (.iload 5, 2) := by decide +kernel
theorem dX4_distanceToOtherBand_48 : decode cX4_distanceToOtherBand 48 = .ok (.iload_n 2, 1) := by decide +kernel
theorem dX4_distanceToOtherBand_49 : decode cX4_distanceToOtherBand 49 = .ok (.if_icmp .ge 6, 3) := by decide +kernel
theorem dX4_distanceToOtherBand_52 : decode cX4_distanceToOtherBand 52 = .ok (.iload 5, 2) := by decide +kernel
theorem dX4_distanceToOtherBand_54 : decode cX4_distanceToOtherBand 54 = .ok (.istore_n 2, 1) := by decide +kernel
theorem dX4_distanceToOtherBand_55 : decode cX4_distanceToOtherBand 55 = .ok (.iinc 3 1, 3) := by decide +kernel
theorem dX4_distanceToOtherBand_58 : decode cX4_distanceToOtherBand 58 = .ok (.goto (-54), 3) := by decide +kernel
theorem dX4_distanceToOtherBand_61 : decode cX4_distanceToOtherBand 61 = .ok (.iload_n 2, 1) := by decide +kernel
theorem dX4_distanceToOtherBand_62 : decode cX4_distanceToOtherBand 62 = .ok (.ireturn, 1) := by decide +kernel
theorem c_distanceToOtherBand {n : Nat} {g : Int} (hn : n ≤ 5) (hT : ∀ i, 0 ≤ T i ∧ T i ≤ 99) (hg : 0 ≤ g ∧ g ≤ 99) : Cd l yX4_distanceToOtherBand cX4_distanceToOtherBand 6 (some .int) rmX4_distanceToOtherBand [.ref 0, iv g] (stM c r G T n le Hh li) (some (iv (dstK T g n))) (stM c r G T n le Hh li) := by
  refine Ct.of miX4_distanceToOtherBand (Nat.le_of_ble_eq_true rfl) ?_
  intro X hXl hN ok
  refine AW.cast (L2 := [some (.ref 0), some (iv g), none, none, none, none]) ?_ rfl rfl rfl
  have loop : ∀ k : Nat, k ≤ n → AW X 0 0 4 [some (.ref 0), some (iv g), some (iv (dstK T g k)), some (iv k), none, none] [] (stM c r G T n le Hh li) := by
    refine wfl (fun k : Nat => n - k) _ _ ?_
    intro k hk ih
    have hTk := hT k
    have hdk := dstK_rg hT hg k
    refine a_iload_n (pc := 4) ok dX4_distanceToOtherBand_4 rfl ?_
    refine a_aload_n (pc := 5) ok dX4_distanceToOtherBand_5 rfl ?_
    refine a_getf (pc := 6) ok dX4_distanceToOtherBand_6 fl4_28 rfl rfl ?_
    refine a_icmp_ge (pc := 9) (tgt := 61) ok dX4_distanceToOtherBand_9 (by decide) (by first | omega | (unfold rg; omega) | (simp only [rg] at *; omega) | exact bz_rg _ | grind [rg]) (by first | omega | (unfold rg; omega) | (simp only [rg] at *; omega) | exact bz_rg _ | grind [rg]) (fun c9 => ?_) (fun c9 => ?_)
    · have e : k = n := by omega
      subst e
      refine a_iload_n (pc := 61) ok dX4_distanceToOtherBand_61 rfl ?_
      exact a_iret (pc := 62) ok dX4_distanceToOtherBand_62 (⟨rfl, rfl⟩)
    · refine a_aload_n (pc := 12) ok dX4_distanceToOtherBand_12 rfl ?_
      refine a_getf (pc := 13) ok dX4_distanceToOtherBand_13 fl4_15 rfl rfl ?_
      refine a_iload_n (pc := 16) ok dX4_distanceToOtherBand_16 rfl ?_
      refine a_iald (pc := 17) ok dX4_distanceToOtherBand_17 rfl (by first | decide | omega) (by first | omega | (unfold rg; omega) | (simp only [rg] at *; omega) | exact bz_rg _ | grind [rg]) ?_
      refine a_istore (pc := 18) ok dX4_distanceToOtherBand_18 rfl (by rw [hN]; decide) ?_
      refine a_iload (pc := 20) ok dX4_distanceToOtherBand_20 rfl ?_
      refine a_iload_n (pc := 22) ok dX4_distanceToOtherBand_22 rfl ?_
      refine a_icmp_gt (pc := 23) (tgt := 35) ok dX4_distanceToOtherBand_23 (by decide) (by first | omega | (unfold rg; omega) | (simp only [rg] at *; omega) | exact bz_rg _ | grind [rg]) (by first | omega | (unfold rg; omega) | (simp only [rg] at *; omega) | exact bz_rg _ | grind [rg]) (fun c23 => ?_) (fun c23 => ?_)
      · refine a_iload (pc := 35) ok dX4_distanceToOtherBand_35 rfl ?_
        refine a_iload_n (pc := 37) ok dX4_distanceToOtherBand_37 rfl ?_
        refine a_isub (pc := 38) ok dX4_distanceToOtherBand_38 ?_
        refine AW.cast (st2 := [iv (if T k ≤ g then g - T k + 1 else T k - g)]) ?_ rfl (by first | (rw [if_pos (by omega)] <;> rfl) | (rw [if_neg (by omega)] <;> rfl)) rfl
        have hdd : (if T k ≤ g then g - T k + 1 else T k - g) = g - T k + 1 ∨ (if T k ≤ g then g - T k + 1 else T k - g) = T k - g := by split <;> simp
        have hd2 : 0 ≤ (if T k ≤ g then g - T k + 1 else T k - g) ∧ (if T k ≤ g then g - T k + 1 else T k - g) ≤ 100 := by split <;> omega
        generalize hq : (if T k ≤ g then g - T k + 1 else T k - g) = q at hd2
        refine a_istore (pc := 39) ok dX4_distanceToOtherBand_39 rfl (by rw [hN]; decide) ?_
        refine a_iload_n (pc := 41) ok dX4_distanceToOtherBand_41 rfl ?_
        refine a_iconst (pc := 42) ok dX4_distanceToOtherBand_42 ?_
        refine a_icmp_eq (pc := 43) (tgt := 52) ok dX4_distanceToOtherBand_43 (by decide) (by first | omega | (unfold rg; omega) | (simp only [rg] at *; omega) | exact bz_rg _ | grind [rg]) (by first | omega | (unfold rg; omega) | (simp only [rg] at *; omega) | exact bz_rg _ | grind [rg]) (fun c43 => ?_) (fun c43 => ?_)
        · refine a_iload (pc := 52) ok dX4_distanceToOtherBand_52 rfl ?_
          refine a_istore_n (pc := 54) ok dX4_distanceToOtherBand_54 rfl (by rw [hN]; decide) ?_
          refine AW.cast (L2 := [some (.ref 0), some (iv g), some (iv (dstK T g (k + 1))), some (iv k), some (iv (T k)), some (iv q)]) ?_ (by have e : dstK T g (k + 1) = (if dstK T g k = -1 ∨ q < dstK T g k then q else dstK T g k) := (by simp only [dstK]; rw [hq]); rw [e]; first | (rw [if_pos (by omega)] <;> rfl) | (rw [if_neg (by omega)] <;> rfl)) rfl rfl
          refine a_iinc (pc := 55) ok dX4_distanceToOtherBand_55 rfl rfl (by rw [hN]; decide) ?_
          refine a_goto (pc := 58) (tgt := 4) ok dX4_distanceToOtherBand_58 (by decide) ?_
          exact AW.forget (ih (k + 1) (by omega) (by omega)) (by repeat' (first | exact trivial | refine ⟨rfl, ?_⟩))
        · refine a_iload (pc := 46) ok dX4_distanceToOtherBand_46 rfl ?_
          refine a_iload_n (pc := 48) ok dX4_distanceToOtherBand_48 rfl ?_
          refine a_icmp_ge (pc := 49) (tgt := 55) ok dX4_distanceToOtherBand_49 (by decide) (by first | omega | (unfold rg; omega) | (simp only [rg] at *; omega) | exact bz_rg _ | grind [rg]) (by first | omega | (unfold rg; omega) | (simp only [rg] at *; omega) | exact bz_rg _ | grind [rg]) (fun c49 => ?_) (fun c49 => ?_)
          · refine AW.cast (L2 := [some (.ref 0), some (iv g), some (iv (dstK T g (k + 1))), some (iv k), some (iv (T k)), some (iv q)]) ?_ (by have e : dstK T g (k + 1) = (if dstK T g k = -1 ∨ q < dstK T g k then q else dstK T g k) := (by simp only [dstK]; rw [hq]); rw [e]; first | (rw [if_pos (by omega)] <;> rfl) | (rw [if_neg (by omega)] <;> rfl)) rfl rfl
            refine a_iinc (pc := 55) ok dX4_distanceToOtherBand_55 rfl rfl (by rw [hN]; decide) ?_
            refine a_goto (pc := 58) (tgt := 4) ok dX4_distanceToOtherBand_58 (by decide) ?_
            exact AW.forget (ih (k + 1) (by omega) (by omega)) (by repeat' (first | exact trivial | refine ⟨rfl, ?_⟩))
          · refine a_iload (pc := 52) ok dX4_distanceToOtherBand_52 rfl ?_
            refine a_istore_n (pc := 54) ok dX4_distanceToOtherBand_54 rfl (by rw [hN]; decide) ?_
            refine AW.cast (L2 := [some (.ref 0), some (iv g), some (iv (dstK T g (k + 1))), some (iv k), some (iv (T k)), some (iv q)]) ?_ (by have e : dstK T g (k + 1) = (if dstK T g k = -1 ∨ q < dstK T g k then q else dstK T g k) := (by simp only [dstK]; rw [hq]); rw [e]; first | (rw [if_pos (by omega)] <;> rfl) | (rw [if_neg (by omega)] <;> rfl)) rfl rfl
            refine a_iinc (pc := 55) ok dX4_distanceToOtherBand_55 rfl rfl (by rw [hN]; decide) ?_
            refine a_goto (pc := 58) (tgt := 4) ok dX4_distanceToOtherBand_58 (by decide) ?_
            exact AW.forget (ih (k + 1) (by omega) (by omega)) (by repeat' (first | exact trivial | refine ⟨rfl, ?_⟩))
      · refine a_iload_n (pc := 26) ok dX4_distanceToOtherBand_26 rfl ?_
        refine a_iload (pc := 27) ok dX4_distanceToOtherBand_27 rfl ?_
        refine a_isub (pc := 29) ok dX4_distanceToOtherBand_29 ?_
        refine a_iconst (pc := 30) ok dX4_distanceToOtherBand_30 ?_
        refine a_iadd (pc := 31) ok dX4_distanceToOtherBand_31 ?_
        refine a_goto (pc := 32) (tgt := 39) ok dX4_distanceToOtherBand_32 (by decide) ?_
        refine AW.cast (st2 := [iv (if T k ≤ g then g - T k + 1 else T k - g)]) ?_ rfl (by first | (rw [if_pos (by omega)] <;> rfl) | (rw [if_neg (by omega)] <;> rfl)) rfl
        have hdd : (if T k ≤ g then g - T k + 1 else T k - g) = g - T k + 1 ∨ (if T k ≤ g then g - T k + 1 else T k - g) = T k - g := by split <;> simp
        have hd2 : 0 ≤ (if T k ≤ g then g - T k + 1 else T k - g) ∧ (if T k ≤ g then g - T k + 1 else T k - g) ≤ 100 := by split <;> omega
        generalize hq : (if T k ≤ g then g - T k + 1 else T k - g) = q at hd2
        refine a_istore (pc := 39) ok dX4_distanceToOtherBand_39 rfl (by rw [hN]; decide) ?_
        refine a_iload_n (pc := 41) ok dX4_distanceToOtherBand_41 rfl ?_
        refine a_iconst (pc := 42) ok dX4_distanceToOtherBand_42 ?_
        refine a_icmp_eq (pc := 43) (tgt := 52) ok dX4_distanceToOtherBand_43 (by decide) (by first | omega | (unfold rg; omega) | (simp only [rg] at *; omega) | exact bz_rg _ | grind [rg]) (by first | omega | (unfold rg; omega) | (simp only [rg] at *; omega) | exact bz_rg _ | grind [rg]) (fun c43 => ?_) (fun c43 => ?_)
        · refine a_iload (pc := 52) ok dX4_distanceToOtherBand_52 rfl ?_
          refine a_istore_n (pc := 54) ok dX4_distanceToOtherBand_54 rfl (by rw [hN]; decide) ?_
          refine AW.cast (L2 := [some (.ref 0), some (iv g), some (iv (dstK T g (k + 1))), some (iv k), some (iv (T k)), some (iv q)]) ?_ (by have e : dstK T g (k + 1) = (if dstK T g k = -1 ∨ q < dstK T g k then q else dstK T g k) := (by simp only [dstK]; rw [hq]); rw [e]; first | (rw [if_pos (by omega)] <;> rfl) | (rw [if_neg (by omega)] <;> rfl)) rfl rfl
          refine a_iinc (pc := 55) ok dX4_distanceToOtherBand_55 rfl rfl (by rw [hN]; decide) ?_
          refine a_goto (pc := 58) (tgt := 4) ok dX4_distanceToOtherBand_58 (by decide) ?_
          exact AW.forget (ih (k + 1) (by omega) (by omega)) (by repeat' (first | exact trivial | refine ⟨rfl, ?_⟩))
        · refine a_iload (pc := 46) ok dX4_distanceToOtherBand_46 rfl ?_
          refine a_iload_n (pc := 48) ok dX4_distanceToOtherBand_48 rfl ?_
          refine a_icmp_ge (pc := 49) (tgt := 55) ok dX4_distanceToOtherBand_49 (by decide) (by first | omega | (unfold rg; omega) | (simp only [rg] at *; omega) | exact bz_rg _ | grind [rg]) (by first | omega | (unfold rg; omega) | (simp only [rg] at *; omega) | exact bz_rg _ | grind [rg]) (fun c49 => ?_) (fun c49 => ?_)
          · refine AW.cast (L2 := [some (.ref 0), some (iv g), some (iv (dstK T g (k + 1))), some (iv k), some (iv (T k)), some (iv q)]) ?_ (by have e : dstK T g (k + 1) = (if dstK T g k = -1 ∨ q < dstK T g k then q else dstK T g k) := (by simp only [dstK]; rw [hq]); rw [e]; first | (rw [if_pos (by omega)] <;> rfl) | (rw [if_neg (by omega)] <;> rfl)) rfl rfl
            refine a_iinc (pc := 55) ok dX4_distanceToOtherBand_55 rfl rfl (by rw [hN]; decide) ?_
            refine a_goto (pc := 58) (tgt := 4) ok dX4_distanceToOtherBand_58 (by decide) ?_
            exact AW.forget (ih (k + 1) (by omega) (by omega)) (by repeat' (first | exact trivial | refine ⟨rfl, ?_⟩))
          · refine a_iload (pc := 52) ok dX4_distanceToOtherBand_52 rfl ?_
            refine a_istore_n (pc := 54) ok dX4_distanceToOtherBand_54 rfl (by rw [hN]; decide) ?_
            refine AW.cast (L2 := [some (.ref 0), some (iv g), some (iv (dstK T g (k + 1))), some (iv k), some (iv (T k)), some (iv q)]) ?_ (by have e : dstK T g (k + 1) = (if dstK T g k = -1 ∨ q < dstK T g k then q else dstK T g k) := (by simp only [dstK]; rw [hq]); rw [e]; first | (rw [if_pos (by omega)] <;> rfl) | (rw [if_neg (by omega)] <;> rfl)) rfl rfl
            refine a_iinc (pc := 55) ok dX4_distanceToOtherBand_55 rfl rfl (by rw [hN]; decide) ?_
            refine a_goto (pc := 58) (tgt := 4) ok dX4_distanceToOtherBand_58 (by decide) ?_
            exact AW.forget (ih (k + 1) (by omega) (by omega)) (by repeat' (first | exact trivial | refine ⟨rfl, ?_⟩))
  refine a_iconst (pc := 0) ok dX4_distanceToOtherBand_0 ?_
  refine a_istore_n (pc := 1) ok dX4_distanceToOtherBand_1 rfl (by rw [hN]; decide) ?_
  refine a_iconst (pc := 2) ok dX4_distanceToOtherBand_2 ?_
  refine a_istore_n (pc := 3) ok dX4_distanceToOtherBand_3 rfl (by rw [hN]; decide) ?_
  exact loop 0 (by omega)
theorem dX4_trySetLeast_0 : decode cX4_trySetLeast 0 = .ok (.iload_n 1, 1) := by decide +kernel
theorem dX4_trySetLeast_1 : decode cX4_trySetLeast 1 = .ok (.iconst 1, 1) := by decide +kernel
theorem dX4_trySetLeast_2 : decode cX4_trySetLeast 2 = .ok (.bipush 30, 2) := by decide +kernel
theorem dX4_trySetLeast_4 : decode cX4_trySetLeast 4 = .ok (.invokestatic 68, 3) := by decide +kernel
theorem dX4_trySetLeast_7 : decode cX4_trySetLeast 7 = .ok (.ifCond .ne 5, 3) := by decide +kernel
theorem dX4_trySetLeast_10 : decode cX4_trySetLeast 10 = .ok (.iconst 0, 1) := by decide +kernel
theorem dX4_trySetLeast_11 : decode cX4_trySetLeast 11 = .ok (.ireturn, 1) := by decide +kernel
theorem dX4_trySetLeast_12 : decode cX4_trySetLeast 12 = .ok (.aload_n 0, 1) := by decide +kernel
theorem dX4_trySetLeast_13 : decode cX4_trySetLeast 13 = .ok (.iload_n 1, 1) := by decide +kernel
theorem dX4_trySetLeast_14 : decode cX4_trySetLeast 14 = .ok (.putfield 32, 3) := by decide +kernel
theorem dX4_trySetLeast_17 : decode cX4_trySetLeast 17 = .ok (.iconst 1, 1) := by decide +kernel
theorem dX4_trySetLeast_18 : decode cX4_trySetLeast 18 = .ok (.ireturn, 1) := by decide +kernel
theorem c_trySetLeast {n v : Int} (hv : rg v) : Cd l yX4_trySetLeast cX4_trySetLeast 2 (some .boolean) rmX4_trySetLeast [.ref 0, iv v] (stM c r G T n le Hh li) (some (iv (bz (1 ≤ v ∧ v ≤ 30)))) (stM c r G T n (if 1 ≤ v ∧ v ≤ 30 then v else le) Hh li) := by
  refine Ct.of miX4_trySetLeast (Nat.le_of_ble_eq_true rfl) ?_
  intro X hXl hN ok
  refine AW.cast (L2 := [some (.ref 0), some (iv v)]) ?_ rfl rfl rfl
  refine a_iload_n (pc := 0) ok dX4_trySetLeast_0 rfl ?_
  refine a_iconst (pc := 1) ok dX4_trySetLeast_1 ?_
  refine a_bipush (pc := 2) ok dX4_trySetLeast_2 (by decide) ?_
  refine a_callSp (pc := 4) ok [] dX4_trySetLeast_4 mv4_68 miX6_isWithin (c_isWithin hv (by unfold rg; omega) (by unfold rg; omega)) ⟨by decide, by decide, rfl, rfl, Nat.zero_le _, Nat.zero_le _⟩ rfl rfl (by decide) rfl (by decide) ?_
  refine a_if_ne (pc := 7) (tgt := 12) ok dX4_trySetLeast_7 (by decide) (by first | omega | (unfold rg; omega) | (simp only [rg] at *; omega) | exact bz_rg _ | grind [rg]) (fun c7 => ?_) (fun c7 => ?_)
  · refine a_aload_n (pc := 12) ok dX4_trySetLeast_12 rfl ?_
    refine a_iload_n (pc := 13) ok dX4_trySetLeast_13 rfl ?_
    refine a_putf (pc := 14) ok dX4_trySetLeast_14 fp4_32 rfl (by first | rfl | decide) (by first | rfl | decide) (Nat.le_of_ble_eq_true rfl) ?_
    refine a_iconst (pc := 17) ok dX4_trySetLeast_17 ?_
    exact a_zret (pc := 18) ok dX4_trySetLeast_18 (by first | rfl | exact nb_bz _ | decide) (by rw [bz_0, Decidable.not_not] at c7; rw [if_pos c7]; exact ⟨congrArg (fun z => some (iv z)) (bz_pos c7).symm, rfl⟩)
  · refine a_iconst (pc := 10) ok dX4_trySetLeast_10 ?_
    exact a_zret (pc := 11) ok dX4_trySetLeast_11 (by first | rfl | exact nb_bz _ | decide) (by rw [bz_0] at c7; rw [if_neg c7]; exact ⟨congrArg (fun z => some (iv z)) (bz_neg c7).symm, rfl⟩)
/-- a grey that is spread -/
def spF (v g : Int) : Int := if g < v then 0 else if 99 - v < g then 99 else (g - v) * 99 / (99 - 2 * v)
theorem spF_rg {v g : Int} (hv : 1 ≤ v ∧ v ≤ 49) : 0 ≤ spF v g ∧ spF v g ≤ 99 := by
  unfold spF; split
  · omega
  · split
    · omega
    · refine ⟨Int.ediv_nonneg (by omega) (by omega), ?_⟩
      have : (g - v) * 99 ≤ 99 * (99 - 2 * v) := by omega
      exact Int.ediv_le_of_le_mul (by omega) this
theorem dX4_spreadOut_0 : decode cX4_spreadOut 0 = .ok (.iload_n 0, 1) := by decide +kernel
theorem dX4_spreadOut_1 : decode cX4_spreadOut 1 = .ok (.iload_n 1, 1) := by decide +kernel
theorem dX4_spreadOut_2 : decode cX4_spreadOut 2 = .ok (.if_icmp .ge 5, 3) := by decide +kernel
theorem dX4_spreadOut_5 : decode cX4_spreadOut 5 = .ok (.iconst 0, 1) := by decide +kernel
theorem dX4_spreadOut_6 : decode cX4_spreadOut 6 = .ok (.ireturn, 1) := by decide +kernel
theorem dX4_spreadOut_7 : decode cX4_spreadOut 7 = .ok (.iload_n 0, 1) := by decide +kernel
theorem dX4_spreadOut_8 : decode cX4_spreadOut 8 = .ok (.bipush 99, 2) := by decide +kernel
theorem dX4_spreadOut_10 : decode cX4_spreadOut 10 = .ok (.iload_n 1, 1) := by decide +kernel
theorem dX4_spreadOut_11 : decode cX4_spreadOut 11 = .ok (.isub, 1) := by decide +kernel
theorem dX4_spreadOut_12 : decode cX4_spreadOut 12 = .ok (.if_icmp .le 6, 3) := by decide +kernel
theorem dX4_spreadOut_15 : decode cX4_spreadOut 15 = .ok (.bipush 99, 2) := by decide +kernel
theorem dX4_spreadOut_17 : decode cX4_spreadOut 17 = .ok (.ireturn, 1) := by decide +kernel
theorem dX4_spreadOut_18 : decode cX4_spreadOut 18 = .ok (.iload_n 0, 1) := by decide +kernel
theorem dX4_spreadOut_19 : decode cX4_spreadOut 19 = .ok (.iload_n 1, 1) := by decide +kernel
theorem dX4_spreadOut_20 : decode cX4_spreadOut 20 = .ok (.isub, 1) := by decide +kernel
theorem dX4_spreadOut_21 : decode cX4_spreadOut 21 = .ok (.bipush 99, 2) := by decide +kernel
theorem dX4_spreadOut_23 : decode cX4_spreadOut 23 = .ok (.imul, 1) := by decide +kernel
theorem dX4_spreadOut_24 : decode cX4_spreadOut 24 = .ok (.bipush 99, 2) := by decide +kernel
theorem dX4_spreadOut_26 : decode cX4_spreadOut 26 = .ok (.iconst 2, 1) := by decide +kernel
theorem dX4_spreadOut_27 : decode cX4_spreadOut 27 = .ok (.iload_n 1, 1) := by decide +kernel
theorem dX4_spreadOut_28 : decode cX4_spreadOut 28 = .ok (.imul, 1) := by decide +kernel
theorem dX4_spreadOut_29 : decode cX4_spreadOut 29 = .ok (.isub, 1) := by decide +kernel
theorem dX4_spreadOut_30 : decode cX4_spreadOut 30 = .ok (.idiv, 1) := by decide +kernel
theorem dX4_spreadOut_31 : decode cX4_spreadOut 31 = .ok (.ireturn, 1) := by decide +kernel
theorem c_spreadOut {g v : Int} (hg : 0 ≤ g ∧ g ≤ 99) (hv : 1 ≤ v ∧ v ≤ 49) : Cd l yX4_spreadOut cX4_spreadOut 2 (some .int) rmX4_spreadOut [iv g, iv v] [] (some (iv (spF v g))) [] := by
  refine Ct.of miX4_spreadOut (Nat.le_of_ble_eq_true rfl) ?_
  intro X hXl hN ok
  refine AW.cast (L2 := [some (iv g), some (iv v)]) ?_ rfl rfl rfl
  refine a_iload_n (pc := 0) ok dX4_spreadOut_0 rfl ?_
  refine a_iload_n (pc := 1) ok dX4_spreadOut_1 rfl ?_
  refine a_icmp_ge (pc := 2) (tgt := 7) ok dX4_spreadOut_2 (by decide) (by first | omega | (unfold rg; omega) | (simp only [rg] at *; omega) | exact bz_rg _ | grind [rg]) (by first | omega | (unfold rg; omega) | (simp only [rg] at *; omega) | exact bz_rg _ | grind [rg]) (fun c2 => ?_) (fun c2 => ?_)
  · refine a_iload_n (pc := 7) ok dX4_spreadOut_7 rfl ?_
    refine a_bipush (pc := 8) ok dX4_spreadOut_8 (by decide) ?_
    refine a_iload_n (pc := 10) ok dX4_spreadOut_10 rfl ?_
    refine a_isub (pc := 11) ok dX4_spreadOut_11 ?_
    refine a_icmp_le (pc := 12) (tgt := 18) ok dX4_spreadOut_12 (by decide) (by first | omega | (unfold rg; omega) | (simp only [rg] at *; omega) | exact bz_rg _ | grind [rg]) (by first | omega | (unfold rg; omega) | (simp only [rg] at *; omega) | exact bz_rg _ | grind [rg]) (fun c12 => ?_) (fun c12 => ?_)
    · refine a_iload_n (pc := 18) ok dX4_spreadOut_18 rfl ?_
      refine a_iload_n (pc := 19) ok dX4_spreadOut_19 rfl ?_
      refine a_isub (pc := 20) ok dX4_spreadOut_20 ?_
      refine a_bipush (pc := 21) ok dX4_spreadOut_21 (by decide) ?_
      refine a_imul (pc := 23) ok dX4_spreadOut_23 ?_
      refine a_bipush (pc := 24) ok dX4_spreadOut_24 (by decide) ?_
      refine a_iconst (pc := 26) ok dX4_spreadOut_26 ?_
      refine a_iload_n (pc := 27) ok dX4_spreadOut_27 rfl ?_
      refine a_imul (pc := 28) ok dX4_spreadOut_28 ?_
      refine a_isub (pc := 29) ok dX4_spreadOut_29 ?_
      refine a_idiv (pc := 30) ok dX4_spreadOut_30 (by first | omega | (unfold rg; omega) | (simp only [rg] at *; omega) | exact bz_rg _ | grind [rg]) (by first | omega | (unfold rg; omega) | (simp only [rg] at *; omega) | exact bz_rg _ | grind [rg]) ?_
      exact a_iret (pc := 31) ok dX4_spreadOut_31 (by unfold spF; rw [if_neg (by omega), if_neg (by omega)]; exact ⟨rfl, rfl⟩)
    · refine a_bipush (pc := 15) ok dX4_spreadOut_15 (by decide) ?_
      exact a_iret (pc := 17) ok dX4_spreadOut_17 (by unfold spF; rw [if_neg (by omega), if_pos (by omega)]; exact ⟨rfl, rfl⟩)
  · refine a_iconst (pc := 5) ok dX4_spreadOut_5 ?_
    exact a_iret (pc := 6) ok dX4_spreadOut_6 (by unfold spF; rw [if_pos (by omega)]; exact ⟨rfl, rfl⟩)
theorem dX4_spreadGreys_0 : decode cX4_spreadGreys 0 = .ok (.aload_n 0, 1) := by decide +kernel
theorem dX4_spreadGreys_1 : decode cX4_spreadGreys 1 = .ok (.invokevirtual 56, 3) := by decide +kernel
theorem dX4_spreadGreys_4 : decode cX4_spreadGreys 4 = .ok (.istore_n 2, 1) := by decide +kernel
theorem dX4_spreadGreys_5 : decode cX4_spreadGreys 5 = .ok (.iconst 0, 1) := by decide +kernel
theorem dX4_spreadGreys_6 : decode cX4_spreadGreys 6 = .ok (.istore_n 3, 1) := by decide +kernel
theorem dX4_spreadGreys_7 : decode cX4_spreadGreys 7 = .ok (.iconst 0, 1) := by decide +kernel
theorem dX4_spreadGreys_8 : decode cX4_spreadGreys 8 = .ok (.istore 4, 2) := by decide +kernel
theorem dX4_spreadGreys_10 : decode cX4_spreadGreys 10 = .ok (.iload 4, 2) := by decide +kernel
theorem dX4_spreadGreys_12 : decode cX4_spreadGreys 12 = .ok (.iload_n 2, 1) := by decide +kernel
theorem dX4_spreadGreys_13 : decode cX4_spreadGreys 13 = .ok (.if_icmp .ge 46, 3) := by decide +kernel
theorem dX4_spreadGreys_16 : decode cX4_spreadGreys 16 = .ok (.aload_n 0, 1) := by decide +kernel
theorem dX4_spreadGreys_17 : decode cX4_spreadGreys 17 = .ok (.getfield 9, 3) := by decide +kernel
theorem dX4_spreadGreys_20 : decode cX4_spreadGreys 20 = .ok (.iload 4, 2) := by decide +kernel
theorem dX4_spreadGreys_22 : decode cX4_spreadGreys 22 = .ok (.iaload, 1) := by decide +kernel
theorem dX4_spreadGreys_23 : decode cX4_spreadGreys 23 = .ok (.iload_n 1, 1) := by decide +kernel
theorem dX4_spreadGreys_24 : decode cX4_spreadGreys 24 = .ok (.invokestatic 109, 3) := by decide +kernel
theorem dX4_spreadGreys_27 : decode cX4_spreadGreys 27 = .ok (.istore 5, 2) := by decide +kernel
theorem dX4_spreadGreys_29 : decode cX4_spreadGreys 29 = .ok (.iload 5, 2) := by decide +kernel
theorem dX4_spreadGreys_31 : decode cX4_spreadGreys 31 = .ok (.aload_n 0, 1) := by decide +kernel
theorem dX4_spreadGreys_32 : decode cX4_spreadGreys 32 = .ok (.getfield 9, 3) := by decide +kernel
theorem dX4_spreadGreys_35 : decode cX4_spreadGreys 35 = .ok (.iload 4, 2) := by decide +kernel
theorem dX4_spreadGreys_37 : decode cX4_spreadGreys 37 = .ok (.iaload, 1) := by decide +kernel
theorem dX4_spreadGreys_38 : decode cX4_spreadGreys 38 = .ok (.if_icmp .eq 6, 3) := by decide +kernel
theorem dX4_spreadGreys_41 : decode cX4_spreadGreys 41 = .ok (.iinc 3 1, 3) := by decide +kernel
theorem dX4_spreadGreys_44 : decode cX4_spreadGreys 44 = .ok (.aload_n 0, 1) := by decide +kernel
theorem dX4_spreadGreys_45 : decode cX4_spreadGreys 45 = .ok (.getfield 9, 3) := by decide +kernel
theorem dX4_spreadGreys_48 : decode cX4_spreadGreys 48 = .ok (.iload 4, 2) := by decide +kernel
theorem dX4_spreadGreys_50 : decode cX4_spreadGreys 50 = .ok (.iload 5, 2) := by decide +kernel
theorem dX4_spreadGreys_52 : decode cX4_spreadGreys 52 = .ok (.iastore, 1) := by decide +kernel
theorem dX4_spreadGreys_53 : decode cX4_spreadGreys 53 = .ok (.iinc 4 1, 3) := by decide +kernel
theorem dX4_spreadGreys_56 : decode cX4_spreadGreys 56 = .ok (.goto (-46), 3) := by decide +kernel
theorem dX4_spreadGreys_59 : decode cX4_spreadGreys 59 = .ok (.iload_n 3, 1) := by decide +kernel
theorem dX4_spreadGreys_60 : decode cX4_spreadGreys 60 = .ok (.ireturn, 1) := by decide +kernel
theorem c_spreadGreys {n v : Int} (hd : dim c r) (hG : ∀ i, 0 ≤ G i ∧ G i ≤ 99) (hv : 1 ≤ v ∧ v ≤ 49) : Cd l yX4_spreadGreys cX4_spreadGreys 6 (some .int) rmX4_spreadGreys [.ref 0, iv v] (stM c r G T n le Hh li) (some (iv (cntK (fun j => decide (spF v (G j) ≠ G j)) (c * r).toNat))) (stM c r (mapK (fun j => spF v (G j)) (c * r) G) T n le Hh li) := by
  refine Ct.of miX4_spreadGreys (Nat.le_of_ble_eq_true rfl) ?_
  intro X hXl hN ok
  refine AW.cast (L2 := [some (.ref 0), some (iv v), none, none, none, none]) ?_ rfl rfl rfl
  have hc := dim_cells hd
  have loop : ∀ k : Nat, (k : Int) ≤ c * r → AW X 0 0 10 [some (.ref 0), some (iv v), some (iv (c * r)), some (iv (cntK (fun j => decide (spF v (G j) ≠ G j)) k)), some (iv k), none] [] (stM c r (mapK (fun j => spF v (G j)) k G) T n le Hh li) := by
    refine wfl (fun k : Nat => (c * r).toNat - k) _ _ ?_
    intro k hk ih
    have hGk := hG k
    have hat : mapK (fun j => spF v (G j)) k G k = G k := mapK_at
    have hs := spF_rg (g := G k) hv
    have hup : up (mapK (fun j => spF v (G j)) k G) k (spF v (G k)) = mapK (fun j => spF v (G j)) ((k + 1 : Nat) : Int) G := mapK_up (by omega)
    refine a_iload (pc := 10) ok dX4_spreadGreys_10 rfl ?_
    refine a_iload_n (pc := 12) ok dX4_spreadGreys_12 rfl ?_
    refine a_icmp_ge (pc := 13) (tgt := 59) ok dX4_spreadGreys_13 (by decide) (by first | omega | (unfold rg; omega) | (simp only [rg] at *; omega) | exact bz_rg _ | grind [rg]) (by first | omega | (unfold rg; omega) | (simp only [rg] at *; omega) | exact bz_rg _ | grind [rg]) (fun c13 => ?_) (fun c13 => ?_)
    · have e : (k : Int) = c * r := by omega
      have e2 : k = (c * r).toNat := by omega
      refine a_iload_n (pc := 59) ok dX4_spreadGreys_59 rfl ?_
      exact a_iret (pc := 60) ok dX4_spreadGreys_60 (by rw [← e2, ← e]; exact ⟨rfl, rfl⟩)
    · refine a_aload_n (pc := 16) ok dX4_spreadGreys_16 rfl ?_
      refine a_getf (pc := 17) ok dX4_spreadGreys_17 fl4_9 rfl rfl ?_
      refine a_iload (pc := 20) ok dX4_spreadGreys_20 rfl ?_
      refine a_iald (pc := 22) ok dX4_spreadGreys_22 rfl (by first | decide | omega) (by first | omega | (unfold rg; omega) | (simp only [rg] at *; omega) | exact bz_rg _ | grind [rg]) ?_
      refine AW.cast (st2 := [iv (G k)]) ?_ rfl (by rw [hat]) rfl
      refine a_iload_n (pc := 23) ok dX4_spreadGreys_23 rfl ?_
      refine a_callSp (pc := 24) ok [] dX4_spreadGreys_24 mv4_109 miX4_spreadOut (c_spreadOut hGk hv) ⟨by decide, by decide, rfl, rfl, Nat.zero_le _, Nat.zero_le _⟩ rfl rfl (by decide) rfl (by decide) ?_
      refine a_istore (pc := 27) ok dX4_spreadGreys_27 rfl (by rw [hN]; decide) ?_
      refine a_iload (pc := 29) ok dX4_spreadGreys_29 rfl ?_
      refine a_aload_n (pc := 31) ok dX4_spreadGreys_31 rfl ?_
      refine a_getf (pc := 32) ok dX4_spreadGreys_32 fl4_9 rfl rfl ?_
      refine a_iload (pc := 35) ok dX4_spreadGreys_35 rfl ?_
      refine a_iald (pc := 37) ok dX4_spreadGreys_37 rfl (by first | decide | omega) (by first | omega | (unfold rg; omega) | (simp only [rg] at *; omega) | exact bz_rg _ | grind [rg]) ?_
      refine AW.cast (st2 := [iv (G k), iv (spF v (G k))]) ?_ rfl (by rw [hat]) rfl
      refine a_icmp_eq (pc := 38) (tgt := 44) ok dX4_spreadGreys_38 (by decide) (by first | omega | (unfold rg; omega) | (simp only [rg] at *; omega) | exact bz_rg _ | grind [rg]) (by first | omega | (unfold rg; omega) | (simp only [rg] at *; omega) | exact bz_rg _ | grind [rg]) (fun c38 => ?_) (fun c38 => ?_)
      · refine AW.cast (L2 := [some (.ref 0), some (iv v), some (iv (c * r)), some (iv (cntK (fun j => decide (spF v (G j) ≠ G j)) (k + 1))), some (iv k), some (iv (spF v (G k)))]) ?_ (by first | (rw [cntK_t (decide_eq_true (by omega))] <;> rfl) | (rw [cntK_f (decide_eq_false (by omega))] <;> rfl)) rfl rfl
        refine a_aload_n (pc := 44) ok dX4_spreadGreys_44 rfl ?_
        refine a_getf (pc := 45) ok dX4_spreadGreys_45 fl4_9 rfl rfl ?_
        refine a_iload (pc := 48) ok dX4_spreadGreys_48 rfl ?_
        refine a_iload (pc := 50) ok dX4_spreadGreys_50 rfl ?_
        refine a_iast (pc := 52) ok dX4_spreadGreys_52 rfl (by first | decide | omega) (by first | omega | (unfold rg; omega) | (simp only [rg] at *; omega) | exact bz_rg _ | grind [rg]) ?_
        refine a_iinc (pc := 53) ok dX4_spreadGreys_53 rfl rfl (by rw [hN]; decide) ?_
        refine a_goto (pc := 56) (tgt := 10) ok dX4_spreadGreys_56 (by decide) ?_
        refine AW.cast (AW.forget (ih (k + 1) (by omega) (by omega)) (by repeat' (first | exact trivial | refine ⟨rfl, ?_⟩))) rfl rfl ?_
        exact congrArg (fun f => stM c r f T n le Hh li) hup
      · refine a_iinc (pc := 41) ok dX4_spreadGreys_41 rfl rfl (by rw [hN]; decide) ?_
        refine AW.cast (L2 := [some (.ref 0), some (iv v), some (iv (c * r)), some (iv (cntK (fun j => decide (spF v (G j) ≠ G j)) (k + 1))), some (iv k), some (iv (spF v (G k)))]) ?_ (by first | (rw [cntK_t (decide_eq_true (by omega))] <;> rfl) | (rw [cntK_f (decide_eq_false (by omega))] <;> rfl)) rfl rfl
        refine a_aload_n (pc := 44) ok dX4_spreadGreys_44 rfl ?_
        refine a_getf (pc := 45) ok dX4_spreadGreys_45 fl4_9 rfl rfl ?_
        refine a_iload (pc := 48) ok dX4_spreadGreys_48 rfl ?_
        refine a_iload (pc := 50) ok dX4_spreadGreys_50 rfl ?_
        refine a_iast (pc := 52) ok dX4_spreadGreys_52 rfl (by first | decide | omega) (by first | omega | (unfold rg; omega) | (simp only [rg] at *; omega) | exact bz_rg _ | grind [rg]) ?_
        refine a_iinc (pc := 53) ok dX4_spreadGreys_53 rfl rfl (by rw [hN]; decide) ?_
        refine a_goto (pc := 56) (tgt := 10) ok dX4_spreadGreys_56 (by decide) ?_
        refine AW.cast (AW.forget (ih (k + 1) (by omega) (by omega)) (by repeat' (first | exact trivial | refine ⟨rfl, ?_⟩))) rfl rfl ?_
        exact congrArg (fun f => stM c r f T n le Hh li) hup
  refine a_aload_n (pc := 0) ok dX4_spreadGreys_0 rfl ?_
  refine a_callVp (pc := 1) ok [0, 1, 2, 3] dX4_spreadGreys_1 mv4_56 miX4_cellCount (c_cellCount) ⟨by decide, by decide, rfl, rfl, Nat.zero_le _, Nat.zero_le _⟩ rfl rfl (by decide) rfl (by decide) rfl rfl ?_
  refine a_istore_n (pc := 4) ok dX4_spreadGreys_4 rfl (by rw [hN]; decide) ?_
  refine a_iconst (pc := 5) ok dX4_spreadGreys_5 ?_
  refine a_istore_n (pc := 6) ok dX4_spreadGreys_6 rfl (by rw [hN]; decide) ?_
  refine a_iconst (pc := 7) ok dX4_spreadGreys_7 ?_
  refine a_istore (pc := 8) ok dX4_spreadGreys_8 rfl (by rw [hN]; decide) ?_
  exact AW.cast (loop 0 (by omega)) rfl rfl (congrArg (fun f => stM c r f T n le Hh li) mapK_0.symm)
theorem dX4_trySpread_0 : decode cX4_trySpread 0 = .ok (.iload_n 1, 1) := by decide +kernel
theorem dX4_trySpread_1 : decode cX4_trySpread 1 = .ok (.iconst 1, 1) := by decide +kernel
theorem dX4_trySpread_2 : decode cX4_trySpread 2 = .ok (.bipush 49, 2) := by decide +kernel
theorem dX4_trySpread_4 : decode cX4_trySpread 4 = .ok (.invokestatic 68, 3) := by decide +kernel
theorem dX4_trySpread_7 : decode cX4_trySpread 7 = .ok (.ifCond .ne 5, 3) := by decide +kernel
theorem dX4_trySpread_10 : decode cX4_trySpread 10 = .ok (.iconst 0, 1) := by decide +kernel
theorem dX4_trySpread_11 : decode cX4_trySpread 11 = .ok (.ireturn, 1) := by decide +kernel
theorem dX4_trySpread_12 : decode cX4_trySpread 12 = .ok (.aload_n 0, 1) := by decide +kernel
theorem dX4_trySpread_13 : decode cX4_trySpread 13 = .ok (.iload_n 1, 1) := by decide +kernel
theorem dX4_trySpread_14 : decode cX4_trySpread 14 = .ok (.invokevirtual 112, 3) := by decide +kernel
theorem dX4_trySpread_17 : decode cX4_trySpread 17 = .ok (.pop, 1) := by decide +kernel
theorem dX4_trySpread_18 : decode cX4_trySpread 18 = .ok (.iconst 1, 1) := by decide +kernel
theorem dX4_trySpread_19 : decode cX4_trySpread 19 = .ok (.ireturn, 1) := by decide +kernel
theorem c_trySpread {n v : Int} (hd : dim c r) (hG : ∀ i, 0 ≤ G i ∧ G i ≤ 99) (hv : rg v) : Cd l yX4_trySpread cX4_trySpread 2 (some .boolean) rmX4_trySpread [.ref 0, iv v] (stM c r G T n le Hh li) (some (iv (bz (1 ≤ v ∧ v ≤ 49)))) (stM c r (if 1 ≤ v ∧ v ≤ 49 then mapK (fun j => spF v (G j)) (c * r) G else G) T n le Hh li) := by
  refine Ct.of miX4_trySpread (Nat.le_of_ble_eq_true rfl) ?_
  intro X hXl hN ok
  refine AW.cast (L2 := [some (.ref 0), some (iv v)]) ?_ rfl rfl rfl
  refine a_iload_n (pc := 0) ok dX4_trySpread_0 rfl ?_
  refine a_iconst (pc := 1) ok dX4_trySpread_1 ?_
  refine a_bipush (pc := 2) ok dX4_trySpread_2 (by decide) ?_
  refine a_callSp (pc := 4) ok [] dX4_trySpread_4 mv4_68 miX6_isWithin (c_isWithin hv (by unfold rg; omega) (by unfold rg; omega)) ⟨by decide, by decide, rfl, rfl, Nat.zero_le _, Nat.zero_le _⟩ rfl rfl (by decide) rfl (by decide) ?_
  refine a_if_ne (pc := 7) (tgt := 12) ok dX4_trySpread_7 (by decide) (by first | omega | (unfold rg; omega) | (simp only [rg] at *; omega) | exact bz_rg _ | grind [rg]) (fun c7 => ?_) (fun c7 => ?_)
  · refine a_aload_n (pc := 12) ok dX4_trySpread_12 rfl ?_
    refine a_iload_n (pc := 13) ok dX4_trySpread_13 rfl ?_
    refine a_callVi (pc := 14) ok [0, 1, 2, 3] dX4_trySpread_14 mv4_112 miX4_spreadGreys (c_spreadGreys hd hG (by rw [bz_0, Decidable.not_not] at c7; exact c7)) ⟨by decide, by decide, rfl, rfl, Nat.zero_le _, Nat.zero_le _⟩ rfl rfl (by decide) rfl (by decide) rfl rfl rfl ?_
    refine a_pop (pc := 17) ok dX4_trySpread_17 rfl ?_
    refine a_iconst (pc := 18) ok dX4_trySpread_18 ?_
    exact a_zret (pc := 19) ok dX4_trySpread_19 (by first | rfl | exact nb_bz _ | decide) (by rw [bz_0, Decidable.not_not] at c7; rw [if_pos c7]; exact ⟨congrArg (fun z => some (iv z)) (bz_pos c7).symm, rfl⟩)
  · refine a_iconst (pc := 10) ok dX4_trySpread_10 ?_
    exact a_zret (pc := 11) ok dX4_trySpread_11 (by first | rfl | exact nb_bz _ | decide) (by rw [bz_0] at c7; rw [if_neg c7]; exact ⟨congrArg (fun z => some (iv z)) (bz_neg c7).symm, rfl⟩)
theorem dX4_invertGreys_0 : decode cX4_invertGreys 0 = .ok (.aload_n 0, 1) := by decide +kernel
theorem dX4_invertGreys_1 : decode cX4_invertGreys 1 = .ok (.invokevirtual 56, 3) := by decide +kernel
theorem dX4_invertGreys_4 : decode cX4_invertGreys 4 = .ok (.istore_n 1, 1) := by decide +kernel
theorem dX4_invertGreys_5 : decode cX4_invertGreys 5 = .ok (.iconst 0, 1) := by decide +kernel
theorem dX4_invertGreys_6 : decode cX4_invertGreys 6 = .ok (.istore_n 2, 1) := by decide +kernel
theorem dX4_invertGreys_7 : decode cX4_invertGreys 7 = .ok (.iload_n 2, 1) := by decide +kernel
theorem dX4_invertGreys_8 : decode cX4_invertGreys 8 = .ok (.iload_n 1, 1) := by decide +kernel
theorem dX4_invertGreys_9 : decode cX4_invertGreys 9 = .ok (.if_icmp .ge 24, 3) := by decide +kernel
theorem dX4_invertGreys_12 : decode cX4_invertGreys 12 = .ok (.aload_n 0, 1) := by decide +kernel
theorem dX4_invertGreys_13 : decode cX4_invertGreys 13 = .ok (.getfield 9, 3) := by decide +kernel
theorem dX4_invertGreys_16 : decode cX4_invertGreys 16 = .ok (.iload_n 2, 1) := by decide +kernel
theorem dX4_invertGreys_17 : decode cX4_invertGreys 17 = .ok (.bipush 99, 2) := by decide +kernel
theorem dX4_invertGreys_19 : decode cX4_invertGreys 19 = .ok (.aload_n 0, 1) := by decide +kernel
theorem dX4_invertGreys_20 : decode cX4_invertGreys 20 = .ok (.getfield 9, 3) := by decide +kernel
theorem dX4_invertGreys_23 : decode cX4_invertGreys 23 = .ok (.iload_n 2, 1) := by decide +kernel
theorem dX4_invertGreys_24 : decode cX4_invertGreys 24 = .ok (.iaload, 1) := by decide +kernel
theorem dX4_invertGreys_25 : decode cX4_invertGreys 25 = .ok (.isub, 1) := by decide +kernel
theorem dX4_invertGreys_26 : decode cX4_invertGreys 26 = .ok (.iastore, 1) := by decide +kernel
theorem dX4_invertGreys_27 : decode cX4_invertGreys 27 = .ok (.iinc 2 1, 3) := by decide +kernel
theorem dX4_invertGreys_30 : decode cX4_invertGreys 30 = .ok (.goto (-23), 3) := by decide +kernel
theorem dX4_invertGreys_33 : decode cX4_invertGreys 33 = .ok (.iconst 1, 1) := by decide +kernel
theorem dX4_invertGreys_34 : decode cX4_invertGreys 34 = .ok (.ireturn, 1) := by decide +kernel
theorem c_invertGreys {n : Int} (hd : dim c r) : Cd l yX4_invertGreys cX4_invertGreys 3 (some .boolean) rmX4_invertGreys [.ref 0] (stM c r G T n le Hh li) (some (iv 1)) (stM c r (mapK (fun j => 99 - G j) (c * r) G) T n le Hh li) := by
  refine Ct.of miX4_invertGreys (Nat.le_of_ble_eq_true rfl) ?_
  intro X hXl hN ok
  refine AW.cast (L2 := [some (.ref 0), none, none]) ?_ rfl rfl rfl
  have hc := dim_cells hd
  have loop : ∀ k : Nat, (k : Int) ≤ c * r → AW X 0 0 7 [some (.ref 0), some (iv (c * r)), some (iv k)] [] (stM c r (mapK (fun j => 99 - G j) k G) T n le Hh li) := by
    refine wfl (fun k : Nat => (c * r).toNat - k) _ _ ?_
    intro k hk ih
    have hat : mapK (fun j => 99 - G j) k G k = G k := mapK_at
    have hup : up (mapK (fun j => 99 - G j) k G) k (99 - G k) = mapK (fun j => 99 - G j) ((k + 1 : Nat) : Int) G := mapK_up (by omega)
    refine a_iload_n (pc := 7) ok dX4_invertGreys_7 rfl ?_
    refine a_iload_n (pc := 8) ok dX4_invertGreys_8 rfl ?_
    refine a_icmp_ge (pc := 9) (tgt := 33) ok dX4_invertGreys_9 (by decide) (by first | omega | (unfold rg; omega) | (simp only [rg] at *; omega) | exact bz_rg _ | grind [rg]) (by first | omega | (unfold rg; omega) | (simp only [rg] at *; omega) | exact bz_rg _ | grind [rg]) (fun c9 => ?_) (fun c9 => ?_)
    · have e : (k : Int) = c * r := by omega
      refine a_iconst (pc := 33) ok dX4_invertGreys_33 ?_
      exact a_zret (pc := 34) ok dX4_invertGreys_34 (by first | rfl | exact nb_bz _ | decide) (by rw [← e]; exact ⟨rfl, rfl⟩)
    · refine a_aload_n (pc := 12) ok dX4_invertGreys_12 rfl ?_
      refine a_getf (pc := 13) ok dX4_invertGreys_13 fl4_9 rfl rfl ?_
      refine a_iload_n (pc := 16) ok dX4_invertGreys_16 rfl ?_
      refine a_bipush (pc := 17) ok dX4_invertGreys_17 (by decide) ?_
      refine a_aload_n (pc := 19) ok dX4_invertGreys_19 rfl ?_
      refine a_getf (pc := 20) ok dX4_invertGreys_20 fl4_9 rfl rfl ?_
      refine a_iload_n (pc := 23) ok dX4_invertGreys_23 rfl ?_
      refine a_iald (pc := 24) ok dX4_invertGreys_24 rfl (by first | decide | omega) (by first | omega | (unfold rg; omega) | (simp only [rg] at *; omega) | exact bz_rg _ | grind [rg]) ?_
      refine AW.cast (st2 := [iv (G k), iv 99, iv k, .ref 1]) ?_ rfl (by rw [hat]) rfl
      refine a_isub (pc := 25) ok dX4_invertGreys_25 ?_
      refine a_iast (pc := 26) ok dX4_invertGreys_26 rfl (by first | decide | omega) (by first | omega | (unfold rg; omega) | (simp only [rg] at *; omega) | exact bz_rg _ | grind [rg]) ?_
      refine a_iinc (pc := 27) ok dX4_invertGreys_27 rfl rfl (by rw [hN]; decide) ?_
      refine a_goto (pc := 30) (tgt := 7) ok dX4_invertGreys_30 (by decide) ?_
      refine AW.cast (ih (k + 1) (by omega) (by omega)) rfl rfl ?_
      exact congrArg (fun f => stM c r f T n le Hh li) hup
  refine a_aload_n (pc := 0) ok dX4_invertGreys_0 rfl ?_
  refine a_callVp (pc := 1) ok [0, 1, 2, 3] dX4_invertGreys_1 mv4_56 miX4_cellCount (c_cellCount) ⟨by decide, by decide, rfl, rfl, Nat.zero_le _, Nat.zero_le _⟩ rfl rfl (by decide) rfl (by decide) rfl rfl ?_
  refine a_istore_n (pc := 4) ok dX4_invertGreys_4 rfl (by rw [hN]; decide) ?_
  refine a_iconst (pc := 5) ok dX4_invertGreys_5 ?_
  refine a_istore_n (pc := 6) ok dX4_invertGreys_6 rfl (by rw [hN]; decide) ?_
  exact AW.cast (loop 0 (by omega)) rfl rfl (congrArg (fun f => stM c r f T n le Hh li) mapK_0.symm)
/-- the noise's numbers: the k-th behind a seed -/
def lcg (x : Int) : Int := x * 6364136223846793005 + 1442695040888963407
def lcgK (x : Int) : Nat → Int
  | 0 => x
  | k + 1 => lcg (lcgK x k)
theorem sh33_rg (x : Int) : 0 ≤ sh33 x ∧ sh33 x < 2147483648 := by
  have key : ∀ u : UInt64, 0 ≤ ((u >>> 33).toInt64).toInt ∧ ((u >>> 33).toInt64).toInt < 2147483648 := by
    intro u
    have h1 : (u >>> 33).toNat < 2147483648 := by
      rw [UInt64.toNat_shiftRight]
      have : u.toNat < 2 ^ 64 := u.toNat_lt
      rw [Nat.shiftRight_eq_div_pow]
      show u.toNat / 2 ^ 33 < _
      omega
    have h2 : ((u >>> 33).toInt64).toInt = ((u >>> 33).toNat : Int) := by
      rw [← Int64.toInt_toBitVec]
      show (u >>> 33).toBitVec.toInt = _
      rw [BitVec.toInt_eq_toNat_of_lt (by show 2 * (u >>> 33).toNat < _; omega)]
      rfl
    omega
  exact key (Int64.ofInt x).toUInt64
def noF (G : Int → Int) (x v : Int) (k : Int) : Int := max 0 (min 99 (G k + sh33 (lcgK x (k.toNat + 1)) % (2 * v + 1) - v))
theorem dX4_addNoise_0 : decode cX4_addNoise 0 = .ok (.aload_n 0, 1) := by decide +kernel
theorem dX4_addNoise_1 : decode cX4_addNoise 1 = .ok (.invokevirtual 56, 3) := by decide +kernel
theorem dX4_addNoise_4 : decode cX4_addNoise 4 = .ok (.istore 4, 2) := by decide +kernel
theorem dX4_addNoise_6 : decode cX4_addNoise 6 = .ok (.iconst 0, 1) := by decide +kernel
theorem dX4_addNoise_7 : decode cX4_addNoise 7 = .ok (.istore 5, 2) := by decide +kernel
theorem dX4_addNoise_9 : decode cX4_addNoise 9 = .ok (.lload_n 1, 1) := by decide +kernel
theorem dX4_addNoise_10 : decode cX4_addNoise 10 = .ok (.lstore 6, 2) := by decide +kernel
theorem dX4_addNoise_12 : decode cX4_addNoise 12 = .ok (.iconst 0, 1) := by decide +kernel
theorem dX4_addNoise_13 : decode cX4_addNoise 13 = .ok (.istore 8, 2) := by decide +kernel
theorem dX4_addNoise_15 : decode cX4_addNoise 15 = .ok (.iload 8, 2) := by decide +kernel
theorem dX4_addNoise_17 : decode cX4_addNoise 17 = .ok (.iload 4, 2) := by decide +kernel
theorem dX4_addNoise_19 : decode cX4_addNoise 19 = .ok (.if_icmp .ge 82, 3) := by decide +kernel
theorem dX4_addNoise_22 : decode cX4_addNoise 22 = .ok (.lload 6, 2) := by decide +kernel
theorem dX4_addNoise_24 : decode cX4_addNoise 24 = .ok (.ldc2_w 115, 3) := by decide +kernel
theorem dX4_addNoise_27 : decode cX4_addNoise 27 = .ok (.lmul, 1) := by decide +kernel
theorem dX4_addNoise_28 : decode cX4_addNoise 28 = .ok (.ldc2_w 117, 3) := by decide +kernel
theorem dX4_addNoise_31 : decode cX4_addNoise 31 = .ok (.ladd, 1) := by decide +kernel
theorem dX4_addNoise_32 : decode cX4_addNoise 32 = .ok (.lstore 6, 2) := by decide +kernel
theorem dX4_addNoise_34 : decode cX4_addNoise 34 = .ok (.aload_n 0, 1) := by decide +kernel
theorem dX4_addNoise_35 : decode cX4_addNoise 35 = .ok (.getfield 9, 3) := by decide +kernel
theorem dX4_addNoise_38 : decode cX4_addNoise 38 = .ok (.iload 8, 2) := by decide +kernel
theorem dX4_addNoise_40 : decode cX4_addNoise 40 = .ok (.iaload, 1) := by decide +kernel
theorem dX4_addNoise_41 : decode cX4_addNoise 41 = .ok (.lload 6, 2) := by decide +kernel
theorem dX4_addNoise_43 : decode cX4_addNoise 43 = .ok (.bipush 33, 2) := by decide +kernel
theorem dX4_addNoise_45 : decode cX4_addNoise 45 = .ok (.lushr, 1) := by decide +kernel
theorem dX4_addNoise_46 : decode cX4_addNoise 46 = .ok (.l2i, 1) := by decide +kernel
theorem dX4_addNoise_47 : decode cX4_addNoise 47 = .ok (.iconst 2, 1) := by decide +kernel
theorem dX4_addNoise_48 : decode cX4_addNoise 48 = .ok (.iload_n 3, 1) := by decide +kernel
theorem dX4_addNoise_49 : decode cX4_addNoise 49 = .ok (.imul, 1) := by decide +kernel
theorem dX4_addNoise_50 : decode cX4_addNoise 50 = .ok (.iconst 1, 1) := by decide +kernel
theorem dX4_addNoise_51 : decode cX4_addNoise 51 = .ok (.iadd, 1) := by decide +kernel
theorem dX4_addNoise_52 : decode cX4_addNoise 52 = .ok (.irem, 1) := by decide +kernel
theorem dX4_addNoise_53 : decode cX4_addNoise 53 = .ok (.iadd, 1) := by decide +kernel
theorem dX4_addNoise_54 : decode cX4_addNoise 54 = .ok (.iload_n 3, 1) := by decide +kernel
theorem dX4_addNoise_55 : decode cX4_addNoise 55 = .ok (.isub, 1) := by decide +kernel
theorem dX4_addNoise_56 : decode cX4_addNoise 56 = .ok (.istore 9, 2) := by decide +kernel
theorem dX4_addNoise_58 : decode cX4_addNoise 58 = .ok (.iconst 0, 1) := by decide +kernel
theorem dX4_addNoise_59 : decode cX4_addNoise 59 = .ok (.bipush 99, 2) := by decide +kernel
theorem dX4_addNoise_61 : decode cX4_addNoise 61 = .ok (.iload 9, 2) := by decide +kernel
theorem dX4_addNoise_63 : decode cX4_addNoise 63 = .ok (.invokestatic 119, 3) := by decide +kernel
theorem dX4_addNoise_66 : decode cX4_addNoise 66 = .ok (.invokestatic 124, 3) := by decide +kernel
theorem dX4_addNoise_69 : decode cX4_addNoise 69 = .ok (.istore 9, 2) := by decide +kernel
theorem dX4_addNoise_71 : decode cX4_addNoise 71 = .ok (.iload 9, 2) := by decide +kernel
theorem dX4_addNoise_73 : decode cX4_addNoise 73 = .ok (.aload_n 0, 1) := by decide +kernel
theorem dX4_addNoise_74 : decode cX4_addNoise 74 = .ok (.getfield 9, 3) := by decide +kernel
theorem dX4_addNoise_77 : decode cX4_addNoise 77 = .ok (.iload 8, 2) := by decide +kernel
theorem dX4_addNoise_79 : decode cX4_addNoise 79 = .ok (.iaload, 1) := by decide +kernel
theorem dX4_addNoise_80 : decode cX4_addNoise 80 = .ok (.if_icmp .eq 6, 3) := by decide +kernel
theorem dX4_addNoise_83 : decode cX4_addNoise 83 = .ok (.iinc 5 1, 3) := by decide +kernel
theorem dX4_addNoise_86 : decode cX4_addNoise 86 = .ok (.aload_n 0, 1) := by decide +kernel
theorem dX4_addNoise_87 : decode cX4_addNoise 87 = .ok (.getfield 9, 3) := by decide +kernel
theorem dX4_addNoise_90 : decode cX4_addNoise 90 = .ok (.iload 8, 2) := by decide +kernel
theorem dX4_addNoise_92 : decode cX4_addNoise 92 = .ok (.iload 9, 2) := by decide +kernel
theorem dX4_addNoise_94 : decode cX4_addNoise 94 = .ok (.iastore, 1) := by decide +kernel
theorem dX4_addNoise_95 : decode cX4_addNoise 95 = .ok (.iinc 8 1, 3) := by decide +kernel
theorem dX4_addNoise_98 : decode cX4_addNoise 98 = .ok (.goto (-83), 3) := by decide +kernel
theorem dX4_addNoise_101 : decode cX4_addNoise 101 = .ok (.iload 5, 2) := by decide +kernel
theorem dX4_addNoise_103 : decode cX4_addNoise 103 = .ok (.ireturn, 1) := by decide +kernel
theorem c_addNoise {n v x : Int} (hd : dim c r) (hG : ∀ i, 0 ≤ G i ∧ G i ≤ 99) (hv : 1 ≤ v ∧ v ≤ 50) : Cd l yX4_addNoise cX4_addNoise 10 (some .int) rmX4_addNoise [.ref 0, jv x, iv v] (stM c r G T n le Hh li) (some (iv (cntK (fun j => decide (noF G x v j ≠ G j)) (c * r).toNat))) (stM c r (mapK (noF G x v) (c * r) G) T n le Hh li) := by
  refine Ct.of miX4_addNoise (Nat.le_of_ble_eq_true rfl) ?_
  intro X hXl hN ok
  refine AW.cast (L2 := [some (.ref 0), some (jv x), none, some (iv v), none, none, none, none, none, none]) ?_ rfl rfl rfl
  have hc := dim_cells hd
  have loop : ∀ k : Nat, (k : Int) ≤ c * r → AW X 0 0 15 [some (.ref 0), some (jv x), none, some (iv v), some (iv (c * r)), some (iv (cntK (fun j => decide (noF G x v j ≠ G j)) k)), some (jv (lcgK x k)), none, some (iv k), none] [] (stM c r (mapK (noF G x v) k G) T n le Hh li) := by
    refine wfl (fun k : Nat => (c * r).toNat - k) _ _ ?_
    intro k hk ih
    have hGk := hG k
    have hat : mapK (noF G x v) k G k = G k := mapK_at
    have hs := sh33_rg (lcgK x (k + 1))
    have hm : 0 ≤ sh33 (lcgK x (k + 1)) % (2 * v + 1) ∧ sh33 (lcgK x (k + 1)) % (2 * v + 1) < 2 * v + 1 := ⟨Int.emod_nonneg _ (by omega), Int.emod_lt_of_pos _ (by omega)⟩
    have hno : noF G x v k = max 0 (min 99 (G k + sh33 (lcgK x (k + 1)) % (2 * v + 1) - v)) := by simp only [noF, Int.toNat_natCast]
    have hup : up (mapK (noF G x v) k G) k (noF G x v k) = mapK (noF G x v) ((k + 1 : Nat) : Int) G := mapK_up (by omega)
    have hnr : 0 ≤ noF G x v k ∧ noF G x v k ≤ 99 := by rw [hno]; omega
    refine a_iload (pc := 15) ok dX4_addNoise_15 rfl ?_
    refine a_iload (pc := 17) ok dX4_addNoise_17 rfl ?_
    refine a_icmp_ge (pc := 19) (tgt := 101) ok dX4_addNoise_19 (by decide) (by first | omega | (unfold rg; omega) | (simp only [rg] at *; omega) | exact bz_rg _ | grind [rg]) (by first | omega | (unfold rg; omega) | (simp only [rg] at *; omega) | exact bz_rg _ | grind [rg]) (fun c19 => ?_) (fun c19 => ?_)
    · have e : (k : Int) = c * r := by omega
      have e2 : k = (c * r).toNat := by omega
      refine a_iload (pc := 101) ok dX4_addNoise_101 rfl ?_
      exact a_iret (pc := 103) ok dX4_addNoise_103 (by rw [← e2, ← e]; exact ⟨rfl, rfl⟩)
    · refine a_lload (pc := 22) ok dX4_addNoise_22 rfl ?_
      refine a_ldc2 (pc := 24) (z := 6364136223846793005) (v := Int64.ofInt 6364136223846793005) ok dX4_addNoise_24 (ug4 239 (by decide +kernel) rfl) rfl ?_
      refine a_lmul (pc := 27) ok dX4_addNoise_27 ?_
      refine a_ldc2 (pc := 28) (z := 1442695040888963407) (v := Int64.ofInt 1442695040888963407) ok dX4_addNoise_28 (ug5 0 (by decide +kernel) rfl) rfl ?_
      refine a_ladd (pc := 31) ok dX4_addNoise_31 ?_
      refine AW.cast (st2 := [jv (lcgK x (k + 1))]) ?_ rfl rfl rfl
      refine a_lstore (pc := 32) ok dX4_addNoise_32 rfl (by rw [hN]; decide) ?_
      refine a_aload_n (pc := 34) ok dX4_addNoise_34 rfl ?_
      refine a_getf (pc := 35) ok dX4_addNoise_35 fl4_9 rfl rfl ?_
      refine a_iload (pc := 38) ok dX4_addNoise_38 rfl ?_
      refine a_iald (pc := 40) ok dX4_addNoise_40 rfl (by first | decide | omega) (by first | omega | (unfold rg; omega) | (simp only [rg] at *; omega) | exact bz_rg _ | grind [rg]) ?_
      refine AW.cast (st2 := [iv (G k)]) ?_ rfl (by rw [hat]) rfl
      refine a_lload (pc := 41) ok dX4_addNoise_41 rfl ?_
      refine a_bipush (pc := 43) ok dX4_addNoise_43 (by decide) ?_
      refine a_lushr33 (pc := 45) ok dX4_addNoise_45 ?_
      refine a_l2i (pc := 46) ok dX4_addNoise_46 ?_
      refine a_iconst (pc := 47) ok dX4_addNoise_47 ?_
      refine a_iload_n (pc := 48) ok dX4_addNoise_48 rfl ?_
      refine a_imul (pc := 49) ok dX4_addNoise_49 ?_
      refine a_iconst (pc := 50) ok dX4_addNoise_50 ?_
      refine a_iadd (pc := 51) ok dX4_addNoise_51 ?_
      refine a_irem (pc := 52) ok dX4_addNoise_52 (by first | omega | (unfold rg; omega) | (simp only [rg] at *; omega) | exact bz_rg _ | grind [rg]) (by first | omega | (unfold rg; omega) | (simp only [rg] at *; omega) | exact bz_rg _ | grind [rg]) ?_
      refine a_iadd (pc := 53) ok dX4_addNoise_53 ?_
      refine a_iload_n (pc := 54) ok dX4_addNoise_54 rfl ?_
      refine a_isub (pc := 55) ok dX4_addNoise_55 ?_
      refine a_istore (pc := 56) ok dX4_addNoise_56 rfl (by rw [hN]; decide) ?_
      refine a_iconst (pc := 58) ok dX4_addNoise_58 ?_
      refine a_bipush (pc := 59) ok dX4_addNoise_59 (by decide) ?_
      refine a_iload (pc := 61) ok dX4_addNoise_61 rfl ?_
      refine a_mmin (pc := 63) ok dX4_addNoise_63 (ug5 1 (by decide +kernel) rfl) ⟨by decide, by decide, Nat.zero_le _, Nat.zero_le _⟩ (by decide) (by unfold rg; omega) (by unfold rg; omega) ?_
      refine a_mmax (pc := 66) ok dX4_addNoise_66 (ug5 2 (by decide +kernel) rfl) ⟨by decide, by decide, Nat.zero_le _, Nat.zero_le _⟩ (by decide) (by unfold rg; omega) (by unfold rg; omega) ?_
      refine AW.cast (st2 := [iv (noF G x v k)]) ?_ rfl (by rw [hno]) rfl
      refine a_istore (pc := 69) ok dX4_addNoise_69 rfl (by rw [hN]; decide) ?_
      refine a_iload (pc := 71) ok dX4_addNoise_71 rfl ?_
      refine a_aload_n (pc := 73) ok dX4_addNoise_73 rfl ?_
      refine a_getf (pc := 74) ok dX4_addNoise_74 fl4_9 rfl rfl ?_
      refine a_iload (pc := 77) ok dX4_addNoise_77 rfl ?_
      refine a_iald (pc := 79) ok dX4_addNoise_79 rfl (by first | decide | omega) (by first | omega | (unfold rg; omega) | (simp only [rg] at *; omega) | exact bz_rg _ | grind [rg]) ?_
      refine AW.cast (st2 := [iv (G k), iv (noF G x v k)]) ?_ rfl (by rw [hat]) rfl
      refine a_icmp_eq (pc := 80) (tgt := 86) ok dX4_addNoise_80 (by decide) (by first | omega | (unfold rg; omega) | (simp only [rg] at *; omega) | exact bz_rg _ | grind [rg]) (by first | omega | (unfold rg; omega) | (simp only [rg] at *; omega) | exact bz_rg _ | grind [rg]) (fun c80 => ?_) (fun c80 => ?_)
      · refine AW.cast (L2 := [some (.ref 0), some (jv x), none, some (iv v), some (iv (c * r)), some (iv (cntK (fun j => decide (noF G x v j ≠ G j)) (k + 1))), some (jv (lcgK x (k + 1))), none, some (iv k), some (iv (noF G x v k))]) ?_ (by first | (rw [cntK_t (decide_eq_true (by omega))] <;> rfl) | (rw [cntK_f (decide_eq_false (by omega))] <;> rfl)) rfl rfl
        refine a_aload_n (pc := 86) ok dX4_addNoise_86 rfl ?_
        refine a_getf (pc := 87) ok dX4_addNoise_87 fl4_9 rfl rfl ?_
        refine a_iload (pc := 90) ok dX4_addNoise_90 rfl ?_
        refine a_iload (pc := 92) ok dX4_addNoise_92 rfl ?_
        refine a_iast (pc := 94) ok dX4_addNoise_94 rfl (by first | decide | omega) (by first | omega | (unfold rg; omega) | (simp only [rg] at *; omega) | exact bz_rg _ | grind [rg]) ?_
        refine a_iinc (pc := 95) ok dX4_addNoise_95 rfl rfl (by rw [hN]; decide) ?_
        refine a_goto (pc := 98) (tgt := 15) ok dX4_addNoise_98 (by decide) ?_
        refine AW.cast (AW.forget (ih (k + 1) (by omega) (by omega)) (by repeat' (first | exact trivial | refine ⟨rfl, ?_⟩))) rfl rfl ?_
        exact congrArg (fun f => stM c r f T n le Hh li) hup
      · refine a_iinc (pc := 83) ok dX4_addNoise_83 rfl rfl (by rw [hN]; decide) ?_
        refine AW.cast (L2 := [some (.ref 0), some (jv x), none, some (iv v), some (iv (c * r)), some (iv (cntK (fun j => decide (noF G x v j ≠ G j)) (k + 1))), some (jv (lcgK x (k + 1))), none, some (iv k), some (iv (noF G x v k))]) ?_ (by first | (rw [cntK_t (decide_eq_true (by omega))] <;> rfl) | (rw [cntK_f (decide_eq_false (by omega))] <;> rfl)) rfl rfl
        refine a_aload_n (pc := 86) ok dX4_addNoise_86 rfl ?_
        refine a_getf (pc := 87) ok dX4_addNoise_87 fl4_9 rfl rfl ?_
        refine a_iload (pc := 90) ok dX4_addNoise_90 rfl ?_
        refine a_iload (pc := 92) ok dX4_addNoise_92 rfl ?_
        refine a_iast (pc := 94) ok dX4_addNoise_94 rfl (by first | decide | omega) (by first | omega | (unfold rg; omega) | (simp only [rg] at *; omega) | exact bz_rg _ | grind [rg]) ?_
        refine a_iinc (pc := 95) ok dX4_addNoise_95 rfl rfl (by rw [hN]; decide) ?_
        refine a_goto (pc := 98) (tgt := 15) ok dX4_addNoise_98 (by decide) ?_
        refine AW.cast (AW.forget (ih (k + 1) (by omega) (by omega)) (by repeat' (first | exact trivial | refine ⟨rfl, ?_⟩))) rfl rfl ?_
        exact congrArg (fun f => stM c r f T n le Hh li) hup
  refine a_aload_n (pc := 0) ok dX4_addNoise_0 rfl ?_
  refine a_callVp (pc := 1) ok [0, 1, 2, 3] dX4_addNoise_1 mv4_56 miX4_cellCount (c_cellCount) ⟨by decide, by decide, rfl, rfl, Nat.zero_le _, Nat.zero_le _⟩ rfl rfl (by decide) rfl (by decide) rfl rfl ?_
  refine a_istore (pc := 4) ok dX4_addNoise_4 rfl (by rw [hN]; decide) ?_
  refine a_iconst (pc := 6) ok dX4_addNoise_6 ?_
  refine a_istore (pc := 7) ok dX4_addNoise_7 rfl (by rw [hN]; decide) ?_
  refine a_lload_n (pc := 9) ok dX4_addNoise_9 rfl ?_
  refine a_lstore (pc := 10) ok dX4_addNoise_10 rfl (by rw [hN]; decide) ?_
  refine a_iconst (pc := 12) ok dX4_addNoise_12 ?_
  refine a_istore (pc := 13) ok dX4_addNoise_13 rfl (by rw [hN]; decide) ?_
  exact AW.cast (loop 0 (by omega)) rfl rfl (congrArg (fun f => stM c r f T n le Hh li) mapK_0.symm)
end ST5
