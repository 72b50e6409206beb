/-! MODEL: marks, borders, who is better, the smallest. -/
section MD4
variable {l : Launch} {rf sz c r : Int} {G T : Int → Int} {le : Int} {Hh : Int → Int} {li ac : Int} {B I : Int → Int} {m : Int} {Fi Co Br Wt mk gy : Int → Int} {sd rt lf wy sp ou : Int} {b : Int → Int}
/-- what is held of the marks, told by some bands b -/
def JW (c r : Int) (b B I : Int → Int) (m : Int) (Fi Co : Int → Int) : Prop :=
  (∀ i, 0 ≤ B i ∧ B i ≤ 5) ∧ (∀ i, rg (I i)) ∧ (∀ k, cel c r k → B k = b k) ∧ (∀ k, cel c r k → I k = rk c r b (lw c r b k)) ∧ m = mny c r b ∧ ∀ L, cel c r L → lw c r b L = L → Fi (rk c r b L) = L ∧ Co (rk c r b L) = siz c r b L
theorem JW_congr (hd : dim c r) {I : Int → Int} {m : Int} {Fi Co : Int → Int} (h : JW c r B B I m Fi Co) (e : ∀ k, cel c r k → B k = b k) : JW c r b B I m Fi Co := by
  obtain ⟨h1, h2, h3, h4, h5, h6⟩ := h
  rw [rk_congr hd e, lwf_congr hd e] at h4 h6
  rw [siz_congr hd e] at h6
  rw [mny_congr hd e] at h5
  exact ⟨h1, h2, e, h4, h5, h6⟩
theorem dX7_mark_0 : decode cX7_mark 0 = .ok (.aload_n 0, 1) := by decide +kernel
theorem dX7_mark_1 : decode cX7_mark 1 = .ok (.iconst 0, 1) := by decide +kernel
theorem dX7_mark_2 : decode cX7_mark 2 = .ok (.putfield 78, 3) := by decide +kernel
theorem dX7_mark_5 : decode cX7_mark 5 = .ok (.iconst 0, 1) := by decide +kernel
theorem dX7_mark_6 : decode cX7_mark 6 = .ok (.istore_n 2, 1) := by decide +kernel
theorem dX7_mark_7 : decode cX7_mark 7 = .ok (.iload_n 2, 1) := by decide +kernel
theorem dX7_mark_8 : decode cX7_mark 8 = .ok (.aload_n 1, 1) := by decide +kernel
theorem dX7_mark_9 : decode cX7_mark 9 = .ok (.invokestatic 74, 3) := by decide +kernel
theorem dX7_mark_12 : decode cX7_mark 12 = .ok (.if_icmp .ge 16, 3) := by decide +kernel
theorem dX7_mark_15 : decode cX7_mark 15 = .ok (.aload_n 0, 1) := by decide +kernel
theorem dX7_mark_16 : decode cX7_mark 16 = .ok (.getfield 32, 3) := by decide +kernel
theorem dX7_mark_19 : decode cX7_mark 19 = .ok (.iload_n 2, 1) := by decide +kernel
theorem dX7_mark_20 : decode cX7_mark 20 = .ok (.iconst (-1), 1) := by decide +kernel
theorem dX7_mark_21 : decode cX7_mark 21 = .ok (.iastore, 1) := by decide +kernel
theorem dX7_mark_22 : decode cX7_mark 22 = .ok (.iinc 2 1, 3) := by decide +kernel
theorem dX7_mark_25 : decode cX7_mark 25 = .ok (.goto (-18), 3) := by decide +kernel
theorem dX7_mark_28 : decode cX7_mark 28 = .ok (.iconst 0, 1) := by decide +kernel
theorem dX7_mark_29 : decode cX7_mark 29 = .ok (.istore_n 2, 1) := by decide +kernel
theorem dX7_mark_30 : decode cX7_mark 30 = .ok (.iload_n 2, 1) := by decide +kernel
theorem dX7_mark_31 : decode cX7_mark 31 = .ok (.aload_n 1, 1) := by decide +kernel
theorem dX7_mark_32 : decode cX7_mark 32 = .ok (.invokestatic 74, 3) := by decide +kernel
theorem dX7_mark_35 : decode cX7_mark 35 = .ok (.if_icmp .ge 25, 3) := by decide +kernel
theorem dX7_mark_38 : decode cX7_mark 38 = .ok (.aload_n 0, 1) := by decide +kernel
theorem dX7_mark_39 : decode cX7_mark 39 = .ok (.getfield 32, 3) := by decide +kernel
theorem dX7_mark_42 : decode cX7_mark 42 = .ok (.iload_n 2, 1) := by decide +kernel
theorem dX7_mark_43 : decode cX7_mark 43 = .ok (.iaload, 1) := by decide +kernel
theorem dX7_mark_44 : decode cX7_mark 44 = .ok (.iconst (-1), 1) := by decide +kernel
theorem dX7_mark_45 : decode cX7_mark 45 = .ok (.if_icmp .ne 9, 3) := by decide +kernel
theorem dX7_mark_48 : decode cX7_mark 48 = .ok (.aload_n 0, 1) := by decide +kernel
theorem dX7_mark_49 : decode cX7_mark 49 = .ok (.aload_n 1, 1) := by decide +kernel
theorem dX7_mark_50 : decode cX7_mark 50 = .ok (.iload_n 2, 1) := by decide +kernel
theorem dX7_mark_51 : decode cX7_mark 51 = .ok (.invokevirtual 85, 3) := by decide +kernel
theorem dX7_mark_54 : decode cX7_mark 54 = .ok (.iinc 2 1, 3) := by decide +kernel
theorem dX7_mark_57 : decode cX7_mark 57 = .ok (.goto (-27), 3) := by decide +kernel
theorem dX7_mark_60 : decode cX7_mark 60 = .ok (.return_, 1) := by decide +kernel
theorem c_mark {n : Int} (hd : dim c r) (hB : ∀ i, 0 ≤ B i ∧ B i ≤ 5) (hI : ∀ i, rg (I i)) : Ct l yX7_mark cX7_mark 3 none rmX7_mark [.ref 0, .ref 1] (mdM rf sz c r G T n le Hh li ac B I m Fi Co Br Wt mk gy sd rt lf wy sp ou)
    (fun z M => z = none ∧ ∃ I' Fi' Co' Q' : Int → Int, M = (mdM rf sz c r G T n le Hh li ac B (I') (mny c r B) (Fi') (Co') Br (Q') mk gy sd rt lf wy sp ou) ∧ JW c r B B I' (mny c r B) Fi' Co') := by
  refine Ct.of miX7_mark (Nat.le_of_ble_eq_true rfl) ?_
  intro X hXl hN ok
  refine AW.cast (L2 := [some (.ref 0), some (.ref 1), none]) ?_ rfl rfl rfl
  have hc := dim_cells hd
  have hBr : ∀ i, rg (B i) := fun i => by have := hB i; unfold rg; omega
  have loop2 : ∀ q : Nat × (Int → Int) × (Int → Int) × (Int → Int) × (Int → Int), ((q.1 : Int) ≤ c * r ∧ (∀ i, rg (q.2.1 i)) ∧ (∀ j, cel c r j → q.2.1 j = if lw c r B j < q.1 then rk c r B (lw c r B j) else -1) ∧ (∀ L : Int, 0 ≤ L → L < q.1 → lw c r B L = L → q.2.2.1 (rk c r B L) = L ∧ q.2.2.2.1 (rk c r B L) = siz c r B L)) →
      AW X 0 0 30 [some (.ref 0), some (.ref 1), some (iv q.1)] [] (mdM rf sz c r G T n le Hh li ac B (q.2.1) (rk c r B q.1) (q.2.2.1) (q.2.2.2.1) Br (q.2.2.2.2) mk gy sd rt lf wy sp ou) := by
    refine wfl (fun q : Nat × (Int → Int) × (Int → Int) × (Int → Int) × (Int → Int) => 145 - q.1) _ _ ?_
    rintro ⟨k, I, Fi, Co, Wt⟩ ⟨h1, h2, h3, h4⟩ ih
    dsimp only at h1 h2 h3 h4 ih ⊢
    have h2k := h2 k
    have hrk := rk_rg (c := c) (r := r) (B := B) k
    have hck : (k : Int) < c * r → cel c r k := fun h => ⟨by omega, h⟩
    have e2 : lw c r B k ≠ k → rk c r B k = rk c r B ((k + 1 : Nat) : Int) := fun h => (cntK_f (p := fun j => decide (lw c r B j = j)) (decide_eq_false h)).symm
    have e1 : lw c r B k = k → rk c r B k + 1 = rk c r B ((k + 1 : Nat) : Int) := fun h => (cntK_t (p := fun j => decide (lw c r B j = j)) (decide_eq_true h)).symm
    have new : (k : Int) < c * r → I k = -1 → lw c r B k = k := fun h e => by
      have a := h3 k (hck h)
      have d := (lw_ok (B := B) hd (hck h))
      have d1 := d.1.1
      have d2 := d.2.1
      have d3 := rk_rg (c := c) (r := r) (B := B) (lw c r B k)
      rw [e] at a
      split at a <;> omega
    have old : (k : Int) < c * r → I k ≠ -1 → lw c r B k ≠ k := fun h e z => by
      have a := h3 k (hck h)
      rw [if_neg (by omega)] at a
      exact e a
    have s2 : (k : Int) < c * r → lw c r B k ≠ k → ∀ j, cel c r j → I j = if lw c r B j < ((k + 1 : Nat) : Int) then rk c r B (lw c r B j) else -1 := fun h z j hj => by
      rw [h3 j hj]
      have : lw c r B j ≠ k := fun e => z (by rw [← e]; exact lw_lw hd hj)
      by_cases y : lw c r B j < k
      · rw [if_pos y, if_pos (by omega)]
      · rw [if_neg y, if_neg (by omega)]
    have s3 : lw c r B k ≠ k → ∀ L : Int, 0 ≤ L → L < ((k + 1 : Nat) : Int) → lw c r B L = L → Fi (rk c r B L) = L ∧ Co (rk c r B L) = siz c r B L := fun z L a1 a2 a3 => h4 L a1 (by have : L ≠ k := (fun e => z (by rw [← e]; exact a3)); omega) a3
    have hI0 : (k : Int) < c * r → lw c r B k = k → ∀ j, con (EB c r B) k j → I j = -1 := fun h z j y => by
      have y3 := lw_eq hd y
      rw [h3 j (con_cel hd (hck h) y), if_neg (by omega)]
    have s4 : (k : Int) < c * r → lw c r B k = k → ∀ j, cel c r j → mkF I (con (EB c r B) k) (rk c r B k) j = if lw c r B j < ((k + 1 : Nat) : Int) then rk c r B (lw c r B j) else -1 := fun h z j hj => by
      by_cases y : con (EB c r B) k j
      · have y3 := lw_eq hd y
        rw [mkF_t y, if_pos (by omega), ← y3, z]
      · have : lw c r B j ≠ k := fun e => y ((lw_iff hd (hck h) hj).mp (by rw [e, z]))
        rw [mkF_f y, h3 j hj]
        by_cases x : lw c r B j < k
        · rw [if_pos x, if_pos (by omega)]
        · rw [if_neg x, if_neg (by omega)]
    have s5 : (k : Int) < c * r → lw c r B k = k → ∀ L : Int, 0 ≤ L → L < ((k + 1 : Nat) : Int) → lw c r B L = L → up Fi (rk c r B k) k (rk c r B L) = L ∧ up Co (rk c r B k) (cntK (fun j => tr (con (EB c r B) k j)) (c * r).toNat) (rk c r B L) = siz c r B L := fun h z L a1 a2 a3 => by
      rw [← siz_con (B := B) hd (hck h), z]
      by_cases y : L = k
      · subst y; rw [up_at, up_at]; exact ⟨rfl, rfl⟩
      · have hne : rk c r B L ≠ rk c r B k := fun e => y (rk_inj (rk_first a3 a1) a3 (hck h) z e)
        rw [up_ne hne, up_ne hne]; exact h4 L a1 (by omega) a3
    have s6 : ∀ i, rg (mkF I (con (EB c r B) k) (rk c r B k) i) := fun i => by
      by_cases z : con (EB c r B) k i
      · rw [mkF_t z]; unfold rg; omega
      · rw [mkF_f z]; exact h2 i
    refine a_iload_n (pc := 30) ok dX7_mark_30 rfl ?_
    refine a_aload_n (pc := 31) ok dX7_mark_31 rfl ?_
    refine a_callSp (pc := 32) ok [1] dX7_mark_32 mv7_74 miX7_cells (c_cells) ⟨by decide, by decide, rfl, rfl, Nat.zero_le _, Nat.zero_le _⟩ rfl rfl (Nat.le_of_ble_eq_true rfl) rfl (by decide) ?_
    refine a_icmp_ge (pc := 35) (tgt := 60) ok dX7_mark_35 (by decide) (by first | omega | (unfold rg; omega) | (simp only [rg] at *; omega) | exact bz_rg _ | grind [rg]) (by first | omega | (unfold rg; omega) | (simp only [rg] at *; omega) | exact bz_rg _ | grind [rg]) (fun c35 => ?_) (fun c35 => ?_)
    · have ek : (k : Int) = c * r := by omega
      have em : rk c r B k = mny c r B := by rw [ek]; rfl
      rw [em]
      exact a_vret (pc := 60) ok dX7_mark_60 (⟨rfl, I, Fi, Co, Wt, rfl, hB, h2, fun _ _ => rfl, fun j hj => by rw [h3 j hj, if_pos (by have := (lw_ok (B := B) hd hj).1.2; omega)], rfl, fun L hL hl => h4 L hL.1 (by have := hL.2; omega) hl⟩)
    · refine a_aload_n (pc := 38) ok dX7_mark_38 rfl ?_
      refine a_getf (pc := 39) ok dX7_mark_39 fl7_32 rfl rfl ?_
      refine a_iload_n (pc := 42) ok dX7_mark_42 rfl ?_
      refine a_iald (pc := 43) ok dX7_mark_43 rfl (by first | decide | omega) (by first | omega | (unfold rg; omega) | (simp only [rg] at *; omega) | exact bz_rg _ | grind [rg]) ?_
      refine a_iconst (pc := 44) ok dX7_mark_44 ?_
      refine a_icmp_ne (pc := 45) (tgt := 54) ok dX7_mark_45 (by decide) (by first | exact h2k | (unfold rg; omega)) (by first | exact h2k | (unfold rg; omega)) (fun c45 => ?_) (fun c45 => ?_)
      · refine a_iinc (pc := 54) ok dX7_mark_54 rfl rfl (by rw [hN]; decide) ?_
        refine a_goto (pc := 57) (tgt := 30) ok dX7_mark_57 (by decide) ?_
        exact AW.cast (ih (k + 1, I, Fi, Co, Wt) ⟨by dsimp only; omega, h2, s2 (by omega) (old (by omega) c45), s3 (old (by omega) c45)⟩ (by dsimp only; omega)) rfl rfl (by dsimp only; rw [e2 (old (by omega) c45)])
      · refine a_aload_n (pc := 48) ok dX7_mark_48 rfl ?_
        refine a_aload_n (pc := 49) ok dX7_mark_49 rfl ?_
        refine a_iload_n (pc := 50) ok dX7_mark_50 rfl ?_
        refine x_callV (pc := 51) ok [0, 1, 2, 3, 4, 5, 6, 7, 8, 9, 10, 11, 12, 13, 14, 15, 16] 10 dX7_mark_51 mv7_85 miX7_flood (c_flood hd (hck (by omega)) hBr h2 (by omega) (hI0 (by omega) (new (by omega) c45))) ⟨by decide, by decide, rfl, rfl, Nat.zero_le _, Nat.zero_le _⟩ rfl rfl (Nat.le_of_ble_eq_true rfl) rfl rfl (by decide) rfl rfl (fun v M' h => by obtain ⟨_, Q', h⟩ := h; rw [h]; rfl) ?_
        rintro _ M' ⟨rfl, Q', rfl⟩
        have z := new (by omega) c45
        rw [e1 z]
        refine AW.cast (st2 := []) (M2 := (mdM rf sz c r G T n le Hh li ac B (mkF I (con (EB c r B) k) (rk c r B k)) (rk c r B ((k + 1 : Nat) : Int)) (up Fi (rk c r B k) k) (up Co (rk c r B k) (cntK (fun j => tr (con (EB c r B) k j)) (c * r).toNat)) Br (Q') mk gy sd rt lf wy sp ou)) ?_ rfl rfl rfl
        refine a_iinc (pc := 54) ok dX7_mark_54 rfl rfl (by rw [hN]; decide) ?_
        refine a_goto (pc := 57) (tgt := 30) ok dX7_mark_57 (by decide) ?_
        exact AW.cast (ih (k + 1, _, _, _, Q') ⟨by dsimp only; omega, s6, s4 (by omega) z, s5 (by omega) z⟩ (by dsimp only; omega)) rfl rfl rfl
  have loop : ∀ q : Nat × (Int → Int), ((q.1 : Int) ≤ c * r ∧ (∀ i, rg (q.2 i)) ∧ (∀ j : Int, 0 ≤ j → j < q.1 → q.2 j = -1)) →
      AW X 0 0 7 [some (.ref 0), some (.ref 1), some (iv q.1)] [] (mdM rf sz c r G T n le Hh li ac B (q.2) (0) Fi Co Br Wt mk gy sd rt lf wy sp ou) := by
    refine wfl (fun q : Nat × (Int → Int) => 145 - q.1) _ _ ?_
    rintro ⟨k, I⟩ ⟨h1, h2, h3⟩ ih
    dsimp only at h1 h2 h3 ih ⊢
    refine a_iload_n (pc := 7) ok dX7_mark_7 rfl ?_
    refine a_aload_n (pc := 8) ok dX7_mark_8 rfl ?_
    refine a_callSp (pc := 9) ok [1] dX7_mark_9 mv7_74 miX7_cells (c_cells) ⟨by decide, by decide, rfl, rfl, Nat.zero_le _, Nat.zero_le _⟩ rfl rfl (Nat.le_of_ble_eq_true rfl) rfl (by decide) ?_
    refine a_icmp_ge (pc := 12) (tgt := 28) ok dX7_mark_12 (by decide) (by first | omega | (unfold rg; omega) | (simp only [rg] at *; omega) | exact bz_rg _ | grind [rg]) (by first | omega | (unfold rg; omega) | (simp only [rg] at *; omega) | exact bz_rg _ | grind [rg]) (fun c12 => ?_) (fun c12 => ?_)
    · refine a_iconst (pc := 28) ok dX7_mark_28 ?_
      refine a_istore_n (pc := 29) ok dX7_mark_29 rfl (by rw [hN]; decide) ?_
      refine AW.cast (loop2 (0, I, Fi, Co, Wt) ⟨by dsimp only; omega, h2, fun j hj => ?_, fun L a1 a2 => by dsimp only at a2; omega⟩) rfl rfl rfl
      have := (lw_ok (B := B) hd hj).1.1
      rw [if_neg (by dsimp only; omega)]; exact h3 j hj.1 (by have := hj.2; omega)
    · refine a_aload_n (pc := 15) ok dX7_mark_15 rfl ?_
      refine a_getf (pc := 16) ok dX7_mark_16 fl7_32 rfl rfl ?_
      refine a_iload_n (pc := 19) ok dX7_mark_19 rfl ?_
      refine a_iconst (pc := 20) ok dX7_mark_20 ?_
      refine a_iast (pc := 21) ok dX7_mark_21 rfl (by first | decide | omega) (by first | omega | (unfold rg; omega) | (simp only [rg] at *; omega) | exact bz_rg _ | grind [rg]) ?_
      refine a_iinc (pc := 22) ok dX7_mark_22 rfl rfl (by rw [hN]; decide) ?_
      refine a_goto (pc := 25) (tgt := 7) ok dX7_mark_25 (by decide) ?_
      refine AW.cast (ih (k + 1, up I k (-1)) ⟨by dsimp only; omega, up_rg h2 (by unfold rg; omega), fun j a1 a2 => ?_⟩ (by dsimp only; omega)) rfl rfl rfl
      dsimp only at a2 ⊢
      by_cases e : j = k
      · rw [e, up_at]
      · rw [up_ne e]; exact h3 j a1 (by omega)
  refine a_aload_n (pc := 0) ok dX7_mark_0 rfl ?_
  refine a_iconst (pc := 1) ok dX7_mark_1 ?_
  refine a_putf (pc := 2) ok dX7_mark_2 fp7_78 rfl (by first | rfl | decide) (by first | rfl | decide) (Nat.le_of_ble_eq_true rfl) ?_
  refine a_iconst (pc := 5) ok dX7_mark_5 ?_
  refine a_istore_n (pc := 6) ok dX7_mark_6 rfl (by rw [hN]; decide) ?_
  exact AW.cast (loop (0, I) ⟨by dsimp only; omega, hI, fun j a1 a2 => by dsimp only at a2; omega⟩) rfl rfl rfl
theorem dX7_markGreys_0 : decode cX7_markGreys 0 = .ok (.iconst 0, 1) := by decide +kernel
theorem dX7_markGreys_1 : decode cX7_markGreys 1 = .ok (.istore_n 2, 1) := by decide +kernel
theorem dX7_markGreys_2 : decode cX7_markGreys 2 = .ok (.iload_n 2, 1) := by decide +kernel
theorem dX7_markGreys_3 : decode cX7_markGreys 3 = .ok (.aload_n 1, 1) := by decide +kernel
theorem dX7_markGreys_4 : decode cX7_markGreys 4 = .ok (.invokestatic 74, 3) := by decide +kernel
theorem dX7_markGreys_7 : decode cX7_markGreys 7 = .ok (.if_icmp .ge 25, 3) := by decide +kernel
theorem dX7_markGreys_10 : decode cX7_markGreys 10 = .ok (.aload_n 0, 1) := by decide +kernel
theorem dX7_markGreys_11 : decode cX7_markGreys 11 = .ok (.getfield 29, 3) := by decide +kernel
theorem dX7_markGreys_14 : decode cX7_markGreys 14 = .ok (.iload_n 2, 1) := by decide +kernel
theorem dX7_markGreys_15 : decode cX7_markGreys 15 = .ok (.aload_n 1, 1) := by decide +kernel
theorem dX7_markGreys_16 : decode cX7_markGreys 16 = .ok (.aload_n 1, 1) := by decide +kernel
theorem dX7_markGreys_17 : decode cX7_markGreys 17 = .ok (.bipush 16, 2) := by decide +kernel
theorem dX7_markGreys_19 : decode cX7_markGreys 19 = .ok (.iload_n 2, 1) := by decide +kernel
theorem dX7_markGreys_20 : decode cX7_markGreys 20 = .ok (.iadd, 1) := by decide +kernel
theorem dX7_markGreys_21 : decode cX7_markGreys 21 = .ok (.iaload, 1) := by decide +kernel
theorem dX7_markGreys_22 : decode cX7_markGreys 22 = .ok (.invokestatic 89, 3) := by decide +kernel
theorem dX7_markGreys_25 : decode cX7_markGreys 25 = .ok (.iastore, 1) := by decide +kernel
theorem dX7_markGreys_26 : decode cX7_markGreys 26 = .ok (.iinc 2 1, 3) := by decide +kernel
theorem dX7_markGreys_29 : decode cX7_markGreys 29 = .ok (.goto (-27), 3) := by decide +kernel
theorem dX7_markGreys_32 : decode cX7_markGreys 32 = .ok (.aload_n 0, 1) := by decide +kernel
theorem dX7_markGreys_33 : decode cX7_markGreys 33 = .ok (.aload_n 1, 1) := by decide +kernel
theorem dX7_markGreys_34 : decode cX7_markGreys 34 = .ok (.invokevirtual 93, 3) := by decide +kernel
theorem dX7_markGreys_37 : decode cX7_markGreys 37 = .ok (.return_, 1) := by decide +kernel
theorem c_markGreys {n : Nat} (hd : dim c r) (hn : n ≤ 5) (hT : ∀ i, 0 ≤ T i ∧ T i ≤ 99) (hs : srt T n) (hG : ∀ i, rg (G i)) (hB : ∀ i, 0 ≤ B i ∧ B i ≤ 5) (hI : ∀ i, rg (I i)) : Ct l yX7_markGreys cX7_markGreys 3 none rmX7_markGreys [.ref 0, .ref 1] (mdM rf sz c r G T n le Hh li ac B I m Fi Co Br Wt mk gy sd rt lf wy sp ou)
    (fun z M => z = none ∧ ∃ B' I' Fi' Co' Q' : Int → Int, M = (mdM rf sz c r G T n le Hh li ac (B') (I') (mny c r (bnd T n G)) (Fi') (Co') Br (Q') mk gy sd rt lf wy sp ou) ∧ JW c r (bnd T n G) B' I' (mny c r (bnd T n G)) Fi' Co') := by
  refine Ct.of miX7_markGreys (Nat.le_of_ble_eq_true rfl) ?_
  intro X hXl hN ok
  refine AW.cast (L2 := [some (.ref 0), some (.ref 1), none]) ?_ rfl rfl rfl
  have hc := dim_cells hd
  have loop : ∀ q : Nat × (Int → Int), ((q.1 : Int) ≤ c * r ∧ (∀ i, 0 ≤ q.2 i ∧ q.2 i ≤ 5) ∧ (∀ j : Int, 0 ≤ j → j < q.1 → q.2 j = bnd T n G j)) →
      AW X 0 0 2 [some (.ref 0), some (.ref 1), some (iv q.1)] [] (mdM rf sz c r G T n le Hh li ac (q.2) I m Fi Co Br Wt mk gy sd rt lf wy sp ou) := by
    refine wfl (fun q : Nat × (Int → Int) => 145 - q.1) _ _ ?_
    rintro ⟨k, B⟩ ⟨h1, h2, h3⟩ ih
    dsimp only at h1 h2 h3 ih ⊢
    have hbr := cntK_rg (fun j => decide (T j ≤ G k)) n
    have hbd : bandN T n (G k) = cntK (fun j => decide (T j ≤ G k)) n := rfl
    refine a_iload_n (pc := 2) ok dX7_markGreys_2 rfl ?_
    refine a_aload_n (pc := 3) ok dX7_markGreys_3 rfl ?_
    refine a_callSp (pc := 4) ok [1] dX7_markGreys_4 mv7_74 miX7_cells (c_cells) ⟨by decide, by decide, rfl, rfl, Nat.zero_le _, Nat.zero_le _⟩ rfl rfl (Nat.le_of_ble_eq_true rfl) rfl (by decide) ?_
    refine a_icmp_ge (pc := 7) (tgt := 32) ok dX7_markGreys_7 (by decide) (by first | omega | (unfold rg; omega) | (simp only [rg] at *; omega) | exact bz_rg _ | grind [rg]) (by first | omega | (unfold rg; omega) | (simp only [rg] at *; omega) | exact bz_rg _ | grind [rg]) (fun c7 => ?_) (fun c7 => ?_)
    · refine a_aload_n (pc := 32) ok dX7_markGreys_32 rfl ?_
      refine a_aload_n (pc := 33) ok dX7_markGreys_33 rfl ?_
      have hb : ∀ j, cel c r j → B j = bnd T n G j := fun j hj => h3 j hj.1 (by have := hj.2; omega)
      have em := mny_congr hd hb
      refine x_callV (pc := 34) ok [0, 1, 2, 3, 4, 5, 6, 7, 8, 9, 10, 11, 12, 13, 14, 15, 16] 10 dX7_markGreys_34 mv7_93 miX7_mark (c_mark hd h2 hI) ⟨by decide, by decide, rfl, rfl, Nat.zero_le _, Nat.zero_le _⟩ rfl rfl (Nat.le_of_ble_eq_true rfl) rfl rfl (by decide) rfl rfl (fun v M' h => by obtain ⟨_, _, _, _, _, h, _⟩ := h; rw [h]; rfl) ?_
      rintro _ M' ⟨rfl, I', Fi', Co', Q', rfl, hJ⟩
      have hJ2 := JW_congr hd hJ hb
      rw [em]
      rw [em] at hJ2
      refine AW.cast (st2 := []) (M2 := (mdM rf sz c r G T n le Hh li ac (B) (I') (mny c r (bnd T n G)) (Fi') (Co') Br (Q') mk gy sd rt lf wy sp ou)) ?_ rfl rfl rfl
      exact a_vret (pc := 37) ok dX7_markGreys_37 (⟨rfl, B, I', Fi', Co', Q', rfl, hJ2⟩)
    · refine a_aload_n (pc := 10) ok dX7_markGreys_10 rfl ?_
      refine a_getf (pc := 11) ok dX7_markGreys_11 fl7_29 rfl rfl ?_
      refine a_iload_n (pc := 14) ok dX7_markGreys_14 rfl ?_
      refine a_aload_n (pc := 15) ok dX7_markGreys_15 rfl ?_
      refine a_aload_n (pc := 16) ok dX7_markGreys_16 rfl ?_
      refine a_bipush (pc := 17) ok dX7_markGreys_17 (by decide) ?_
      refine a_iload_n (pc := 19) ok dX7_markGreys_19 rfl ?_
      refine a_iadd (pc := 20) ok dX7_markGreys_20 ?_
      refine a_rldG (pc := 21) ok dX7_markGreys_21 rfl rfl (by first | omega | (unfold rg; omega) | (simp only [rg] at *; omega) | exact bz_rg _ | grind [rg]) ?_
      refine a_callSp (pc := 22) ok [1] dX7_markGreys_22 mv7_89 miX7_bandOf (c_bandOf hn hT hs (hG k)) ⟨by decide, by decide, rfl, rfl, Nat.zero_le _, Nat.zero_le _⟩ rfl rfl (Nat.le_of_ble_eq_true rfl) rfl (by decide) ?_
      refine a_iast (pc := 25) ok dX7_markGreys_25 rfl (by first | decide | omega) (by first | omega | (unfold rg; omega) | (simp only [rg] at *; omega) | exact bz_rg _ | grind [rg]) ?_
      refine a_iinc (pc := 26) ok dX7_markGreys_26 rfl rfl (by rw [hN]; decide) ?_
      refine a_goto (pc := 29) (tgt := 2) ok dX7_markGreys_29 (by decide) ?_
      refine AW.cast (ih (k + 1, up B k (bandN T n (G k))) ⟨by dsimp only; omega, fun i => ?_, fun j a1 a2 => ?_⟩ (by dsimp only; omega)) rfl rfl rfl
      · unfold up; dsimp only; have := h2 i; split <;> omega
      · dsimp only at a2 ⊢
        by_cases e : j = k
        · rw [e, up_at]; rfl
        · rw [up_ne e]; exact h3 j a1 (by omega)
  refine a_iconst (pc := 0) ok dX7_markGreys_0 ?_
  refine a_istore_n (pc := 1) ok dX7_markGreys_1 rfl (by rw [hN]; decide) ?_
  exact AW.cast (loop (0, B) ⟨by dsimp only; omega, hB, fun j a1 a2 => by dsimp only at a2; omega⟩) rfl rfl rfl
end MD4
