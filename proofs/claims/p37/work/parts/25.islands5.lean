/-! ISLANDS: what is asked of a survey. -/
section IS5
variable {l : Launch} {c r ct : Int} {B F S Br Q Fo No b : Int → Int}
/-- a survey's rows, told by some bands b -/
def IW (c r : Int) (b : Int → Int) (ct : Int) (B F S Fo No : Int → Int) : Prop :=
  (∀ i, 0 ≤ B i ∧ B i ≤ 5) ∧ (∀ i, rg (F i)) ∧ (∀ i, rg (S i)) ∧ (∀ k, cel c r k → B k = b k) ∧ (∀ k, cel c r k → F k = lw c r b k) ∧ (∀ L, cel c r L → lw c r b L = L → S L = siz c r b L) ∧ ct = mny c r b ∧ (∀ L, cel c r L → lw c r b L = L → Fo (rk c r b L) = L ∧ No L = rk c r b L)
theorem lwf_congr (hd : dim c r) (h : ∀ k, cel c r k → B k = b k) : lw c r B = lw c r b := funext fun k => lw_congr hd h k
theorem rk_congr (hd : dim c r) (h : ∀ k, cel c r k → B k = b k) : rk c r B = rk c r b := by funext k; unfold rk; rw [lwf_congr hd h]
theorem mny_congr (hd : dim c r) (h : ∀ k, cel c r k → B k = b k) : mny c r B = mny c r b := by unfold mny; rw [lwf_congr hd h]
theorem siz_congr (hd : dim c r) (h : ∀ k, cel c r k → B k = b k) : siz c r B = siz c r b := by funext k; unfold siz; rw [lwf_congr hd h]
theorem brd_congr (hd : dim c r) (h : ∀ k, cel c r k → B k = b k) : brd c r B = brd c r b := by funext s L; unfold brd; rw [lwf_congr hd h]
theorem smK_congr (hd : dim c r) (h : ∀ k, cel c r k → B k = b k) (le : Int) : ∀ k : Nat, smK c r B le k = smK c r b le k
  | 0 => rfl
  | k + 1 => by simp only [smK]; rw [smK_congr hd h le k, lwf_congr hd h, siz_congr hd h]
theorem tkK_congr (hd : dim c r) (h : ∀ k, cel c r k → B k = b k) {s : Int} (hs : cel c r s) : ∀ k : Nat, (k : Int) ≤ c * r → tkK c r B s k = tkK c r b s k
  | 0, _ => rfl
  | k + 1, hk => by
    have hk0 : cel c r k := ⟨by omega, by omega⟩
    have h2 := (tkK_ok (c := c) (r := r) (B := b) (s := s) k).2
    simp only [tkK]
    rw [tkK_congr hd h hs k (by omega), brd_congr hd h]
    rcases h2 with z | z
    · simp only [z, true_or, and_true]
    · have e := h (tkK c r b s k) ⟨z.1, by omega⟩
      unfold bet
      rw [h k hk0, h s hs, e]
theorem mstp_congr (hd : dim c r) (h : ∀ k, cel c r k → B k = b k) {s : Int} (hs : cel c r s) (ht : cel c r (tkL c r b s)) : ∀ k, cel c r k → mstp c r B s k = mstp c r b s k := by
  intro k hk
  have hc := dim_cells hd
  have e : tkL c r B s = tkL c r b s := tkK_congr hd h hs _ (by omega)
  unfold mstp
  rw [lwf_congr hd h, e, h _ ht, h k hk]
theorem sm_cel (hd : dim c r) {le : Int} (h : smL c r B le ≠ -1) : cel c r (smL c r B le) ∧ lw c r B (smL c r B le) = smL c r B le := by
  have hc := dim_cells hd
  rcases smK_ok (c := c) (r := r) (B := B) (le := le) (c * r).toNat with z | z
  · exact absurd z h
  · exact ⟨⟨z.1, by have := z.2.1; unfold smL; omega⟩, z.2.2.1⟩
theorem mrg_congr (hd : dim c r) (le : Int) : ∀ (n : Nat) {B b : Int → Int}, (∀ k, cel c r k → B k = b k) → ∀ k, cel c r k → mrg c r le n B k = mrg c r le n b k
  | 0, _, _, h => h
  | n + 1, B, b, h => by
    have e1 := mny_congr hd h
    have e2 : smL c r B le = smL c r b le := smK_congr hd h le _
    by_cases z : 1 < mny c r b ∧ smL c r b le ≠ -1
    · have hs := sm_cel hd z.2
      rw [mrg_t z.1 z.2, mrg_t (by rw [e1]; exact z.1) (by rw [e2]; exact z.2), e2]
      exact mrg_congr hd le n (mstp_congr hd h hs.1 (tk_ex hd hs.1 hs.2 z.1).1)
    · rw [mrg_f _ z, mrg_f _ (by rw [e1, e2]; exact z)]; exact h
theorem IW_of (hd : dim c r) (hI : IV c r ct B F S) (hN : ∀ L, cel c r L → lw c r B L = L → Fo (rk c r B L) = L ∧ No L = rk c r B L) (h : ∀ k, cel c r k → B k = b k) : IW c r b ct B F S Fo No := by
  obtain ⟨h1, h2, h3, h4, h5, h6⟩ := hI
  rw [lwf_congr hd h] at h4 h5 hN
  rw [siz_congr hd h] at h5
  rw [mny_congr hd h] at h6
  rw [rk_congr hd h] at hN
  exact ⟨h1, h2, h3, h, h4, h5, h6, hN⟩
theorem dX0_isOnPlate_0 : decode cX0_isOnPlate 0 = .ok (.iload_n 1, 1) := by decide +kernel
theorem dX0_isOnPlate_1 : decode cX0_isOnPlate 1 = .ok (.ifCond .lt 27, 3) := by decide +kernel
theorem dX0_isOnPlate_4 : decode cX0_isOnPlate 4 = .ok (.iload_n 1, 1) := by decide +kernel
theorem dX0_isOnPlate_5 : decode cX0_isOnPlate 5 = .ok (.aload_n 0, 1) := by decide +kernel
theorem dX0_isOnPlate_6 : decode cX0_isOnPlate 6 = .ok (.getfield 9, 3) := by decide +kernel
theorem dX0_isOnPlate_9 : decode cX0_isOnPlate 9 = .ok (.if_icmp .ge 19, 3) := by decide +kernel
theorem dX0_isOnPlate_12 : decode cX0_isOnPlate 12 = .ok (.iload_n 2, 1) := by decide +kernel
theorem dX0_isOnPlate_13 : decode cX0_isOnPlate 13 = .ok (.ifCond .lt 15, 3) := by decide +kernel
theorem dX0_isOnPlate_16 : decode cX0_isOnPlate 16 = .ok (.iload_n 2, 1) := by decide +kernel
theorem dX0_isOnPlate_17 : decode cX0_isOnPlate 17 = .ok (.aload_n 0, 1) := by decide +kernel
theorem dX0_isOnPlate_18 : decode cX0_isOnPlate 18 = .ok (.getfield 15, 3) := by decide +kernel
theorem dX0_isOnPlate_21 : decode cX0_isOnPlate 21 = .ok (.if_icmp .ge 7, 3) := by decide +kernel
theorem dX0_isOnPlate_24 : decode cX0_isOnPlate 24 = .ok (.iconst 1, 1) := by decide +kernel
theorem dX0_isOnPlate_25 : decode cX0_isOnPlate 25 = .ok (.goto 4, 3) := by decide +kernel
theorem dX0_isOnPlate_28 : decode cX0_isOnPlate 28 = .ok (.iconst 0, 1) := by decide +kernel
theorem dX0_isOnPlate_29 : decode cX0_isOnPlate 29 = .ok (.ireturn, 1) := by decide +kernel
theorem c_isOnPlate {x y : Int} (hd : dim c r) (hx : rg x) (hy : rg y) : Cd l yX0_isOnPlate cX0_isOnPlate 3 (some .boolean) rmX0_isOnPlate [.ref 0, iv x, iv y] (isM c r (c * r) ct B F S Br Q Fo No) (some (iv (bz (inP c r x y)))) (isM c r (c * r) ct B F S Br Q Fo No) := by
  refine Ct.of miX0_isOnPlate (Nat.le_of_ble_eq_true rfl) ?_
  intro X hXl hN ok
  refine AW.cast (L2 := [some (.ref 0), some (iv x), some (iv y)]) ?_ rfl rfl rfl
  have hd2 := id hd
  obtain ⟨d1, d2, d3, d4⟩ := hd2
  refine a_iload_n (pc := 0) ok dX0_isOnPlate_0 rfl ?_
  refine a_if_lt (pc := 1) (tgt := 28) ok dX0_isOnPlate_1 (by decide) (by first | omega | (unfold rg; omega) | (simp only [rg] at *; omega) | exact bz_rg _ | grind [rg]) (fun c1 => ?_) (fun c1 => ?_)
  · refine a_iconst (pc := 28) ok dX0_isOnPlate_28 ?_
    exact a_zret (pc := 29) ok dX0_isOnPlate_29 (by first | rfl | exact nb_bz _ | decide) (⟨by unfold inP; first | exact congrArg (fun z => some (iv z)) (bz_pos (by omega)).symm | exact congrArg (fun z => some (iv z)) (bz_neg (by omega)).symm, rfl⟩)
  · refine a_iload_n (pc := 4) ok dX0_isOnPlate_4 rfl ?_
    refine a_aload_n (pc := 5) ok dX0_isOnPlate_5 rfl ?_
    refine a_getf (pc := 6) ok dX0_isOnPlate_6 fl0_9 rfl rfl ?_
    refine a_icmp_ge (pc := 9) (tgt := 28) ok dX0_isOnPlate_9 (by decide) (by first | omega | (unfold rg; omega) | (simp only [rg] at *; omega) | exact bz_rg _ | grind [rg]) (by first | omega | (unfold rg; omega) | (simp only [rg] at *; omega) | exact bz_rg _ | grind [rg]) (fun c9 => ?_) (fun c9 => ?_)
    · refine a_iconst (pc := 28) ok dX0_isOnPlate_28 ?_
      exact a_zret (pc := 29) ok dX0_isOnPlate_29 (by first | rfl | exact nb_bz _ | decide) (⟨by unfold inP; first | exact congrArg (fun z => some (iv z)) (bz_pos (by omega)).symm | exact congrArg (fun z => some (iv z)) (bz_neg (by omega)).symm, rfl⟩)
    · refine a_iload_n (pc := 12) ok dX0_isOnPlate_12 rfl ?_
      refine a_if_lt (pc := 13) (tgt := 28) ok dX0_isOnPlate_13 (by decide) (by first | omega | (unfold rg; omega) | (simp only [rg] at *; omega) | exact bz_rg _ | grind [rg]) (fun c13 => ?_) (fun c13 => ?_)
      · refine a_iconst (pc := 28) ok dX0_isOnPlate_28 ?_
        exact a_zret (pc := 29) ok dX0_isOnPlate_29 (by first | rfl | exact nb_bz _ | decide) (⟨by unfold inP; first | exact congrArg (fun z => some (iv z)) (bz_pos (by omega)).symm | exact congrArg (fun z => some (iv z)) (bz_neg (by omega)).symm, rfl⟩)
      · refine a_iload_n (pc := 16) ok dX0_isOnPlate_16 rfl ?_
        refine a_aload_n (pc := 17) ok dX0_isOnPlate_17 rfl ?_
        refine a_getf (pc := 18) ok dX0_isOnPlate_18 fl0_15 rfl rfl ?_
        refine a_icmp_ge (pc := 21) (tgt := 28) ok dX0_isOnPlate_21 (by decide) (by first | omega | (unfold rg; omega) | (simp only [rg] at *; omega) | exact bz_rg _ | grind [rg]) (by first | omega | (unfold rg; omega) | (simp only [rg] at *; omega) | exact bz_rg _ | grind [rg]) (fun c21 => ?_) (fun c21 => ?_)
        · refine a_iconst (pc := 28) ok dX0_isOnPlate_28 ?_
          exact a_zret (pc := 29) ok dX0_isOnPlate_29 (by first | rfl | exact nb_bz _ | decide) (⟨by unfold inP; first | exact congrArg (fun z => some (iv z)) (bz_pos (by omega)).symm | exact congrArg (fun z => some (iv z)) (bz_neg (by omega)).symm, rfl⟩)
        · refine a_iconst (pc := 24) ok dX0_isOnPlate_24 ?_
          refine a_goto (pc := 25) (tgt := 29) ok dX0_isOnPlate_25 (by decide) ?_
          exact a_zret (pc := 29) ok dX0_isOnPlate_29 (by first | rfl | exact nb_bz _ | decide) (⟨by unfold inP; first | exact congrArg (fun z => some (iv z)) (bz_pos (by omega)).symm | exact congrArg (fun z => some (iv z)) (bz_neg (by omega)).symm, rfl⟩)
/-- at the plate's edge -/
def edg (c r k : Int) : Prop := k % c = 0 ∨ k % c = c - 1 ∨ k / c = 0 ∨ k / c = r - 1
theorem dX0_isAtEdge_0 : decode cX0_isAtEdge 0 = .ok (.iload_n 1, 1) := by decide +kernel
theorem dX0_isAtEdge_1 : decode cX0_isAtEdge 1 = .ok (.aload_n 0, 1) := by decide +kernel
theorem dX0_isAtEdge_2 : decode cX0_isAtEdge 2 = .ok (.getfield 9, 3) := by decide +kernel
theorem dX0_isAtEdge_5 : decode cX0_isAtEdge 5 = .ok (.irem, 1) := by decide +kernel
theorem dX0_isAtEdge_6 : decode cX0_isAtEdge 6 = .ok (.istore_n 2, 1) := by decide +kernel
theorem dX0_isAtEdge_7 : decode cX0_isAtEdge 7 = .ok (.iload_n 1, 1) := by decide +kernel
theorem dX0_isAtEdge_8 : decode cX0_isAtEdge 8 = .ok (.aload_n 0, 1) := by decide +kernel
theorem dX0_isAtEdge_9 : decode cX0_isAtEdge 9 = .ok (.getfield 9, 3) := by decide +kernel
theorem dX0_isAtEdge_12 : decode cX0_isAtEdge 12 = .ok (.idiv, 1) := by decide +kernel
theorem dX0_isAtEdge_13 : decode cX0_isAtEdge 13 = .ok (.istore_n 3, 1) := by decide +kernel
theorem dX0_isAtEdge_14 : decode cX0_isAtEdge 14 = .ok (.iload_n 2, 1) := by decide +kernel
theorem dX0_isAtEdge_15 : decode cX0_isAtEdge 15 = .ok (.ifCond .eq 27, 3) := by decide +kernel
theorem dX0_isAtEdge_18 : decode cX0_isAtEdge 18 = .ok (.iload_n 2, 1) := by decide +kernel
theorem dX0_isAtEdge_19 : decode cX0_isAtEdge 19 = .ok (.aload_n 0, 1) := by decide +kernel
theorem dX0_isAtEdge_20 : decode cX0_isAtEdge 20 = .ok (.getfield 9, 3) := by decide +kernel
theorem dX0_isAtEdge_23 : decode cX0_isAtEdge 23 = .ok (.iconst 1, 1) := by decide +kernel
theorem dX0_isAtEdge_24 : decode cX0_isAtEdge 24 = .ok (.isub, 1) := by decide +kernel
theorem dX0_isAtEdge_25 : decode cX0_isAtEdge 25 = .ok (.if_icmp .eq 17, 3) := by decide +kernel
theorem dX0_isAtEdge_28 : decode cX0_isAtEdge 28 = .ok (.iload_n 3, 1) := by decide +kernel
theorem dX0_isAtEdge_29 : decode cX0_isAtEdge 29 = .ok (.ifCond .eq 13, 3) := by decide +kernel
theorem dX0_isAtEdge_32 : decode cX0_isAtEdge 32 = .ok (.iload_n 3, 1) := by decide +kernel
theorem dX0_isAtEdge_33 : decode cX0_isAtEdge 33 = .ok (.aload_n 0, 1) := by decide +kernel
theorem dX0_isAtEdge_34 : decode cX0_isAtEdge 34 = .ok (.getfield 15, 3) := by decide +kernel
theorem dX0_isAtEdge_37 : decode cX0_isAtEdge 37 = .ok (.iconst 1, 1) := by decide +kernel
theorem dX0_isAtEdge_38 : decode cX0_isAtEdge 38 = .ok (.isub, 1) := by decide +kernel
theorem dX0_isAtEdge_39 : decode cX0_isAtEdge 39 = .ok (.if_icmp .ne 7, 3) := by decide +kernel
theorem dX0_isAtEdge_42 : decode cX0_isAtEdge 42 = .ok (.iconst 1, 1) := by decide +kernel
theorem dX0_isAtEdge_43 : decode cX0_isAtEdge 43 = .ok (.goto 4, 3) := by decide +kernel
theorem dX0_isAtEdge_46 : decode cX0_isAtEdge 46 = .ok (.iconst 0, 1) := by decide +kernel
theorem dX0_isAtEdge_47 : decode cX0_isAtEdge 47 = .ok (.ireturn, 1) := by decide +kernel
theorem c_isAtEdge {k : Int} (hd : dim c r) (hk : cel c r k) : Cd l yX0_isAtEdge cX0_isAtEdge 4 (some .boolean) rmX0_isAtEdge [.ref 0, iv k] (isM c r (c * r) ct B F S Br Q Fo No) (some (iv (@bz (edg c r k) (Classical.propDecidable _)))) (isM c r (c * r) ct B F S Br Q Fo No) := by
  refine Ct.of miX0_isAtEdge (Nat.le_of_ble_eq_true rfl) ?_
  intro X hXl hN ok
  refine AW.cast (L2 := [some (.ref 0), some (iv k), none, none]) ?_ rfl rfl rfl
  have h := dim_k hd hk
  have hc := dim_cells hd
  obtain ⟨hk1, hk2⟩ := hk
  obtain ⟨d1, d2, d3, d4⟩ := id hd
  refine a_iload_n (pc := 0) ok dX0_isAtEdge_0 rfl ?_
  refine a_aload_n (pc := 1) ok dX0_isAtEdge_1 rfl ?_
  refine a_getf (pc := 2) ok dX0_isAtEdge_2 fl0_9 rfl rfl ?_
  refine a_irem (pc := 5) ok dX0_isAtEdge_5 (by first | omega | (unfold rg; omega) | (simp only [rg] at *; omega) | exact bz_rg _ | grind [rg]) (by first | omega | (unfold rg; omega) | (simp only [rg] at *; omega) | exact bz_rg _ | grind [rg]) ?_
  refine a_istore_n (pc := 6) ok dX0_isAtEdge_6 rfl (by rw [hN]; decide) ?_
  refine a_iload_n (pc := 7) ok dX0_isAtEdge_7 rfl ?_
  refine a_aload_n (pc := 8) ok dX0_isAtEdge_8 rfl ?_
  refine a_getf (pc := 9) ok dX0_isAtEdge_9 fl0_9 rfl rfl ?_
  refine a_idiv (pc := 12) ok dX0_isAtEdge_12 (by first | omega | (unfold rg; omega) | (simp only [rg] at *; omega) | exact bz_rg _ | grind [rg]) (by first | omega | (unfold rg; omega) | (simp only [rg] at *; omega) | exact bz_rg _ | grind [rg]) ?_
  refine a_istore_n (pc := 13) ok dX0_isAtEdge_13 rfl (by rw [hN]; decide) ?_
  refine a_iload_n (pc := 14) ok dX0_isAtEdge_14 rfl ?_
  refine a_if_eq (pc := 15) (tgt := 42) ok dX0_isAtEdge_15 (by decide) (by first | omega | (unfold rg; omega) | (simp only [rg] at *; omega) | exact bz_rg _ | grind [rg]) (fun c15 => ?_) (fun c15 => ?_)
  · refine a_iconst (pc := 42) ok dX0_isAtEdge_42 ?_
    refine a_goto (pc := 43) (tgt := 47) ok dX0_isAtEdge_43 (by decide) ?_
    exact a_zret (pc := 47) ok dX0_isAtEdge_47 (by first | rfl | exact nb_bz _ | decide) (⟨by unfold edg; first | exact congrArg (fun z => some (iv z)) (@bz_pos _ (Classical.propDecidable _) (by omega)).symm | exact congrArg (fun z => some (iv z)) (@bz_neg _ (Classical.propDecidable _) (by omega)).symm, rfl⟩)
  · refine a_iload_n (pc := 18) ok dX0_isAtEdge_18 rfl ?_
    refine a_aload_n (pc := 19) ok dX0_isAtEdge_19 rfl ?_
    refine a_getf (pc := 20) ok dX0_isAtEdge_20 fl0_9 rfl rfl ?_
    refine a_iconst (pc := 23) ok dX0_isAtEdge_23 ?_
    refine a_isub (pc := 24) ok dX0_isAtEdge_24 ?_
    refine a_icmp_eq (pc := 25) (tgt := 42) ok dX0_isAtEdge_25 (by decide) (by first | omega | (unfold rg; omega) | (simp only [rg] at *; omega) | exact bz_rg _ | grind [rg]) (by first | omega | (unfold rg; omega) | (simp only [rg] at *; omega) | exact bz_rg _ | grind [rg]) (fun c25 => ?_) (fun c25 => ?_)
    · refine a_iconst (pc := 42) ok dX0_isAtEdge_42 ?_
      refine a_goto (pc := 43) (tgt := 47) ok dX0_isAtEdge_43 (by decide) ?_
      exact a_zret (pc := 47) ok dX0_isAtEdge_47 (by first | rfl | exact nb_bz _ | decide) (⟨by unfold edg; first | exact congrArg (fun z => some (iv z)) (@bz_pos _ (Classical.propDecidable _) (by omega)).symm | exact congrArg (fun z => some (iv z)) (@bz_neg _ (Classical.propDecidable _) (by omega)).symm, rfl⟩)
    · refine a_iload_n (pc := 28) ok dX0_isAtEdge_28 rfl ?_
      refine a_if_eq (pc := 29) (tgt := 42) ok dX0_isAtEdge_29 (by decide) (by first | omega | (unfold rg; omega) | (simp only [rg] at *; omega) | exact bz_rg _ | grind [rg]) (fun c29 => ?_) (fun c29 => ?_)
      · refine a_iconst (pc := 42) ok dX0_isAtEdge_42 ?_
        refine a_goto (pc := 43) (tgt := 47) ok dX0_isAtEdge_43 (by decide) ?_
        exact a_zret (pc := 47) ok dX0_isAtEdge_47 (by first | rfl | exact nb_bz _ | decide) (⟨by unfold edg; first | exact congrArg (fun z => some (iv z)) (@bz_pos _ (Classical.propDecidable _) (by omega)).symm | exact congrArg (fun z => some (iv z)) (@bz_neg _ (Classical.propDecidable _) (by omega)).symm, rfl⟩)
      · refine a_iload_n (pc := 32) ok dX0_isAtEdge_32 rfl ?_
        refine a_aload_n (pc := 33) ok dX0_isAtEdge_33 rfl ?_
        refine a_getf (pc := 34) ok dX0_isAtEdge_34 fl0_15 rfl rfl ?_
        refine a_iconst (pc := 37) ok dX0_isAtEdge_37 ?_
        refine a_isub (pc := 38) ok dX0_isAtEdge_38 ?_
        refine a_icmp_ne (pc := 39) (tgt := 46) ok dX0_isAtEdge_39 (by decide) (by first | omega | (unfold rg; omega) | (simp only [rg] at *; omega) | exact bz_rg _ | grind [rg]) (by first | omega | (unfold rg; omega) | (simp only [rg] at *; omega) | exact bz_rg _ | grind [rg]) (fun c39 => ?_) (fun c39 => ?_)
        · refine a_iconst (pc := 46) ok dX0_isAtEdge_46 ?_
          exact a_zret (pc := 47) ok dX0_isAtEdge_47 (by first | rfl | exact nb_bz _ | decide) (⟨by unfold edg; first | exact congrArg (fun z => some (iv z)) (@bz_pos _ (Classical.propDecidable _) (by omega)).symm | exact congrArg (fun z => some (iv z)) (@bz_neg _ (Classical.propDecidable _) (by omega)).symm, rfl⟩)
        · refine a_iconst (pc := 42) ok dX0_isAtEdge_42 ?_
          refine a_goto (pc := 43) (tgt := 47) ok dX0_isAtEdge_43 (by decide) ?_
          exact a_zret (pc := 47) ok dX0_isAtEdge_47 (by first | rfl | exact nb_bz _ | decide) (⟨by unfold edg; first | exact congrArg (fun z => some (iv z)) (@bz_pos _ (Classical.propDecidable _) (by omega)).symm | exact congrArg (fun z => some (iv z)) (@bz_neg _ (Classical.propDecidable _) (by omega)).symm, rfl⟩)
theorem dX0_has_0 : decode cX0_has 0 = .ok (.iload_n 1, 1) := by decide +kernel
theorem dX0_has_1 : decode cX0_has 1 = .ok (.ifCond .lt 15, 3) := by decide +kernel
theorem dX0_has_4 : decode cX0_has 4 = .ok (.iload_n 1, 1) := by decide +kernel
theorem dX0_has_5 : decode cX0_has 5 = .ok (.aload_n 0, 1) := by decide +kernel
theorem dX0_has_6 : decode cX0_has 6 = .ok (.getfield 21, 3) := by decide +kernel
theorem dX0_has_9 : decode cX0_has 9 = .ok (.if_icmp .ge 7, 3) := by decide +kernel
theorem dX0_has_12 : decode cX0_has 12 = .ok (.iconst 1, 1) := by decide +kernel
theorem dX0_has_13 : decode cX0_has 13 = .ok (.goto 4, 3) := by decide +kernel
theorem dX0_has_16 : decode cX0_has 16 = .ok (.iconst 0, 1) := by decide +kernel
theorem dX0_has_17 : decode cX0_has 17 = .ok (.ireturn, 1) := by decide +kernel
theorem c_has {i : Int} (hd : dim c r) (hi : rg i) (hI : IW c r b ct B F S Fo No) : Cd l yX0_has cX0_has 2 (some .boolean) rmX0_has [.ref 0, iv i] (isM c r (c * r) ct B F S Br Q Fo No) (some (iv (bz (0 ≤ i ∧ i < mny c r b)))) (isM c r (c * r) ct B F S Br Q Fo No) := by
  refine Ct.of miX0_has (Nat.le_of_ble_eq_true rfl) ?_
  intro X hXl hN ok
  refine AW.cast (L2 := [some (.ref 0), some (iv i)]) ?_ rfl rfl rfl
  obtain ⟨hB, rF, rS, eB, eF, eS, eC, eN⟩ := hI
  have hm := mny_1 (B := b) hd
  subst eC
  refine a_iload_n (pc := 0) ok dX0_has_0 rfl ?_
  refine a_if_lt (pc := 1) (tgt := 16) ok dX0_has_1 (by decide) (by first | omega | (unfold rg; omega) | (simp only [rg] at *; omega) | exact bz_rg _ | grind [rg]) (fun c1 => ?_) (fun c1 => ?_)
  · refine a_iconst (pc := 16) ok dX0_has_16 ?_
    exact a_zret (pc := 17) ok dX0_has_17 (by first | rfl | exact nb_bz _ | decide) (⟨by first | rfl | exact congrArg (fun z => some (iv z)) (bz_pos (by first | omega | grind)).symm | exact congrArg (fun z => some (iv z)) (bz_neg (by first | omega | grind)).symm, rfl⟩)
  · refine a_iload_n (pc := 4) ok dX0_has_4 rfl ?_
    refine a_aload_n (pc := 5) ok dX0_has_5 rfl ?_
    refine a_getf (pc := 6) ok dX0_has_6 fl0_21 rfl rfl ?_
    refine a_icmp_ge (pc := 9) (tgt := 16) ok dX0_has_9 (by decide) (by first | omega | (unfold rg; omega) | (simp only [rg] at *; omega) | exact bz_rg _ | grind [rg]) (by first | omega | (unfold rg; omega) | (simp only [rg] at *; omega) | exact bz_rg _ | grind [rg]) (fun c9 => ?_) (fun c9 => ?_)
    · refine a_iconst (pc := 16) ok dX0_has_16 ?_
      exact a_zret (pc := 17) ok dX0_has_17 (by first | rfl | exact nb_bz _ | decide) (⟨by first | rfl | exact congrArg (fun z => some (iv z)) (bz_pos (by first | omega | grind)).symm | exact congrArg (fun z => some (iv z)) (bz_neg (by first | omega | grind)).symm, rfl⟩)
    · refine a_iconst (pc := 12) ok dX0_has_12 ?_
      refine a_goto (pc := 13) (tgt := 17) ok dX0_has_13 (by decide) ?_
      exact a_zret (pc := 17) ok dX0_has_17 (by first | rfl | exact nb_bz _ | decide) (⟨by first | rfl | exact congrArg (fun z => some (iv z)) (bz_pos (by first | omega | grind)).symm | exact congrArg (fun z => some (iv z)) (bz_neg (by first | omega | grind)).symm, rfl⟩)
theorem dX0_islandAt_0 : decode cX0_islandAt 0 = .ok (.aload_n 0, 1) := by decide +kernel
theorem dX0_islandAt_1 : decode cX0_islandAt 1 = .ok (.getfield 43, 3) := by decide +kernel
theorem dX0_islandAt_4 : decode cX0_islandAt 4 = .ok (.aload_n 0, 1) := by decide +kernel
theorem dX0_islandAt_5 : decode cX0_islandAt 5 = .ok (.getfield 28, 3) := by decide +kernel
theorem dX0_islandAt_8 : decode cX0_islandAt 8 = .ok (.iload_n 1, 1) := by decide +kernel
theorem dX0_islandAt_9 : decode cX0_islandAt 9 = .ok (.iaload, 1) := by decide +kernel
theorem dX0_islandAt_10 : decode cX0_islandAt 10 = .ok (.iaload, 1) := by decide +kernel
theorem dX0_islandAt_11 : decode cX0_islandAt 11 = .ok (.ireturn, 1) := by decide +kernel
theorem c_islandAt {k : Int} (hd : dim c r) (hk : cel c r k) (hI : IW c r b ct B F S Fo No) : Cd l yX0_islandAt cX0_islandAt 2 (some .int) rmX0_islandAt [.ref 0, iv k] (isM c r (c * r) ct B F S Br Q Fo No) (some (iv (rk c r b (lw c r b k)))) (isM c r (c * r) ct B F S Br Q Fo No) := by
  refine Ct.of miX0_islandAt (Nat.le_of_ble_eq_true rfl) ?_
  intro X hXl hN ok
  refine AW.cast (L2 := [some (.ref 0), some (iv k)]) ?_ rfl rfl rfl
  obtain ⟨hB, rF, rS, eB, eF, eS, eC, eN⟩ := hI
  have hc := dim_cells hd
  have h1 := eF k hk
  have h2 := lw_ok (B := b) hd hk
  have h3 := (eN _ h2.1 (lw_lw hd hk)).2
  have a1 := hk.1
  have a2 := hk.2
  have a3 := h2.1.1
  have a4 := h2.1.2
  refine a_aload_n (pc := 0) ok dX0_islandAt_0 rfl ?_
  refine a_getf (pc := 1) ok dX0_islandAt_1 fl0_43 rfl rfl ?_
  refine a_aload_n (pc := 4) ok dX0_islandAt_4 rfl ?_
  refine a_getf (pc := 5) ok dX0_islandAt_5 fl0_28 rfl rfl ?_
  refine a_iload_n (pc := 8) ok dX0_islandAt_8 rfl ?_
  refine a_iald (pc := 9) ok dX0_islandAt_9 rfl (by first | decide | omega) (by first | omega | (unfold rg; omega) | (simp only [rg] at *; omega) | exact bz_rg _ | grind [rg]) ?_
  refine a_iald (pc := 10) ok dX0_islandAt_10 rfl (by first | decide | omega) (by first | omega | (unfold rg; omega) | (simp only [rg] at *; omega) | exact bz_rg _ | grind [rg]) ?_
  exact a_iret (pc := 11) ok dX0_islandAt_11 (⟨by rw [h1, h3], rfl⟩)
theorem dX0_isFirstCell_0 : decode cX0_isFirstCell 0 = .ok (.aload_n 0, 1) := by decide +kernel
theorem dX0_isFirstCell_1 : decode cX0_isFirstCell 1 = .ok (.getfield 28, 3) := by decide +kernel
theorem dX0_isFirstCell_4 : decode cX0_isFirstCell 4 = .ok (.iload_n 1, 1) := by decide +kernel
theorem dX0_isFirstCell_5 : decode cX0_isFirstCell 5 = .ok (.iaload, 1) := by decide +kernel
theorem dX0_isFirstCell_6 : decode cX0_isFirstCell 6 = .ok (.iload_n 1, 1) := by decide +kernel
theorem dX0_isFirstCell_7 : decode cX0_isFirstCell 7 = .ok (.if_icmp .ne 7, 3) := by decide +kernel
theorem dX0_isFirstCell_10 : decode cX0_isFirstCell 10 = .ok (.iconst 1, 1) := by decide +kernel
theorem dX0_isFirstCell_11 : decode cX0_isFirstCell 11 = .ok (.goto 4, 3) := by decide +kernel
theorem dX0_isFirstCell_14 : decode cX0_isFirstCell 14 = .ok (.iconst 0, 1) := by decide +kernel
theorem dX0_isFirstCell_15 : decode cX0_isFirstCell 15 = .ok (.ireturn, 1) := by decide +kernel
theorem c_isFirstCell {k : Int} (hd : dim c r) (hk : cel c r k) (hI : IW c r b ct B F S Fo No) : Cd l yX0_isFirstCell cX0_isFirstCell 2 (some .boolean) rmX0_isFirstCell [.ref 0, iv k] (isM c r (c * r) ct B F S Br Q Fo No) (some (iv (bz (lw c r b k = k)))) (isM c r (c * r) ct B F S Br Q Fo No) := by
  refine Ct.of miX0_isFirstCell (Nat.le_of_ble_eq_true rfl) ?_
  intro X hXl hN ok
  refine AW.cast (L2 := [some (.ref 0), some (iv k)]) ?_ rfl rfl rfl
  obtain ⟨hB, rF, rS, eB, eF, eS, eC, eN⟩ := hI
  have hc := dim_cells hd
  have h1 := eF k hk
  have r1 := rF k
  have a1 := hk.1
  have a2 := hk.2
  refine a_aload_n (pc := 0) ok dX0_isFirstCell_0 rfl ?_
  refine a_getf (pc := 1) ok dX0_isFirstCell_1 fl0_28 rfl rfl ?_
  refine a_iload_n (pc := 4) ok dX0_isFirstCell_4 rfl ?_
  refine a_iald (pc := 5) ok dX0_isFirstCell_5 rfl (by first | decide | omega) (by first | omega | (unfold rg; omega) | (simp only [rg] at *; omega) | exact bz_rg _ | grind [rg]) ?_
  refine a_iload_n (pc := 6) ok dX0_isFirstCell_6 rfl ?_
  refine a_icmp_ne (pc := 7) (tgt := 14) ok dX0_isFirstCell_7 (by decide) (by first | omega | (unfold rg; omega) | (simp only [rg] at *; omega) | exact bz_rg _ | grind [rg]) (by first | omega | (unfold rg; omega) | (simp only [rg] at *; omega) | exact bz_rg _ | grind [rg]) (fun c7 => ?_) (fun c7 => ?_)
  · refine a_iconst (pc := 14) ok dX0_isFirstCell_14 ?_
    exact a_zret (pc := 15) ok dX0_isFirstCell_15 (by first | rfl | exact nb_bz _ | decide) (⟨by first | rfl | exact congrArg (fun z => some (iv z)) (bz_pos (by first | omega | grind)).symm | exact congrArg (fun z => some (iv z)) (bz_neg (by first | omega | grind)).symm, rfl⟩)
  · refine a_iconst (pc := 10) ok dX0_isFirstCell_10 ?_
    refine a_goto (pc := 11) (tgt := 15) ok dX0_isFirstCell_11 (by decide) ?_
    exact a_zret (pc := 15) ok dX0_isFirstCell_15 (by first | rfl | exact nb_bz _ | decide) (⟨by first | rfl | exact congrArg (fun z => some (iv z)) (bz_pos (by first | omega | grind)).symm | exact congrArg (fun z => some (iv z)) (bz_neg (by first | omega | grind)).symm, rfl⟩)
theorem dX0_bandAt_0 : decode cX0_bandAt 0 = .ok (.aload_n 0, 1) := by decide +kernel
theorem dX0_bandAt_1 : decode cX0_bandAt 1 = .ok (.getfield 24, 3) := by decide +kernel
theorem dX0_bandAt_4 : decode cX0_bandAt 4 = .ok (.iload_n 1, 1) := by decide +kernel
theorem dX0_bandAt_5 : decode cX0_bandAt 5 = .ok (.iaload, 1) := by decide +kernel
theorem dX0_bandAt_6 : decode cX0_bandAt 6 = .ok (.ireturn, 1) := by decide +kernel
theorem c_bandAt {k : Int} (hd : dim c r) (hk : cel c r k) (hI : IW c r b ct B F S Fo No) : Cd l yX0_bandAt cX0_bandAt 2 (some .int) rmX0_bandAt [.ref 0, iv k] (isM c r (c * r) ct B F S Br Q Fo No) (some (iv (b k))) (isM c r (c * r) ct B F S Br Q Fo No) := by
  refine Ct.of miX0_bandAt (Nat.le_of_ble_eq_true rfl) ?_
  intro X hXl hN ok
  refine AW.cast (L2 := [some (.ref 0), some (iv k)]) ?_ rfl rfl rfl
  obtain ⟨hB, rF, rS, eB, eF, eS, eC, eN⟩ := hI
  have hc := dim_cells hd
  have a1 := hk.1
  have a2 := hk.2
  refine a_aload_n (pc := 0) ok dX0_bandAt_0 rfl ?_
  refine a_getf (pc := 1) ok dX0_bandAt_1 fl0_24 rfl rfl ?_
  refine a_iload_n (pc := 4) ok dX0_bandAt_4 rfl ?_
  refine a_iald (pc := 5) ok dX0_bandAt_5 rfl (by first | decide | omega) (by first | omega | (unfold rg; omega) | (simp only [rg] at *; omega) | exact bz_rg _ | grind [rg]) ?_
  exact a_iret (pc := 6) ok dX0_bandAt_6 (⟨by rw [eB k hk], rfl⟩)
theorem dX0_firstCell_0 : decode cX0_firstCell 0 = .ok (.aload_n 0, 1) := by decide +kernel
theorem dX0_firstCell_1 : decode cX0_firstCell 1 = .ok (.getfield 40, 3) := by decide +kernel
theorem dX0_firstCell_4 : decode cX0_firstCell 4 = .ok (.iload_n 1, 1) := by decide +kernel
theorem dX0_firstCell_5 : decode cX0_firstCell 5 = .ok (.iaload, 1) := by decide +kernel
theorem dX0_firstCell_6 : decode cX0_firstCell 6 = .ok (.ireturn, 1) := by decide +kernel
theorem c_firstCell {L : Int} (hd : dim c r) (hL : cel c r L) (hl : lw c r b L = L) (hI : IW c r b ct B F S Fo No) : Cd l yX0_firstCell cX0_firstCell 2 (some .int) rmX0_firstCell [.ref 0, iv (rk c r b L)] (isM c r (c * r) ct B F S Br Q Fo No) (some (iv L)) (isM c r (c * r) ct B F S Br Q Fo No) := by
  refine Ct.of miX0_firstCell (Nat.le_of_ble_eq_true rfl) ?_
  intro X hXl hN ok
  refine AW.cast (L2 := [some (.ref 0), some (iv (rk c r b L))]) ?_ rfl rfl rfl
  obtain ⟨hB, rF, rS, eB, eF, eS, eC, eN⟩ := hI
  have hm := mny_1 (B := b) hd
  have h1 := rk_mny hd hL hl
  refine a_aload_n (pc := 0) ok dX0_firstCell_0 rfl ?_
  refine a_getf (pc := 1) ok dX0_firstCell_1 fl0_40 rfl rfl ?_
  refine a_iload_n (pc := 4) ok dX0_firstCell_4 rfl ?_
  refine a_iald (pc := 5) ok dX0_firstCell_5 rfl (by first | decide | omega) (by first | omega | (unfold rg; omega) | (simp only [rg] at *; omega) | exact bz_rg _ | grind [rg]) ?_
  exact a_iret (pc := 6) ok dX0_firstCell_6 (⟨by rw [(eN L hL hl).1], rfl⟩)
theorem dX0_size_0 : decode cX0_size 0 = .ok (.aload_n 0, 1) := by decide +kernel
theorem dX0_size_1 : decode cX0_size 1 = .ok (.getfield 31, 3) := by decide +kernel
theorem dX0_size_4 : decode cX0_size 4 = .ok (.aload_n 0, 1) := by decide +kernel
theorem dX0_size_5 : decode cX0_size 5 = .ok (.getfield 40, 3) := by decide +kernel
theorem dX0_size_8 : decode cX0_size 8 = .ok (.iload_n 1, 1) := by decide +kernel
theorem dX0_size_9 : decode cX0_size 9 = .ok (.iaload, 1) := by decide +kernel
theorem dX0_size_10 : decode cX0_size 10 = .ok (.iaload, 1) := by decide +kernel
theorem dX0_size_11 : decode cX0_size 11 = .ok (.ireturn, 1) := by decide +kernel
theorem c_size {L : Int} (hd : dim c r) (hL : cel c r L) (hl : lw c r b L = L) (hI : IW c r b ct B F S Fo No) : Cd l yX0_size cX0_size 2 (some .int) rmX0_size [.ref 0, iv (rk c r b L)] (isM c r (c * r) ct B F S Br Q Fo No) (some (iv (siz c r b L))) (isM c r (c * r) ct B F S Br Q Fo No) := by
  refine Ct.of miX0_size (Nat.le_of_ble_eq_true rfl) ?_
  intro X hXl hN ok
  refine AW.cast (L2 := [some (.ref 0), some (iv (rk c r b L))]) ?_ rfl rfl rfl
  obtain ⟨hB, rF, rS, eB, eF, eS, eC, eN⟩ := hI
  have hm := mny_1 (B := b) hd
  have hc := dim_cells hd
  have h1 := rk_mny hd hL hl
  have h2 := (eN L hL hl).1
  have a1 := hL.1
  have a2 := hL.2
  refine a_aload_n (pc := 0) ok dX0_size_0 rfl ?_
  refine a_getf (pc := 1) ok dX0_size_1 fl0_31 rfl rfl ?_
  refine a_aload_n (pc := 4) ok dX0_size_4 rfl ?_
  refine a_getf (pc := 5) ok dX0_size_5 fl0_40 rfl rfl ?_
  refine a_iload_n (pc := 8) ok dX0_size_8 rfl ?_
  refine a_iald (pc := 9) ok dX0_size_9 rfl (by first | decide | omega) (by first | omega | (unfold rg; omega) | (simp only [rg] at *; omega) | exact bz_rg _ | grind [rg]) ?_
  refine a_iald (pc := 10) ok dX0_size_10 rfl (by first | decide | omega) (by first | omega | (unfold rg; omega) | (simp only [rg] at *; omega) | exact bz_rg _ | grind [rg]) ?_
  exact a_iret (pc := 11) ok dX0_size_11 (⟨by rw [h2, eS L hL hl], rfl⟩)
theorem dX0_bandOf_0 : decode cX0_bandOf 0 = .ok (.aload_n 0, 1) := by decide +kernel
theorem dX0_bandOf_1 : decode cX0_bandOf 1 = .ok (.getfield 24, 3) := by decide +kernel
theorem dX0_bandOf_4 : decode cX0_bandOf 4 = .ok (.aload_n 0, 1) := by decide +kernel
theorem dX0_bandOf_5 : decode cX0_bandOf 5 = .ok (.getfield 40, 3) := by decide +kernel
theorem dX0_bandOf_8 : decode cX0_bandOf 8 = .ok (.iload_n 1, 1) := by decide +kernel
theorem dX0_bandOf_9 : decode cX0_bandOf 9 = .ok (.iaload, 1) := by decide +kernel
theorem dX0_bandOf_10 : decode cX0_bandOf 10 = .ok (.iaload, 1) := by decide +kernel
theorem dX0_bandOf_11 : decode cX0_bandOf 11 = .ok (.ireturn, 1) := by decide +kernel
theorem c_ibandOf {L : Int} (hd : dim c r) (hL : cel c r L) (hl : lw c r b L = L) (hI : IW c r b ct B F S Fo No) : Cd l yX0_bandOf cX0_bandOf 2 (some .int) rmX0_bandOf [.ref 0, iv (rk c r b L)] (isM c r (c * r) ct B F S Br Q Fo No) (some (iv (b L))) (isM c r (c * r) ct B F S Br Q Fo No) := by
  refine Ct.of miX0_bandOf (Nat.le_of_ble_eq_true rfl) ?_
  intro X hXl hN ok
  refine AW.cast (L2 := [some (.ref 0), some (iv (rk c r b L))]) ?_ rfl rfl rfl
  obtain ⟨hB, rF, rS, eB, eF, eS, eC, eN⟩ := hI
  have hm := mny_1 (B := b) hd
  have hc := dim_cells hd
  have h1 := rk_mny hd hL hl
  have h2 := (eN L hL hl).1
  have a1 := hL.1
  have a2 := hL.2
  refine a_aload_n (pc := 0) ok dX0_bandOf_0 rfl ?_
  refine a_getf (pc := 1) ok dX0_bandOf_1 fl0_24 rfl rfl ?_
  refine a_aload_n (pc := 4) ok dX0_bandOf_4 rfl ?_
  refine a_getf (pc := 5) ok dX0_bandOf_5 fl0_40 rfl rfl ?_
  refine a_iload_n (pc := 8) ok dX0_bandOf_8 rfl ?_
  refine a_iald (pc := 9) ok dX0_bandOf_9 rfl (by first | decide | omega) (by first | omega | (unfold rg; omega) | (simp only [rg] at *; omega) | exact bz_rg _ | grind [rg]) ?_
  refine a_iald (pc := 10) ok dX0_bandOf_10 rfl (by first | decide | omega) (by first | omega | (unfold rg; omega) | (simp only [rg] at *; omega) | exact bz_rg _ | grind [rg]) ?_
  exact a_iret (pc := 11) ok dX0_bandOf_11 (⟨by rw [h2, eB L hL], rfl⟩)
/-- sides of a cell between islands -/
noncomputable def osK (c r : Int) (b : Int → Int) (k : Int) (w : Nat) : Int := cntK (fun w => decide (nb c r k w ≠ -1 ∧ lw c r b (nb c r k w) ≠ lw c r b k)) w
theorem dX0_otherSidesAt_0 : decode cX0_otherSidesAt 0 = .ok (.iconst 0, 1) := by decide +kernel
theorem dX0_otherSidesAt_1 : decode cX0_otherSidesAt 1 = .ok (.istore_n 2, 1) := by decide +kernel
theorem dX0_otherSidesAt_2 : decode cX0_otherSidesAt 2 = .ok (.iconst 0, 1) := by decide +kernel
theorem dX0_otherSidesAt_3 : decode cX0_otherSidesAt 3 = .ok (.istore_n 3, 1) := by decide +kernel
theorem dX0_otherSidesAt_4 : decode cX0_otherSidesAt 4 = .ok (.iload_n 3, 1) := by decide +kernel
theorem dX0_otherSidesAt_5 : decode cX0_otherSidesAt 5 = .ok (.iconst 4, 1) := by decide +kernel
theorem dX0_otherSidesAt_6 : decode cX0_otherSidesAt 6 = .ok (.if_icmp .ge 42, 3) := by decide +kernel
theorem dX0_otherSidesAt_9 : decode cX0_otherSidesAt 9 = .ok (.aload_n 0, 1) := by decide +kernel
theorem dX0_otherSidesAt_10 : decode cX0_otherSidesAt 10 = .ok (.iload_n 1, 1) := by decide +kernel
theorem dX0_otherSidesAt_11 : decode cX0_otherSidesAt 11 = .ok (.iload_n 3, 1) := by decide +kernel
theorem dX0_otherSidesAt_12 : decode cX0_otherSidesAt 12 = .ok (.invokevirtual 95, 3) := by decide +kernel
theorem dX0_otherSidesAt_15 : decode cX0_otherSidesAt 15 = .ok (.istore 4, 2) := by decide +kernel
theorem dX0_otherSidesAt_17 : decode cX0_otherSidesAt 17 = .ok (.iload 4, 2) := by decide +kernel
theorem dX0_otherSidesAt_19 : decode cX0_otherSidesAt 19 = .ok (.iconst (-1), 1) := by decide +kernel
theorem dX0_otherSidesAt_20 : decode cX0_otherSidesAt 20 = .ok (.if_icmp .eq 22, 3) := by decide +kernel
theorem dX0_otherSidesAt_23 : decode cX0_otherSidesAt 23 = .ok (.aload_n 0, 1) := by decide +kernel
theorem dX0_otherSidesAt_24 : decode cX0_otherSidesAt 24 = .ok (.getfield 28, 3) := by decide +kernel
theorem dX0_otherSidesAt_27 : decode cX0_otherSidesAt 27 = .ok (.iload 4, 2) := by decide +kernel
theorem dX0_otherSidesAt_29 : decode cX0_otherSidesAt 29 = .ok (.iaload, 1) := by decide +kernel
theorem dX0_otherSidesAt_30 : decode cX0_otherSidesAt 30 = .ok (.aload_n 0, 1) := by decide +kernel
theorem dX0_otherSidesAt_31 : decode cX0_otherSidesAt 31 = .ok (.getfield 28, 3) := by decide +kernel
theorem dX0_otherSidesAt_34 : decode cX0_otherSidesAt 34 = .ok (.iload_n 1, 1) := by decide +kernel
theorem dX0_otherSidesAt_35 : decode cX0_otherSidesAt 35 = .ok (.iaload, 1) := by decide +kernel
theorem dX0_otherSidesAt_36 : decode cX0_otherSidesAt 36 = .ok (.if_icmp .eq 6, 3) := by decide +kernel
theorem dX0_otherSidesAt_39 : decode cX0_otherSidesAt 39 = .ok (.iinc 2 1, 3) := by decide +kernel
theorem dX0_otherSidesAt_42 : decode cX0_otherSidesAt 42 = .ok (.iinc 3 1, 3) := by decide +kernel
theorem dX0_otherSidesAt_45 : decode cX0_otherSidesAt 45 = .ok (.goto (-41), 3) := by decide +kernel
theorem dX0_otherSidesAt_48 : decode cX0_otherSidesAt 48 = .ok (.iload_n 2, 1) := by decide +kernel
theorem dX0_otherSidesAt_49 : decode cX0_otherSidesAt 49 = .ok (.ireturn, 1) := by decide +kernel
theorem c_otherSidesAt {k : Int} (hd : dim c r) (hk : cel c r k) (hI : IW c r b ct B F S Fo No) : Cd l yX0_otherSidesAt cX0_otherSidesAt 5 (some .int) rmX0_otherSidesAt [.ref 0, iv k] (isM c r (c * r) ct B F S Br Q Fo No) (some (iv (osK c r b k 4))) (isM c r (c * r) ct B F S Br Q Fo No) := by
  refine Ct.of miX0_otherSidesAt (Nat.le_of_ble_eq_true rfl) ?_
  intro X hXl hN ok
  refine AW.cast (L2 := [some (.ref 0), some (iv k), none, none, none]) ?_ rfl rfl rfl
  obtain ⟨hB, rF, rS, eB, eF, eS, eC, eN⟩ := hI
  have hc := dim_cells hd
  have a1 := hk.1
  have a2 := hk.2
  have h1 := eF k hk
  have r1 := rF k
  have loop : ∀ w : Nat, w ≤ 4 → AW X 0 0 4 [some (.ref 0), some (iv k), some (iv (osK c r b k w)), some (iv w), none] [] (isM c r (c * r) ct B F S Br Q Fo No) := by
    refine wfl (fun w : Nat => 5 - w) _ _ ?_
    intro w hw ih
    have hn : w < 4 → nb c r k w ≠ -1 → cel c r (nb c r k w) := fun h h2 => (nb_back hd hk (by omega) h2).1
    have hnr : -1 ≤ nb c r k w ∧ nb c r k w < c * r := nb_rg (w := w) hd hk
    have r2 := rF (nb c r k w)
    have e1 : nb c r k w ≠ -1 ∧ lw c r b (nb c r k w) ≠ lw c r b k → osK c r b k w + 1 = osK c r b k (w + 1) := fun h => (cntK_t (p := fun w => decide (nb c r k w ≠ -1 ∧ lw c r b (nb c r k w) ≠ lw c r b k)) (decide_eq_true h)).symm
    have e2 : ¬ (nb c r k w ≠ -1 ∧ lw c r b (nb c r k w) ≠ lw c r b k) → osK c r b k w = osK c r b k (w + 1) := fun h => (cntK_f (p := fun w => decide (nb c r k w ≠ -1 ∧ lw c r b (nb c r k w) ≠ lw c r b k)) (decide_eq_false h)).symm
    refine a_iload_n (pc := 4) ok dX0_otherSidesAt_4 rfl ?_
    refine a_iconst (pc := 5) ok dX0_otherSidesAt_5 ?_
    refine a_icmp_ge (pc := 6) (tgt := 48) ok dX0_otherSidesAt_6 (by decide) (by first | omega | (unfold rg; omega) | (simp only [rg] at *; omega) | exact bz_rg _ | grind [rg]) (by first | omega | (unfold rg; omega) | (simp only [rg] at *; omega) | exact bz_rg _ | grind [rg]) (fun c6 => ?_) (fun c6 => ?_)
    · refine a_iload_n (pc := 48) ok dX0_otherSidesAt_48 rfl ?_
      exact a_iret (pc := 49) ok dX0_otherSidesAt_49 (⟨by rw [show w = 4 by omega], rfl⟩)
    · refine a_aload_n (pc := 9) ok dX0_otherSidesAt_9 rfl ?_
      refine a_iload_n (pc := 10) ok dX0_otherSidesAt_10 rfl ?_
      refine a_iload_n (pc := 11) ok dX0_otherSidesAt_11 rfl ?_
      refine a_callVp (pc := 12) ok [0, 1, 2, 3, 4, 5, 6, 7] dX0_otherSidesAt_12 mv0_95 miX0_neighbour (c_neighbour hd hk (by omega)) ⟨by decide, by decide, rfl, rfl, Nat.zero_le _, Nat.zero_le _⟩ rfl rfl (Nat.le_of_ble_eq_true rfl) rfl (by decide) rfl rfl ?_
      refine a_istore (pc := 15) ok dX0_otherSidesAt_15 rfl (by rw [hN]; decide) ?_
      refine a_iload (pc := 17) ok dX0_otherSidesAt_17 rfl ?_
      refine a_iconst (pc := 19) ok dX0_otherSidesAt_19 ?_
      refine a_icmp_eq (pc := 20) (tgt := 42) ok dX0_otherSidesAt_20 (by decide) (by first | omega | (unfold rg; omega) | (simp only [rg] at *; omega) | exact bz_rg _ | grind [rg]) (by first | omega | (unfold rg; omega) | (simp only [rg] at *; omega) | exact bz_rg _ | grind [rg]) (fun c20 => ?_) (fun c20 => ?_)
      · refine a_iinc (pc := 42) ok dX0_otherSidesAt_42 rfl rfl (by rw [hN]; decide) ?_
        refine a_goto (pc := 45) (tgt := 4) ok dX0_otherSidesAt_45 (by decide) ?_
        first
        | exact AW.forget (AW.cast (ih (w + 1) (by omega) (by omega)) (by rw [← e2 (fun z => z.1 c20)]; rfl) rfl rfl) (by repeat' (first | exact trivial | refine ⟨rfl, ?_⟩))
        | exact AW.forget (L2 := [some (.ref 0), some (iv k), some (iv (osK c r b k w)), some (iv (w + 1)), none]) (AW.cast (ih (w + 1) (by omega) (by omega)) (by rw [← e2 (fun z => by have := eF _ (hn (by omega) z.1); omega)]; rfl) rfl rfl) (by repeat' (first | exact trivial | refine ⟨rfl, ?_⟩))
        | exact AW.forget (L2 := [some (.ref 0), some (iv k), some (iv (osK c r b k w + 1)), some (iv (w + 1)), none]) (AW.cast (ih (w + 1) (by omega) (by omega)) (by rw [← e1 (by have := eF _ (hn (by omega) c20); omega)]; rfl) rfl rfl) (by repeat' (first | exact trivial | refine ⟨rfl, ?_⟩))
      · refine a_aload_n (pc := 23) ok dX0_otherSidesAt_23 rfl ?_
        refine a_getf (pc := 24) ok dX0_otherSidesAt_24 fl0_28 rfl rfl ?_
        refine a_iload (pc := 27) ok dX0_otherSidesAt_27 rfl ?_
        refine a_iald (pc := 29) ok dX0_otherSidesAt_29 rfl (by first | decide | omega) (by first | omega | (unfold rg; omega) | (simp only [rg] at *; omega) | exact bz_rg _ | grind [rg]) ?_
        refine a_aload_n (pc := 30) ok dX0_otherSidesAt_30 rfl ?_
        refine a_getf (pc := 31) ok dX0_otherSidesAt_31 fl0_28 rfl rfl ?_
        refine a_iload_n (pc := 34) ok dX0_otherSidesAt_34 rfl ?_
        refine a_iald (pc := 35) ok dX0_otherSidesAt_35 rfl (by first | decide | omega) (by first | omega | (unfold rg; omega) | (simp only [rg] at *; omega) | exact bz_rg _ | grind [rg]) ?_
        refine a_icmp_eq (pc := 36) (tgt := 42) ok dX0_otherSidesAt_36 (by decide) (by first | omega | (unfold rg; omega) | (simp only [rg] at *; omega) | exact bz_rg _ | grind [rg]) (by first | omega | (unfold rg; omega) | (simp only [rg] at *; omega) | exact bz_rg _ | grind [rg]) (fun c36 => ?_) (fun c36 => ?_)
        · refine a_iinc (pc := 42) ok dX0_otherSidesAt_42 rfl rfl (by rw [hN]; decide) ?_
          refine a_goto (pc := 45) (tgt := 4) ok dX0_otherSidesAt_45 (by decide) ?_
          first
          | exact AW.forget (AW.cast (ih (w + 1) (by omega) (by omega)) (by rw [← e2 (fun z => z.1 c20)]; rfl) rfl rfl) (by repeat' (first | exact trivial | refine ⟨rfl, ?_⟩))
          | exact AW.forget (L2 := [some (.ref 0), some (iv k), some (iv (osK c r b k w)), some (iv (w + 1)), none]) (AW.cast (ih (w + 1) (by omega) (by omega)) (by rw [← e2 (fun z => by have := eF _ (hn (by omega) z.1); omega)]; rfl) rfl rfl) (by repeat' (first | exact trivial | refine ⟨rfl, ?_⟩))
          | exact AW.forget (L2 := [some (.ref 0), some (iv k), some (iv (osK c r b k w + 1)), some (iv (w + 1)), none]) (AW.cast (ih (w + 1) (by omega) (by omega)) (by rw [← e1 (by have := eF _ (hn (by omega) c20); omega)]; rfl) rfl rfl) (by repeat' (first | exact trivial | refine ⟨rfl, ?_⟩))
        · refine a_iinc (pc := 39) ok dX0_otherSidesAt_39 rfl rfl (by rw [hN]; decide) ?_
          refine a_iinc (pc := 42) ok dX0_otherSidesAt_42 rfl rfl (by rw [hN]; decide) ?_
          refine a_goto (pc := 45) (tgt := 4) ok dX0_otherSidesAt_45 (by decide) ?_
          first
          | exact AW.forget (AW.cast (ih (w + 1) (by omega) (by omega)) (by rw [← e2 (fun z => z.1 c20)]; rfl) rfl rfl) (by repeat' (first | exact trivial | refine ⟨rfl, ?_⟩))
          | exact AW.forget (L2 := [some (.ref 0), some (iv k), some (iv (osK c r b k w)), some (iv (w + 1)), none]) (AW.cast (ih (w + 1) (by omega) (by omega)) (by rw [← e2 (fun z => by have := eF _ (hn (by omega) z.1); omega)]; rfl) rfl rfl) (by repeat' (first | exact trivial | refine ⟨rfl, ?_⟩))
          | exact AW.forget (L2 := [some (.ref 0), some (iv k), some (iv (osK c r b k w + 1)), some (iv (w + 1)), none]) (AW.cast (ih (w + 1) (by omega) (by omega)) (by rw [← e1 (by have := eF _ (hn (by omega) c20); omega)]; rfl) rfl rfl) (by repeat' (first | exact trivial | refine ⟨rfl, ?_⟩))
  refine a_iconst (pc := 0) ok dX0_otherSidesAt_0 ?_
  refine a_istore_n (pc := 1) ok dX0_otherSidesAt_1 rfl (by rw [hN]; decide) ?_
  refine a_iconst (pc := 2) ok dX0_otherSidesAt_2 ?_
  refine a_istore_n (pc := 3) ok dX0_otherSidesAt_3 rfl (by rw [hN]; decide) ?_
  exact AW.cast (loop 0 (by omega)) rfl rfl rfl
theorem osK_rg (k : Int) (w : Nat) : 0 ≤ osK c r b k w ∧ osK c r b k w ≤ w := cntK_rg _ _
theorem sumK_rg {f : Int → Int} {d : Int} (h : ∀ k : Nat, 0 ≤ f k ∧ f k ≤ d) (N : Nat) : 0 ≤ sumK f N ∧ sumK f N ≤ d * N := ⟨(sumK_pos fun k => (h k).1).1, sumK_le (fun k => (h k).2) N⟩
theorem c_measure {L : Int} (hd : dim c r) (hL : cel c r L) (hI : IW c r b ct B F S Fo No) : Cd l yX0_measureBorders cX0_measureBorders 5 none rmX0_measureBorders [.ref 0, iv L] (isM c r (c * r) ct B F S Br Q Fo No) none (isM c r (c * r) ct B F S (fun j => brd c r b L j) Q Fo No) := by
  have h := c_measureBorders (l := l) (ct := ct) (B := B) (F := F) (S := S) (Br := Br) (Q := Q) (Fo := Fo) (No := No) hd hL (fun k hk => by rw [lwf_congr hd hI.2.2.2.1]; exact hI.2.2.2.2.1 k hk)
  rw [brd_congr hd hI.2.2.2.1] at h
  exact h
theorem dX0_sidesToOthers_0 : decode cX0_sidesToOthers 0 = .ok (.aload_n 0, 1) := by decide +kernel
theorem dX0_sidesToOthers_1 : decode cX0_sidesToOthers 1 = .ok (.aload_n 0, 1) := by decide +kernel
theorem dX0_sidesToOthers_2 : decode cX0_sidesToOthers 2 = .ok (.getfield 40, 3) := by decide +kernel
theorem dX0_sidesToOthers_5 : decode cX0_sidesToOthers 5 = .ok (.iload_n 1, 1) := by decide +kernel
theorem dX0_sidesToOthers_6 : decode cX0_sidesToOthers 6 = .ok (.iaload, 1) := by decide +kernel
theorem dX0_sidesToOthers_7 : decode cX0_sidesToOthers 7 = .ok (.invokevirtual 77, 3) := by decide +kernel
theorem dX0_sidesToOthers_10 : decode cX0_sidesToOthers 10 = .ok (.iconst 0, 1) := by decide +kernel
theorem dX0_sidesToOthers_11 : decode cX0_sidesToOthers 11 = .ok (.istore_n 2, 1) := by decide +kernel
theorem dX0_sidesToOthers_12 : decode cX0_sidesToOthers 12 = .ok (.iconst 0, 1) := by decide +kernel
theorem dX0_sidesToOthers_13 : decode cX0_sidesToOthers 13 = .ok (.istore_n 3, 1) := by decide +kernel
theorem dX0_sidesToOthers_14 : decode cX0_sidesToOthers 14 = .ok (.iload_n 3, 1) := by decide +kernel
theorem dX0_sidesToOthers_15 : decode cX0_sidesToOthers 15 = .ok (.aload_n 0, 1) := by decide +kernel
theorem dX0_sidesToOthers_16 : decode cX0_sidesToOthers 16 = .ok (.getfield 18, 3) := by decide +kernel
theorem dX0_sidesToOthers_19 : decode cX0_sidesToOthers 19 = .ok (.if_icmp .ge 18, 3) := by decide +kernel
theorem dX0_sidesToOthers_22 : decode cX0_sidesToOthers 22 = .ok (.iload_n 2, 1) := by decide +kernel
theorem dX0_sidesToOthers_23 : decode cX0_sidesToOthers 23 = .ok (.aload_n 0, 1) := by decide +kernel
theorem dX0_sidesToOthers_24 : decode cX0_sidesToOthers 24 = .ok (.getfield 34, 3) := by decide +kernel
theorem dX0_sidesToOthers_27 : decode cX0_sidesToOthers 27 = .ok (.iload_n 3, 1) := by decide +kernel
theorem dX0_sidesToOthers_28 : decode cX0_sidesToOthers 28 = .ok (.iaload, 1) := by decide +kernel
theorem dX0_sidesToOthers_29 : decode cX0_sidesToOthers 29 = .ok (.iadd, 1) := by decide +kernel
theorem dX0_sidesToOthers_30 : decode cX0_sidesToOthers 30 = .ok (.istore_n 2, 1) := by decide +kernel
theorem dX0_sidesToOthers_31 : decode cX0_sidesToOthers 31 = .ok (.iinc 3 1, 3) := by decide +kernel
theorem dX0_sidesToOthers_34 : decode cX0_sidesToOthers 34 = .ok (.goto (-20), 3) := by decide +kernel
theorem dX0_sidesToOthers_37 : decode cX0_sidesToOthers 37 = .ok (.iload_n 2, 1) := by decide +kernel
theorem dX0_sidesToOthers_38 : decode cX0_sidesToOthers 38 = .ok (.ireturn, 1) := by decide +kernel
theorem c_sidesToOthers {L : Int} (hd : dim c r) (hL : cel c r L) (hl : lw c r b L = L) (hI : IW c r b ct B F S Fo No) : Cd l yX0_sidesToOthers cX0_sidesToOthers 4 (some .int) rmX0_sidesToOthers [.ref 0, iv (rk c r b L)] (isM c r (c * r) ct B F S Br Q Fo No) (some (iv (sumK (fun j => brd c r b L j) (c * r).toNat))) (isM c r (c * r) ct B F S (fun j => brd c r b L j) Q Fo No) := by
  refine Ct.of miX0_sidesToOthers (Nat.le_of_ble_eq_true rfl) ?_
  intro X hXl hN ok
  refine AW.cast (L2 := [some (.ref 0), some (iv (rk c r b L)), none, none]) ?_ rfl rfl rfl
  obtain ⟨hB, rF, rS, eB, eF, eS, eC, eN⟩ := id hI
  have hm := mny_1 (B := b) hd
  have hc := dim_cells hd
  have h1 := rk_mny hd hL hl
  have h2 := (eN L hL hl).1
  have loop : ∀ k : Nat, (k : Int) ≤ c * r → AW X 0 0 14 [some (.ref 0), some (iv (rk c r b L)), some (iv (sumK (fun j => brd c r b L j) k)), some (iv k)] [] (isM c r (c * r) ct B F S (fun j => brd c r b L j) Q Fo No) := by
    refine wfl (fun k : Nat => 145 - k) _ _ ?_
    intro k hk ih
    refine a_iload_n (pc := 14) ok dX0_sidesToOthers_14 rfl ?_
    refine a_aload_n (pc := 15) ok dX0_sidesToOthers_15 rfl ?_
    refine a_getf (pc := 16) ok dX0_sidesToOthers_16 fl0_18 rfl rfl ?_
    refine a_icmp_ge (pc := 19) (tgt := 37) ok dX0_sidesToOthers_19 (by decide) (by first | omega | (unfold rg; omega) | (simp only [rg] at *; omega) | exact bz_rg _ | grind [rg]) (by first | omega | (unfold rg; omega) | (simp only [rg] at *; omega) | exact bz_rg _ | grind [rg]) (fun c19 => ?_) (fun c19 => ?_)
    · refine a_iload_n (pc := 37) ok dX0_sidesToOthers_37 rfl ?_
      exact a_iret (pc := 38) ok dX0_sidesToOthers_38 (⟨by rw [show (c * r).toNat = k by omega], rfl⟩)
    · refine a_iload_n (pc := 22) ok dX0_sidesToOthers_22 rfl ?_
      refine a_aload_n (pc := 23) ok dX0_sidesToOthers_23 rfl ?_
      refine a_getf (pc := 24) ok dX0_sidesToOthers_24 fl0_34 rfl rfl ?_
      refine a_iload_n (pc := 27) ok dX0_sidesToOthers_27 rfl ?_
      refine a_iald (pc := 28) ok dX0_sidesToOthers_28 rfl (by first | decide | omega) (by first | omega | (unfold rg; omega) | (simp only [rg] at *; omega) | exact bz_rg _ | grind [rg]) ?_
      refine a_iadd (pc := 29) ok dX0_sidesToOthers_29 ?_
      refine a_istore_n (pc := 30) ok dX0_sidesToOthers_30 rfl (by rw [hN]; decide) ?_
      refine a_iinc (pc := 31) ok dX0_sidesToOthers_31 rfl rfl (by rw [hN]; decide) ?_
      refine a_goto (pc := 34) (tgt := 14) ok dX0_sidesToOthers_34 (by decide) ?_
      exact AW.cast (ih (k + 1) (by omega) (by omega)) rfl rfl rfl
  refine a_aload_n (pc := 0) ok dX0_sidesToOthers_0 rfl ?_
  refine a_aload_n (pc := 1) ok dX0_sidesToOthers_1 rfl ?_
  refine a_getf (pc := 2) ok dX0_sidesToOthers_2 fl0_40 rfl rfl ?_
  refine a_iload_n (pc := 5) ok dX0_sidesToOthers_5 rfl ?_
  refine a_iald (pc := 6) ok dX0_sidesToOthers_6 rfl (by first | decide | omega) (by first | omega | (unfold rg; omega) | (simp only [rg] at *; omega) | exact bz_rg _ | grind [rg]) ?_
  rw [h2]
  refine a_callVv (pc := 7) ok [0, 1, 2, 3, 4, 5, 6, 7] dX0_sidesToOthers_7 mv0_77 miX0_measureBorders (c_measure hd hL hI) ⟨by decide, by decide, rfl, rfl, Nat.zero_le _, Nat.zero_le _⟩ rfl rfl (Nat.le_of_ble_eq_true rfl) rfl (by decide) rfl rfl rfl ?_
  refine a_iconst (pc := 10) ok dX0_sidesToOthers_10 ?_
  refine a_istore_n (pc := 11) ok dX0_sidesToOthers_11 rfl (by rw [hN]; decide) ?_
  refine a_iconst (pc := 12) ok dX0_sidesToOthers_12 ?_
  refine a_istore_n (pc := 13) ok dX0_sidesToOthers_13 rfl (by rw [hN]; decide) ?_
  exact AW.cast (loop 0 (by omega)) rfl rfl rfl
theorem dX0_neighbourCount_0 : decode cX0_neighbourCount 0 = .ok (.aload_n 0, 1) := by decide +kernel
theorem dX0_neighbourCount_1 : decode cX0_neighbourCount 1 = .ok (.aload_n 0, 1) := by decide +kernel
theorem dX0_neighbourCount_2 : decode cX0_neighbourCount 2 = .ok (.getfield 40, 3) := by decide +kernel
theorem dX0_neighbourCount_5 : decode cX0_neighbourCount 5 = .ok (.iload_n 1, 1) := by decide +kernel
theorem dX0_neighbourCount_6 : decode cX0_neighbourCount 6 = .ok (.iaload, 1) := by decide +kernel
theorem dX0_neighbourCount_7 : decode cX0_neighbourCount 7 = .ok (.invokevirtual 77, 3) := by decide +kernel
theorem dX0_neighbourCount_10 : decode cX0_neighbourCount 10 = .ok (.iconst 0, 1) := by decide +kernel
theorem dX0_neighbourCount_11 : decode cX0_neighbourCount 11 = .ok (.istore_n 2, 1) := by decide +kernel
theorem dX0_neighbourCount_12 : decode cX0_neighbourCount 12 = .ok (.iconst 0, 1) := by decide +kernel
theorem dX0_neighbourCount_13 : decode cX0_neighbourCount 13 = .ok (.istore_n 3, 1) := by decide +kernel
theorem dX0_neighbourCount_14 : decode cX0_neighbourCount 14 = .ok (.iload_n 3, 1) := by decide +kernel
theorem dX0_neighbourCount_15 : decode cX0_neighbourCount 15 = .ok (.aload_n 0, 1) := by decide +kernel
theorem dX0_neighbourCount_16 : decode cX0_neighbourCount 16 = .ok (.getfield 18, 3) := by decide +kernel
theorem dX0_neighbourCount_19 : decode cX0_neighbourCount 19 = .ok (.if_icmp .ge 21, 3) := by decide +kernel
theorem dX0_neighbourCount_22 : decode cX0_neighbourCount 22 = .ok (.aload_n 0, 1) := by decide +kernel
theorem dX0_neighbourCount_23 : decode cX0_neighbourCount 23 = .ok (.getfield 34, 3) := by decide +kernel
theorem dX0_neighbourCount_26 : decode cX0_neighbourCount 26 = .ok (.iload_n 3, 1) := by decide +kernel
theorem dX0_neighbourCount_27 : decode cX0_neighbourCount 27 = .ok (.iaload, 1) := by decide +kernel
theorem dX0_neighbourCount_28 : decode cX0_neighbourCount 28 = .ok (.ifCond .le 6, 3) := by decide +kernel
theorem dX0_neighbourCount_31 : decode cX0_neighbourCount 31 = .ok (.iinc 2 1, 3) := by decide +kernel
theorem dX0_neighbourCount_34 : decode cX0_neighbourCount 34 = .ok (.iinc 3 1, 3) := by decide +kernel
theorem dX0_neighbourCount_37 : decode cX0_neighbourCount 37 = .ok (.goto (-23), 3) := by decide +kernel
theorem dX0_neighbourCount_40 : decode cX0_neighbourCount 40 = .ok (.iload_n 2, 1) := by decide +kernel
theorem dX0_neighbourCount_41 : decode cX0_neighbourCount 41 = .ok (.ireturn, 1) := by decide +kernel
theorem c_neighbourCount {L : Int} (hd : dim c r) (hL : cel c r L) (hl : lw c r b L = L) (hI : IW c r b ct B F S Fo No) : Cd l yX0_neighbourCount cX0_neighbourCount 4 (some .int) rmX0_neighbourCount [.ref 0, iv (rk c r b L)] (isM c r (c * r) ct B F S Br Q Fo No) (some (iv (cntK (fun j => decide (0 < brd c r b L j)) (c * r).toNat))) (isM c r (c * r) ct B F S (fun j => brd c r b L j) Q Fo No) := by
  refine Ct.of miX0_neighbourCount (Nat.le_of_ble_eq_true rfl) ?_
  intro X hXl hN ok
  refine AW.cast (L2 := [some (.ref 0), some (iv (rk c r b L)), none, none]) ?_ rfl rfl rfl
  obtain ⟨hB, rF, rS, eB, eF, eS, eC, eN⟩ := id hI
  have hm := mny_1 (B := b) hd
  have hc := dim_cells hd
  have h1 := rk_mny hd hL hl
  have h2 := (eN L hL hl).1
  have loop : ∀ k : Nat, (k : Int) ≤ c * r → AW X 0 0 14 [some (.ref 0), some (iv (rk c r b L)), some (iv (cntK (fun j => decide (0 < brd c r b L j)) k)), some (iv k)] [] (isM c r (c * r) ct B F S (fun j => brd c r b L j) Q Fo No) := by
    refine wfl (fun k : Nat => 145 - k) _ _ ?_
    intro k hk ih
    have hr := brd_rg (B := b) hd L k
    have e1 : 0 < brd c r b L k → cntK (fun j => decide (0 < brd c r b L j)) k + 1 = cntK (fun j => decide (0 < brd c r b L j)) (k + 1) := fun h => (cntK_t (p := fun j => decide (0 < brd c r b L j)) (decide_eq_true h)).symm
    have e2 : ¬ 0 < brd c r b L k → cntK (fun j => decide (0 < brd c r b L j)) k = cntK (fun j => decide (0 < brd c r b L j)) (k + 1) := fun h => (cntK_f (p := fun j => decide (0 < brd c r b L j)) (decide_eq_false h)).symm
    refine a_iload_n (pc := 14) ok dX0_neighbourCount_14 rfl ?_
    refine a_aload_n (pc := 15) ok dX0_neighbourCount_15 rfl ?_
    refine a_getf (pc := 16) ok dX0_neighbourCount_16 fl0_18 rfl rfl ?_
    refine a_icmp_ge (pc := 19) (tgt := 40) ok dX0_neighbourCount_19 (by decide) (by first | omega | (unfold rg; omega) | (simp only [rg] at *; omega) | exact bz_rg _ | grind [rg]) (by first | omega | (unfold rg; omega) | (simp only [rg] at *; omega) | exact bz_rg _ | grind [rg]) (fun c19 => ?_) (fun c19 => ?_)
    · refine a_iload_n (pc := 40) ok dX0_neighbourCount_40 rfl ?_
      exact a_iret (pc := 41) ok dX0_neighbourCount_41 (⟨by rw [show (c * r).toNat = k by omega], rfl⟩)
    · refine a_aload_n (pc := 22) ok dX0_neighbourCount_22 rfl ?_
      refine a_getf (pc := 23) ok dX0_neighbourCount_23 fl0_34 rfl rfl ?_
      refine a_iload_n (pc := 26) ok dX0_neighbourCount_26 rfl ?_
      refine a_iald (pc := 27) ok dX0_neighbourCount_27 rfl (by first | decide | omega) (by first | omega | (unfold rg; omega) | (simp only [rg] at *; omega) | exact bz_rg _ | grind [rg]) ?_
      refine a_if_le (pc := 28) (tgt := 34) ok dX0_neighbourCount_28 (by decide) (by first | omega | (unfold rg; omega) | (simp only [rg] at *; omega) | exact bz_rg _ | grind [rg]) (fun c28 => ?_) (fun c28 => ?_)
      · refine a_iinc (pc := 34) ok dX0_neighbourCount_34 rfl rfl (by rw [hN]; decide) ?_
        refine a_goto (pc := 37) (tgt := 14) ok dX0_neighbourCount_37 (by decide) ?_
        first
        | exact AW.cast (ih (k + 1) (by omega) (by omega)) (by rw [← e1 (by omega)]; rfl) rfl rfl
        | exact AW.cast (ih (k + 1) (by omega) (by omega)) (by rw [← e2 (by omega)]; rfl) rfl rfl
      · refine a_iinc (pc := 31) ok dX0_neighbourCount_31 rfl rfl (by rw [hN]; decide) ?_
        refine a_iinc (pc := 34) ok dX0_neighbourCount_34 rfl rfl (by rw [hN]; decide) ?_
        refine a_goto (pc := 37) (tgt := 14) ok dX0_neighbourCount_37 (by decide) ?_
        first
        | exact AW.cast (ih (k + 1) (by omega) (by omega)) (by rw [← e1 (by omega)]; rfl) rfl rfl
        | exact AW.cast (ih (k + 1) (by omega) (by omega)) (by rw [← e2 (by omega)]; rfl) rfl rfl
  refine a_aload_n (pc := 0) ok dX0_neighbourCount_0 rfl ?_
  refine a_aload_n (pc := 1) ok dX0_neighbourCount_1 rfl ?_
  refine a_getf (pc := 2) ok dX0_neighbourCount_2 fl0_40 rfl rfl ?_
  refine a_iload_n (pc := 5) ok dX0_neighbourCount_5 rfl ?_
  refine a_iald (pc := 6) ok dX0_neighbourCount_6 rfl (by first | decide | omega) (by first | omega | (unfold rg; omega) | (simp only [rg] at *; omega) | exact bz_rg _ | grind [rg]) ?_
  rw [h2]
  refine a_callVv (pc := 7) ok [0, 1, 2, 3, 4, 5, 6, 7] dX0_neighbourCount_7 mv0_77 miX0_measureBorders (c_measure hd hL hI) ⟨by decide, by decide, rfl, rfl, Nat.zero_le _, Nat.zero_le _⟩ rfl rfl (Nat.le_of_ble_eq_true rfl) rfl (by decide) rfl rfl rfl ?_
  refine a_iconst (pc := 10) ok dX0_neighbourCount_10 ?_
  refine a_istore_n (pc := 11) ok dX0_neighbourCount_11 rfl (by rw [hN]; decide) ?_
  refine a_iconst (pc := 12) ok dX0_neighbourCount_12 ?_
  refine a_istore_n (pc := 13) ok dX0_neighbourCount_13 rfl (by rw [hN]; decide) ?_
  exact AW.cast (loop 0 (by omega)) rfl rfl rfl
theorem dX0_commonSides_0 : decode cX0_commonSides 0 = .ok (.aload_n 0, 1) := by decide +kernel
theorem dX0_commonSides_1 : decode cX0_commonSides 1 = .ok (.aload_n 0, 1) := by decide +kernel
theorem dX0_commonSides_2 : decode cX0_commonSides 2 = .ok (.getfield 40, 3) := by decide +kernel
theorem dX0_commonSides_5 : decode cX0_commonSides 5 = .ok (.iload_n 1, 1) := by decide +kernel
theorem dX0_commonSides_6 : decode cX0_commonSides 6 = .ok (.iaload, 1) := by decide +kernel
theorem dX0_commonSides_7 : decode cX0_commonSides 7 = .ok (.invokevirtual 77, 3) := by decide +kernel
theorem dX0_commonSides_10 : decode cX0_commonSides 10 = .ok (.aload_n 0, 1) := by decide +kernel
theorem dX0_commonSides_11 : decode cX0_commonSides 11 = .ok (.getfield 34, 3) := by decide +kernel
theorem dX0_commonSides_14 : decode cX0_commonSides 14 = .ok (.aload_n 0, 1) := by decide +kernel
theorem dX0_commonSides_15 : decode cX0_commonSides 15 = .ok (.getfield 40, 3) := by decide +kernel
theorem dX0_commonSides_18 : decode cX0_commonSides 18 = .ok (.iload_n 2, 1) := by decide +kernel
theorem dX0_commonSides_19 : decode cX0_commonSides 19 = .ok (.iaload, 1) := by decide +kernel
theorem dX0_commonSides_20 : decode cX0_commonSides 20 = .ok (.iaload, 1) := by decide +kernel
theorem dX0_commonSides_21 : decode cX0_commonSides 21 = .ok (.ireturn, 1) := by decide +kernel
theorem c_commonSides {L L' : Int} (hd : dim c r) (hL : cel c r L) (hl : lw c r b L = L) (hL' : cel c r L') (hl' : lw c r b L' = L') (hI : IW c r b ct B F S Fo No) : Cd l yX0_commonSides cX0_commonSides 3 (some .int) rmX0_commonSides [.ref 0, iv (rk c r b L), iv (rk c r b L')] (isM c r (c * r) ct B F S Br Q Fo No) (some (iv (brd c r b L L'))) (isM c r (c * r) ct B F S (fun j => brd c r b L j) Q Fo No) := by
  refine Ct.of miX0_commonSides (Nat.le_of_ble_eq_true rfl) ?_
  intro X hXl hN ok
  refine AW.cast (L2 := [some (.ref 0), some (iv (rk c r b L)), some (iv (rk c r b L'))]) ?_ rfl rfl rfl
  obtain ⟨hB, rF, rS, eB, eF, eS, eC, eN⟩ := id hI
  have hm := mny_1 (B := b) hd
  have hc := dim_cells hd
  have h1 := rk_mny hd hL hl
  have h2 := (eN L hL hl).1
  have h1' := rk_mny hd hL' hl'
  have h2' := (eN L' hL' hl').1
  have a1 := hL'.1
  have a2 := hL'.2
  refine a_aload_n (pc := 0) ok dX0_commonSides_0 rfl ?_
  refine a_aload_n (pc := 1) ok dX0_commonSides_1 rfl ?_
  refine a_getf (pc := 2) ok dX0_commonSides_2 fl0_40 rfl rfl ?_
  refine a_iload_n (pc := 5) ok dX0_commonSides_5 rfl ?_
  refine a_iald (pc := 6) ok dX0_commonSides_6 rfl (by first | decide | omega) (by first | omega | (unfold rg; omega) | (simp only [rg] at *; omega) | exact bz_rg _ | grind [rg]) ?_
  rw [h2]
  refine a_callVv (pc := 7) ok [0, 1, 2, 3, 4, 5, 6, 7] dX0_commonSides_7 mv0_77 miX0_measureBorders (c_measure hd hL hI) ⟨by decide, by decide, rfl, rfl, Nat.zero_le _, Nat.zero_le _⟩ rfl rfl (Nat.le_of_ble_eq_true rfl) rfl (by decide) rfl rfl rfl ?_
  refine a_aload_n (pc := 10) ok dX0_commonSides_10 rfl ?_
  refine a_getf (pc := 11) ok dX0_commonSides_11 fl0_34 rfl rfl ?_
  refine a_aload_n (pc := 14) ok dX0_commonSides_14 rfl ?_
  refine a_getf (pc := 15) ok dX0_commonSides_15 fl0_40 rfl rfl ?_
  refine a_iload_n (pc := 18) ok dX0_commonSides_18 rfl ?_
  refine a_iald (pc := 19) ok dX0_commonSides_19 rfl (by first | decide | omega) (by first | omega | (unfold rg; omega) | (simp only [rg] at *; omega) | exact bz_rg _ | grind [rg]) ?_
  refine a_iald (pc := 20) ok dX0_commonSides_20 rfl (by first | decide | omega) (by first | omega | (unfold rg; omega) | (simp only [rg] at *; omega) | exact bz_rg _ | grind [rg]) ?_
  exact a_iret (pc := 21) ok dX0_commonSides_21 (⟨by rw [h2'], rfl⟩)
/-- sides at the plate's edge -/
noncomputable def egK (c r : Int) (k : Int) (w : Nat) : Int := cntK (fun w => decide (nb c r k w = -1)) w
noncomputable def esK (c r : Int) (b : Int → Int) (L : Int) (N : Nat) : Int := sumK (fun k => if lw c r b k = L then egK c r k 4 else 0) N
theorem dX0_sidesAtEdge_0 : decode cX0_sidesAtEdge 0 = .ok (.iconst 0, 1) := by decide +kernel
theorem dX0_sidesAtEdge_1 : decode cX0_sidesAtEdge 1 = .ok (.istore_n 2, 1) := by decide +kernel
theorem dX0_sidesAtEdge_2 : decode cX0_sidesAtEdge 2 = .ok (.aload_n 0, 1) := by decide +kernel
theorem dX0_sidesAtEdge_3 : decode cX0_sidesAtEdge 3 = .ok (.getfield 40, 3) := by decide +kernel
theorem dX0_sidesAtEdge_6 : decode cX0_sidesAtEdge 6 = .ok (.iload_n 1, 1) := by decide +kernel
theorem dX0_sidesAtEdge_7 : decode cX0_sidesAtEdge 7 = .ok (.iaload, 1) := by decide +kernel
theorem dX0_sidesAtEdge_8 : decode cX0_sidesAtEdge 8 = .ok (.istore_n 3, 1) := by decide +kernel
theorem dX0_sidesAtEdge_9 : decode cX0_sidesAtEdge 9 = .ok (.iload_n 3, 1) := by decide +kernel
theorem dX0_sidesAtEdge_10 : decode cX0_sidesAtEdge 10 = .ok (.aload_n 0, 1) := by decide +kernel
theorem dX0_sidesAtEdge_11 : decode cX0_sidesAtEdge 11 = .ok (.getfield 18, 3) := by decide +kernel
theorem dX0_sidesAtEdge_14 : decode cX0_sidesAtEdge 14 = .ok (.if_icmp .ge 53, 3) := by decide +kernel
theorem dX0_sidesAtEdge_17 : decode cX0_sidesAtEdge 17 = .ok (.aload_n 0, 1) := by decide +kernel
theorem dX0_sidesAtEdge_18 : decode cX0_sidesAtEdge 18 = .ok (.getfield 28, 3) := by decide +kernel
theorem dX0_sidesAtEdge_21 : decode cX0_sidesAtEdge 21 = .ok (.iload_n 3, 1) := by decide +kernel
theorem dX0_sidesAtEdge_22 : decode cX0_sidesAtEdge 22 = .ok (.iaload, 1) := by decide +kernel
theorem dX0_sidesAtEdge_23 : decode cX0_sidesAtEdge 23 = .ok (.aload_n 0, 1) := by decide +kernel
theorem dX0_sidesAtEdge_24 : decode cX0_sidesAtEdge 24 = .ok (.getfield 40, 3) := by decide +kernel
theorem dX0_sidesAtEdge_27 : decode cX0_sidesAtEdge 27 = .ok (.iload_n 1, 1) := by decide +kernel
theorem dX0_sidesAtEdge_28 : decode cX0_sidesAtEdge 28 = .ok (.iaload, 1) := by decide +kernel
theorem dX0_sidesAtEdge_29 : decode cX0_sidesAtEdge 29 = .ok (.if_icmp .ne 32, 3) := by decide +kernel
theorem dX0_sidesAtEdge_32 : decode cX0_sidesAtEdge 32 = .ok (.iconst 0, 1) := by decide +kernel
theorem dX0_sidesAtEdge_33 : decode cX0_sidesAtEdge 33 = .ok (.istore 4, 2) := by decide +kernel
theorem dX0_sidesAtEdge_35 : decode cX0_sidesAtEdge 35 = .ok (.iload 4, 2) := by decide +kernel
theorem dX0_sidesAtEdge_37 : decode cX0_sidesAtEdge 37 = .ok (.iconst 4, 1) := by decide +kernel
theorem dX0_sidesAtEdge_38 : decode cX0_sidesAtEdge 38 = .ok (.if_icmp .ge 23, 3) := by decide +kernel
theorem dX0_sidesAtEdge_41 : decode cX0_sidesAtEdge 41 = .ok (.aload_n 0, 1) := by decide +kernel
theorem dX0_sidesAtEdge_42 : decode cX0_sidesAtEdge 42 = .ok (.iload_n 3, 1) := by decide +kernel
theorem dX0_sidesAtEdge_43 : decode cX0_sidesAtEdge 43 = .ok (.iload 4, 2) := by decide +kernel
theorem dX0_sidesAtEdge_45 : decode cX0_sidesAtEdge 45 = .ok (.invokevirtual 95, 3) := by decide +kernel
theorem dX0_sidesAtEdge_48 : decode cX0_sidesAtEdge 48 = .ok (.iconst (-1), 1) := by decide +kernel
theorem dX0_sidesAtEdge_49 : decode cX0_sidesAtEdge 49 = .ok (.if_icmp .ne 6, 3) := by decide +kernel
theorem dX0_sidesAtEdge_52 : decode cX0_sidesAtEdge 52 = .ok (.iinc 2 1, 3) := by decide +kernel
theorem dX0_sidesAtEdge_55 : decode cX0_sidesAtEdge 55 = .ok (.iinc 4 1, 3) := by decide +kernel
theorem dX0_sidesAtEdge_58 : decode cX0_sidesAtEdge 58 = .ok (.goto (-23), 3) := by decide +kernel
theorem dX0_sidesAtEdge_61 : decode cX0_sidesAtEdge 61 = .ok (.iinc 3 1, 3) := by decide +kernel
theorem dX0_sidesAtEdge_64 : decode cX0_sidesAtEdge 64 = .ok (.goto (-55), 3) := by decide +kernel
theorem dX0_sidesAtEdge_67 : decode cX0_sidesAtEdge 67 = .ok (.iload_n 2, 1) := by decide +kernel
theorem dX0_sidesAtEdge_68 : decode cX0_sidesAtEdge 68 = .ok (.ireturn, 1) := by decide +kernel
theorem c_sidesAtEdge {L : Int} (hd : dim c r) (hL : cel c r L) (hl : lw c r b L = L) (hI : IW c r b ct B F S Fo No) : Cd l yX0_sidesAtEdge cX0_sidesAtEdge 5 (some .int) rmX0_sidesAtEdge [.ref 0, iv (rk c r b L)] (isM c r (c * r) ct B F S Br Q Fo No) (some (iv (esK c r b L (c * r).toNat))) (isM c r (c * r) ct B F S Br Q Fo No) := by
  refine Ct.of miX0_sidesAtEdge (Nat.le_of_ble_eq_true rfl) ?_
  intro X hXl hN ok
  refine AW.cast (L2 := [some (.ref 0), some (iv (rk c r b L)), none, none, none]) ?_ rfl rfl rfl
  obtain ⟨hB, rF, rS, eB, eF, eS, eC, eN⟩ := id hI
  have hm := mny_1 (B := b) hd
  have hc := dim_cells hd
  have h1 := rk_mny hd hL hl
  have h2 := (eN L hL hl).1
  have a1 := hL.1
  have a2 := hL.2
  have z0 : esK c r b L L.toNat = 0 := by
    have : ∀ m : Nat, (m : Int) ≤ L → esK c r b L m = 0 := fun m => by
      induction m with
      | zero => intro _; rfl
      | succ m ih =>
        intro h
        have hm2 : lw c r b m ≠ L := fun e => by have := (lw_ok (B := b) hd (k := m) ⟨by omega, by omega⟩).2.1; omega
        have := ih (by omega)
        unfold esK at this ⊢
        simp only [sumK]; rw [this, if_neg hm2]; rfl
    exact this _ (by omega)
  have loop : ∀ k : Nat, (k : Int) ≤ c * r → AW X 0 0 9 [some (.ref 0), some (iv (rk c r b L)), some (iv (esK c r b L k)), some (iv k), none] [] (isM c r (c * r) ct B F S Br Q Fo No) := by
    refine wfl (fun k : Nat => 145 - k) _ _ ?_
    intro k hk ih
    have hFk : (k : Int) < c * r → F k = lw c r b k := fun h => eF k ⟨by omega, h⟩
    have rk1 := rF k
    have e1 : lw c r b k = L → esK c r b L k + egK c r k 4 = esK c r b L (k + 1) := fun h => by unfold esK; simp only [sumK]; rw [if_pos h]
    have e2 : lw c r b k ≠ L → esK c r b L k = esK c r b L (k + 1) := fun h => by unfold esK; simp only [sumK]; rw [if_neg h, Int.add_zero]
    have inner : (k : Int) < c * r → lw c r b k = L → ∀ w : Nat, w ≤ 4 → AW X 0 0 35 [some (.ref 0), some (iv (rk c r b L)), some (iv (esK c r b L k + egK c r k w)), some (iv k), some (iv w)] [] (isM c r (c * r) ct B F S Br Q Fo No) := by
      intro hk2 hkL
      have hck : cel c r k := ⟨by omega, hk2⟩
      refine wfl (fun w : Nat => 5 - w) _ _ ?_
      intro w hw ih2
      have hnr : -1 ≤ nb c r k w ∧ nb c r k w < c * r := nb_rg (w := w) hd hck
      have f1 : nb c r k w = -1 → egK c r k w + 1 = egK c r k (w + 1) := fun h => (cntK_t (p := fun w => decide (nb c r k w = -1)) (decide_eq_true h)).symm
      have f2 : nb c r k w ≠ -1 → egK c r k w = egK c r k (w + 1) := fun h => (cntK_f (p := fun w => decide (nb c r k w = -1)) (decide_eq_false h)).symm
      refine a_iload (pc := 35) ok dX0_sidesAtEdge_35 rfl ?_
      refine a_iconst (pc := 37) ok dX0_sidesAtEdge_37 ?_
      refine a_icmp_ge (pc := 38) (tgt := 61) ok dX0_sidesAtEdge_38 (by decide) (by first | omega | (unfold rg; omega) | (simp only [rg] at *; omega) | exact bz_rg _ | grind [rg]) (by first | omega | (unfold rg; omega) | (simp only [rg] at *; omega) | exact bz_rg _ | grind [rg]) (fun c38 => ?_) (fun c38 => ?_)
      · refine a_iinc (pc := 61) ok dX0_sidesAtEdge_61 rfl rfl (by rw [hN]; decide) ?_
        refine a_goto (pc := 64) (tgt := 9) ok dX0_sidesAtEdge_64 (by decide) ?_
        exact AW.forget (L2 := [some (.ref 0), some (iv (rk c r b L)), some (iv (esK c r b L k + egK c r k w)), some (iv (k + 1)), none]) (AW.cast (ih (k + 1) (by omega) (by omega)) (by rw [show w = 4 by omega, e1 hkL]; rfl) rfl rfl) (by repeat' (first | exact trivial | refine ⟨rfl, ?_⟩))
      · refine a_aload_n (pc := 41) ok dX0_sidesAtEdge_41 rfl ?_
        refine a_iload_n (pc := 42) ok dX0_sidesAtEdge_42 rfl ?_
        refine a_iload (pc := 43) ok dX0_sidesAtEdge_43 rfl ?_
        refine a_callVp (pc := 45) ok [0, 1, 2, 3, 4, 5, 6, 7] dX0_sidesAtEdge_45 mv0_95 miX0_neighbour (c_neighbour hd hck (by omega)) ⟨by decide, by decide, rfl, rfl, Nat.zero_le _, Nat.zero_le _⟩ rfl rfl (Nat.le_of_ble_eq_true rfl) rfl (by decide) rfl rfl ?_
        refine a_iconst (pc := 48) ok dX0_sidesAtEdge_48 ?_
        refine a_icmp_ne (pc := 49) (tgt := 55) ok dX0_sidesAtEdge_49 (by decide) (by first | omega | (unfold rg; omega) | (simp only [rg] at *; omega) | exact bz_rg _ | grind [rg]) (by first | omega | (unfold rg; omega) | (simp only [rg] at *; omega) | exact bz_rg _ | grind [rg]) (fun c49 => ?_) (fun c49 => ?_)
        · refine a_iinc (pc := 55) ok dX0_sidesAtEdge_55 rfl rfl (by rw [hN]; decide) ?_
          refine a_goto (pc := 58) (tgt := 35) ok dX0_sidesAtEdge_58 (by decide) ?_
          first
          | exact AW.cast (ih2 (w + 1) (by omega) (by omega)) (by rw [← f1 c49, ← Int.add_assoc]; rfl) rfl rfl
          | exact AW.cast (ih2 (w + 1) (by omega) (by omega)) (by rw [← f2 c49]; rfl) rfl rfl
        · refine a_iinc (pc := 52) ok dX0_sidesAtEdge_52 rfl rfl (by rw [hN]; decide) ?_
          refine a_iinc (pc := 55) ok dX0_sidesAtEdge_55 rfl rfl (by rw [hN]; decide) ?_
          refine a_goto (pc := 58) (tgt := 35) ok dX0_sidesAtEdge_58 (by decide) ?_
          first
          | exact AW.cast (ih2 (w + 1) (by omega) (by omega)) (by rw [← f1 c49, ← Int.add_assoc]; rfl) rfl rfl
          | exact AW.cast (ih2 (w + 1) (by omega) (by omega)) (by rw [← f2 c49]; rfl) rfl rfl
    refine a_iload_n (pc := 9) ok dX0_sidesAtEdge_9 rfl ?_
    refine a_aload_n (pc := 10) ok dX0_sidesAtEdge_10 rfl ?_
    refine a_getf (pc := 11) ok dX0_sidesAtEdge_11 fl0_18 rfl rfl ?_
    refine a_icmp_ge (pc := 14) (tgt := 67) ok dX0_sidesAtEdge_14 (by decide) (by first | omega | (unfold rg; omega) | (simp only [rg] at *; omega) | exact bz_rg _ | grind [rg]) (by first | omega | (unfold rg; omega) | (simp only [rg] at *; omega) | exact bz_rg _ | grind [rg]) (fun c14 => ?_) (fun c14 => ?_)
    · refine a_iload_n (pc := 67) ok dX0_sidesAtEdge_67 rfl ?_
      exact a_iret (pc := 68) ok dX0_sidesAtEdge_68 (⟨by rw [show (c * r).toNat = k by omega], rfl⟩)
    · refine a_aload_n (pc := 17) ok dX0_sidesAtEdge_17 rfl ?_
      refine a_getf (pc := 18) ok dX0_sidesAtEdge_18 fl0_28 rfl rfl ?_
      refine a_iload_n (pc := 21) ok dX0_sidesAtEdge_21 rfl ?_
      refine a_iald (pc := 22) ok dX0_sidesAtEdge_22 rfl (by first | decide | omega) (by first | omega | (unfold rg; omega) | (simp only [rg] at *; omega) | exact bz_rg _ | grind [rg]) ?_
      refine a_aload_n (pc := 23) ok dX0_sidesAtEdge_23 rfl ?_
      refine a_getf (pc := 24) ok dX0_sidesAtEdge_24 fl0_40 rfl rfl ?_
      refine a_iload_n (pc := 27) ok dX0_sidesAtEdge_27 rfl ?_
      refine a_iald (pc := 28) ok dX0_sidesAtEdge_28 rfl (by first | decide | omega) (by first | omega | (unfold rg; omega) | (simp only [rg] at *; omega) | exact bz_rg _ | grind [rg]) ?_
      refine a_icmp_ne (pc := 29) (tgt := 61) ok dX0_sidesAtEdge_29 (by decide) (by first | omega | (unfold rg; omega) | (simp only [rg] at *; omega) | exact bz_rg _ | grind [rg]) (by first | omega | (unfold rg; omega) | (simp only [rg] at *; omega) | exact bz_rg _ | grind [rg]) (fun c29 => ?_) (fun c29 => ?_)
      · refine a_iinc (pc := 61) ok dX0_sidesAtEdge_61 rfl rfl (by rw [hN]; decide) ?_
        refine a_goto (pc := 64) (tgt := 9) ok dX0_sidesAtEdge_64 (by decide) ?_
        exact AW.forget (L2 := [some (.ref 0), some (iv (rk c r b L)), some (iv (esK c r b L k)), some (iv (k + 1)), none]) (AW.cast (ih (k + 1) (by omega) (by omega)) (by rw [← e2 (by have := hFk (by omega); omega)]; rfl) rfl rfl) (by repeat' (first | exact trivial | refine ⟨rfl, ?_⟩))
      · refine a_iconst (pc := 32) ok dX0_sidesAtEdge_32 ?_
        refine a_istore (pc := 33) ok dX0_sidesAtEdge_33 rfl (by rw [hN]; decide) ?_
        exact AW.cast (inner (by omega) (by have := hFk (by omega); omega) 0 (by omega)) (by rw [show egK c r k 0 = 0 from rfl, Int.add_zero]; rfl) rfl rfl
  refine a_iconst (pc := 0) ok dX0_sidesAtEdge_0 ?_
  refine a_istore_n (pc := 1) ok dX0_sidesAtEdge_1 rfl (by rw [hN]; decide) ?_
  refine a_aload_n (pc := 2) ok dX0_sidesAtEdge_2 rfl ?_
  refine a_getf (pc := 3) ok dX0_sidesAtEdge_3 fl0_40 rfl rfl ?_
  refine a_iload_n (pc := 6) ok dX0_sidesAtEdge_6 rfl ?_
  refine a_iald (pc := 7) ok dX0_sidesAtEdge_7 rfl (by first | decide | omega) (by first | omega | (unfold rg; omega) | (simp only [rg] at *; omega) | exact bz_rg _ | grind [rg]) ?_
  rw [h2]
  refine a_istore_n (pc := 8) ok dX0_sidesAtEdge_8 rfl (by rw [hN]; decide) ?_
  exact AW.cast (loop L.toNat (by omega)) (by rw [z0, Int.toNat_of_nonneg a1]; rfl) rfl rfl
noncomputable def asK (c r : Int) (b : Int → Int) (N : Nat) : Int := sumK (fun k => osK c r b k 4) N
theorem asK_rg (N : Nat) : 0 ≤ asK c r b N ∧ asK c r b N ≤ 4 * N := sumK_rg (fun k => osK_rg k 4) N
theorem dX0_allSides_0 : decode cX0_allSides 0 = .ok (.iconst 0, 1) := by decide +kernel
theorem dX0_allSides_1 : decode cX0_allSides 1 = .ok (.istore_n 1, 1) := by decide +kernel
theorem dX0_allSides_2 : decode cX0_allSides 2 = .ok (.iconst 0, 1) := by decide +kernel
theorem dX0_allSides_3 : decode cX0_allSides 3 = .ok (.istore_n 2, 1) := by decide +kernel
theorem dX0_allSides_4 : decode cX0_allSides 4 = .ok (.iload_n 2, 1) := by decide +kernel
theorem dX0_allSides_5 : decode cX0_allSides 5 = .ok (.aload_n 0, 1) := by decide +kernel
theorem dX0_allSides_6 : decode cX0_allSides 6 = .ok (.getfield 18, 3) := by decide +kernel
theorem dX0_allSides_9 : decode cX0_allSides 9 = .ok (.if_icmp .ge 17, 3) := by decide +kernel
theorem dX0_allSides_12 : decode cX0_allSides 12 = .ok (.iload_n 1, 1) := by decide +kernel
theorem dX0_allSides_13 : decode cX0_allSides 13 = .ok (.aload_n 0, 1) := by decide +kernel
theorem dX0_allSides_14 : decode cX0_allSides 14 = .ok (.iload_n 2, 1) := by decide +kernel
theorem dX0_allSides_15 : decode cX0_allSides 15 = .ok (.invokevirtual 105, 3) := by decide +kernel
theorem dX0_allSides_18 : decode cX0_allSides 18 = .ok (.iadd, 1) := by decide +kernel
theorem dX0_allSides_19 : decode cX0_allSides 19 = .ok (.istore_n 1, 1) := by decide +kernel
theorem dX0_allSides_20 : decode cX0_allSides 20 = .ok (.iinc 2 1, 3) := by decide +kernel
theorem dX0_allSides_23 : decode cX0_allSides 23 = .ok (.goto (-19), 3) := by decide +kernel
theorem dX0_allSides_26 : decode cX0_allSides 26 = .ok (.iload_n 1, 1) := by decide +kernel
theorem dX0_allSides_27 : decode cX0_allSides 27 = .ok (.iconst 2, 1) := by decide +kernel
theorem dX0_allSides_28 : decode cX0_allSides 28 = .ok (.idiv, 1) := by decide +kernel
theorem dX0_allSides_29 : decode cX0_allSides 29 = .ok (.ireturn, 1) := by decide +kernel
theorem c_allSides (hd : dim c r) (hI : IW c r b ct B F S Fo No) : Cd l yX0_allSides cX0_allSides 3 (some .int) rmX0_allSides [.ref 0] (isM c r (c * r) ct B F S Br Q Fo No) (some (iv (asK c r b (c * r).toNat / 2))) (isM c r (c * r) ct B F S Br Q Fo No) := by
  refine Ct.of miX0_allSides (Nat.le_of_ble_eq_true rfl) ?_
  intro X hXl hN ok
  refine AW.cast (L2 := [some (.ref 0), none, none]) ?_ rfl rfl rfl
  have hc := dim_cells hd
  have loop : ∀ k : Nat, (k : Int) ≤ c * r → AW X 0 0 4 [some (.ref 0), some (iv (asK c r b k)), some (iv k)] [] (isM c r (c * r) ct B F S Br Q Fo No) := by
    refine wfl (fun k : Nat => 145 - k) _ _ ?_
    intro k hk ih
    have hr := asK_rg (c := c) (r := r) (b := b) k
    refine a_iload_n (pc := 4) ok dX0_allSides_4 rfl ?_
    refine a_aload_n (pc := 5) ok dX0_allSides_5 rfl ?_
    refine a_getf (pc := 6) ok dX0_allSides_6 fl0_18 rfl rfl ?_
    refine a_icmp_ge (pc := 9) (tgt := 26) ok dX0_allSides_9 (by decide) (by first | omega | (unfold rg; omega) | (simp only [rg] at *; omega) | exact bz_rg _ | grind [rg]) (by first | omega | (unfold rg; omega) | (simp only [rg] at *; omega) | exact bz_rg _ | grind [rg]) (fun c9 => ?_) (fun c9 => ?_)
    · refine a_iload_n (pc := 26) ok dX0_allSides_26 rfl ?_
      refine a_iconst (pc := 27) ok dX0_allSides_27 ?_
      refine a_idiv (pc := 28) ok dX0_allSides_28 (by first | omega | (unfold rg; omega) | (simp only [rg] at *; omega) | exact bz_rg _ | grind [rg]) (by first | omega | (unfold rg; omega) | (simp only [rg] at *; omega) | exact bz_rg _ | grind [rg]) ?_
      exact a_iret (pc := 29) ok dX0_allSides_29 (⟨by rw [show (c * r).toNat = k by omega], rfl⟩)
    · refine a_iload_n (pc := 12) ok dX0_allSides_12 rfl ?_
      refine a_aload_n (pc := 13) ok dX0_allSides_13 rfl ?_
      refine a_iload_n (pc := 14) ok dX0_allSides_14 rfl ?_
      refine a_callVp (pc := 15) ok [0, 1, 2, 3, 4, 5, 6, 7] dX0_allSides_15 mv0_105 miX0_otherSidesAt (c_otherSidesAt hd ⟨by omega, by omega⟩ hI) ⟨by decide, by decide, rfl, rfl, Nat.zero_le _, Nat.zero_le _⟩ rfl rfl (Nat.le_of_ble_eq_true rfl) rfl (by decide) rfl rfl ?_
      refine a_iadd (pc := 18) ok dX0_allSides_18 ?_
      refine a_istore_n (pc := 19) ok dX0_allSides_19 rfl (by rw [hN]; decide) ?_
      refine a_iinc (pc := 20) ok dX0_allSides_20 rfl rfl (by rw [hN]; decide) ?_
      refine a_goto (pc := 23) (tgt := 4) ok dX0_allSides_23 (by decide) ?_
      exact AW.cast (ih (k + 1) (by omega) (by omega)) rfl rfl rfl
  refine a_iconst (pc := 0) ok dX0_allSides_0 ?_
  refine a_istore_n (pc := 1) ok dX0_allSides_1 rfl (by rw [hN]; decide) ?_
  refine a_iconst (pc := 2) ok dX0_allSides_2 ?_
  refine a_istore_n (pc := 3) ok dX0_allSides_3 rfl (by rw [hN]; decide) ?_
  exact AW.cast (loop 0 (by omega)) rfl rfl rfl
theorem dX0_cellsOfBand_0 : decode cX0_cellsOfBand 0 = .ok (.iconst 0, 1) := by decide +kernel
theorem dX0_cellsOfBand_1 : decode cX0_cellsOfBand 1 = .ok (.istore_n 2, 1) := by decide +kernel
theorem dX0_cellsOfBand_2 : decode cX0_cellsOfBand 2 = .ok (.iconst 0, 1) := by decide +kernel
theorem dX0_cellsOfBand_3 : decode cX0_cellsOfBand 3 = .ok (.istore_n 3, 1) := by decide +kernel
theorem dX0_cellsOfBand_4 : decode cX0_cellsOfBand 4 = .ok (.iload_n 3, 1) := by decide +kernel
theorem dX0_cellsOfBand_5 : decode cX0_cellsOfBand 5 = .ok (.aload_n 0, 1) := by decide +kernel
theorem dX0_cellsOfBand_6 : decode cX0_cellsOfBand 6 = .ok (.getfield 18, 3) := by decide +kernel
theorem dX0_cellsOfBand_9 : decode cX0_cellsOfBand 9 = .ok (.if_icmp .ge 22, 3) := by decide +kernel
theorem dX0_cellsOfBand_12 : decode cX0_cellsOfBand 12 = .ok (.aload_n 0, 1) := by decide +kernel
theorem dX0_cellsOfBand_13 : decode cX0_cellsOfBand 13 = .ok (.getfield 24, 3) := by decide +kernel
theorem dX0_cellsOfBand_16 : decode cX0_cellsOfBand 16 = .ok (.iload_n 3, 1) := by decide +kernel
theorem dX0_cellsOfBand_17 : decode cX0_cellsOfBand 17 = .ok (.iaload, 1) := by decide +kernel
theorem dX0_cellsOfBand_18 : decode cX0_cellsOfBand 18 = .ok (.iload_n 1, 1) := by decide +kernel
theorem dX0_cellsOfBand_19 : decode cX0_cellsOfBand 19 = .ok (.if_icmp .ne 6, 3) := by decide +kernel
theorem dX0_cellsOfBand_22 : decode cX0_cellsOfBand 22 = .ok (.iinc 2 1, 3) := by decide +kernel
theorem dX0_cellsOfBand_25 : decode cX0_cellsOfBand 25 = .ok (.iinc 3 1, 3) := by decide +kernel
theorem dX0_cellsOfBand_28 : decode cX0_cellsOfBand 28 = .ok (.goto (-24), 3) := by decide +kernel
theorem dX0_cellsOfBand_31 : decode cX0_cellsOfBand 31 = .ok (.iload_n 2, 1) := by decide +kernel
theorem dX0_cellsOfBand_32 : decode cX0_cellsOfBand 32 = .ok (.ireturn, 1) := by decide +kernel
theorem c_cellsOfBand {x : Int} (hd : dim c r) (hx : rg x) (hI : IW c r b ct B F S Fo No) : Cd l yX0_cellsOfBand cX0_cellsOfBand 4 (some .int) rmX0_cellsOfBand [.ref 0, iv x] (isM c r (c * r) ct B F S Br Q Fo No) (some (iv (cntK (fun k => decide (b k = x)) (c * r).toNat))) (isM c r (c * r) ct B F S Br Q Fo No) := by
  refine Ct.of miX0_cellsOfBand (Nat.le_of_ble_eq_true rfl) ?_
  intro X hXl hN ok
  refine AW.cast (L2 := [some (.ref 0), some (iv x), none, none]) ?_ rfl rfl rfl
  obtain ⟨hB, rF, rS, eB, eF, eS, eC, eN⟩ := id hI
  have hc := dim_cells hd
  have loop : ∀ k : Nat, (k : Int) ≤ c * r → AW X 0 0 4 [some (.ref 0), some (iv x), some (iv (cntK (fun k => decide (b k = x)) k)), some (iv k)] [] (isM c r (c * r) ct B F S Br Q Fo No) := by
    refine wfl (fun k : Nat => 145 - k) _ _ ?_
    intro k hk ih
    have hBk := hB k
    have eBk : (k : Int) < c * r → B k = b k := fun h => eB k ⟨by omega, h⟩
    have e1 : b k = x → cntK (fun k => decide (b k = x)) k + 1 = cntK (fun k => decide (b k = x)) (k + 1) := fun h => (cntK_t (p := fun k => decide (b k = x)) (decide_eq_true h)).symm
    have e2 : b k ≠ x → cntK (fun k => decide (b k = x)) k = cntK (fun k => decide (b k = x)) (k + 1) := fun h => (cntK_f (p := fun k => decide (b k = x)) (decide_eq_false h)).symm
    refine a_iload_n (pc := 4) ok dX0_cellsOfBand_4 rfl ?_
    refine a_aload_n (pc := 5) ok dX0_cellsOfBand_5 rfl ?_
    refine a_getf (pc := 6) ok dX0_cellsOfBand_6 fl0_18 rfl rfl ?_
    refine a_icmp_ge (pc := 9) (tgt := 31) ok dX0_cellsOfBand_9 (by decide) (by first | omega | (unfold rg; omega) | (simp only [rg] at *; omega) | exact bz_rg _ | grind [rg]) (by first | omega | (unfold rg; omega) | (simp only [rg] at *; omega) | exact bz_rg _ | grind [rg]) (fun c9 => ?_) (fun c9 => ?_)
    · refine a_iload_n (pc := 31) ok dX0_cellsOfBand_31 rfl ?_
      exact a_iret (pc := 32) ok dX0_cellsOfBand_32 (⟨by rw [show (c * r).toNat = k by omega], rfl⟩)
    · refine a_aload_n (pc := 12) ok dX0_cellsOfBand_12 rfl ?_
      refine a_getf (pc := 13) ok dX0_cellsOfBand_13 fl0_24 rfl rfl ?_
      refine a_iload_n (pc := 16) ok dX0_cellsOfBand_16 rfl ?_
      refine a_iald (pc := 17) ok dX0_cellsOfBand_17 rfl (by first | decide | omega) (by first | omega | (unfold rg; omega) | (simp only [rg] at *; omega) | exact bz_rg _ | grind [rg]) ?_
      refine a_iload_n (pc := 18) ok dX0_cellsOfBand_18 rfl ?_
      refine a_icmp_ne (pc := 19) (tgt := 25) ok dX0_cellsOfBand_19 (by decide) (by first | omega | (unfold rg; omega) | (simp only [rg] at *; omega) | exact bz_rg _ | grind [rg]) (by first | omega | (unfold rg; omega) | (simp only [rg] at *; omega) | exact bz_rg _ | grind [rg]) (fun c19 => ?_) (fun c19 => ?_)
      · refine a_iinc (pc := 25) ok dX0_cellsOfBand_25 rfl rfl (by rw [hN]; decide) ?_
        refine a_goto (pc := 28) (tgt := 4) ok dX0_cellsOfBand_28 (by decide) ?_
        have y := eBk (by omega)
        first
        | exact AW.cast (ih (k + 1) (by omega) (by omega)) (by rw [← e1 (by omega)]; rfl) rfl rfl
        | exact AW.cast (ih (k + 1) (by omega) (by omega)) (by rw [← e2 (by omega)]; rfl) rfl rfl
      · refine a_iinc (pc := 22) ok dX0_cellsOfBand_22 rfl rfl (by rw [hN]; decide) ?_
        refine a_iinc (pc := 25) ok dX0_cellsOfBand_25 rfl rfl (by rw [hN]; decide) ?_
        refine a_goto (pc := 28) (tgt := 4) ok dX0_cellsOfBand_28 (by decide) ?_
        have y := eBk (by omega)
        first
        | exact AW.cast (ih (k + 1) (by omega) (by omega)) (by rw [← e1 (by omega)]; rfl) rfl rfl
        | exact AW.cast (ih (k + 1) (by omega) (by omega)) (by rw [← e2 (by omega)]; rfl) rfl rfl
  refine a_iconst (pc := 0) ok dX0_cellsOfBand_0 ?_
  refine a_istore_n (pc := 1) ok dX0_cellsOfBand_1 rfl (by rw [hN]; decide) ?_
  refine a_iconst (pc := 2) ok dX0_cellsOfBand_2 ?_
  refine a_istore_n (pc := 3) ok dX0_cellsOfBand_3 rfl (by rw [hN]; decide) ?_
  exact AW.cast (loop 0 (by omega)) rfl rfl rfl
/-- islands, counted by their numbers -/
noncomputable def cnP (c r : Int) (b : Int → Int) (P : Int → Prop) (i : Int) : Int := cntK (fun j => tr (lw c r b j = j ∧ rk c r b j < i ∧ P j)) (c * r).toNat
theorem cnP_0 {P : Int → Prop} : cnP c r b P 0 = 0 := cntK_none fun j _ => tr_f.mpr fun z => by have := (rk_rg (c := c) (r := r) (B := b) j).1; have := z.2.1; omega
theorem cnP_ne (hd : dim c r) {L : Int} (hL : cel c r L) (hl : lw c r b L = L) {j : Nat} (h : (j : Int) ≠ L) (hj : lw c r b j = j) : rk c r b j < rk c r b L + 1 ↔ rk c r b j < rk c r b L := by
  have hc : cel c r j := Classical.byContradiction fun z => by rw [lw_out z] at hj; omega
  have : rk c r b j ≠ rk c r b L := fun e => h (rk_inj hc hj hL hl e)
  omega
theorem cnP_t (hd : dim c r) {P : Int → Prop} {L : Int} (hL : cel c r L) (hl : lw c r b L = L) (h : P L) : cnP c r b P (rk c r b L + 1) = cnP c r b P (rk c r b L) + 1 := by
  have hc := dim_cells hd
  have e : ((L.toNat : Nat) : Int) = L := Int.toNat_of_nonneg hL.1
  have a2 := hL.2
  have a1 := hL.1
  refine cntK_ins (b := L.toNat) (tr_t.mpr (by rw [e]; exact ⟨hl, by omega, h⟩)) (tr_f.mpr (by rw [e]; intro z; have := z.2.1; omega)) (fun j hj => tr_iff (and_congr_right fun y => and_congr_left fun _ => cnP_ne hd hL hl (by omega) y)) (by omega)
theorem cnP_f (hd : dim c r) {P : Int → Prop} {L : Int} (hL : cel c r L) (hl : lw c r b L = L) (h : ¬ P L) : cnP c r b P (rk c r b L + 1) = cnP c r b P (rk c r b L) := by
  refine cntK_congr _ fun j hj => tr_iff (and_congr_right fun y => and_congr_left fun z => ?_)
  exact cnP_ne hd hL hl (fun q => h (by rw [← q]; exact z)) y
theorem cnP_all (hd : dim c r) (P : Int → Prop) [DecidablePred P] : cnP c r b P (mny c r b) = cntK (fun j => decide (lw c r b j = j ∧ P j)) (c * r).toNat := by
  refine cntK_congr _ fun j hj => ?_
  by_cases z : lw c r b j = j ∧ P j
  · have hc : cel c r j := Classical.byContradiction fun y => by have := z.1; rw [lw_out y] at this; omega
    exact (tr_t.mpr ⟨z.1, (rk_mny hd hc z.1).2, z.2⟩).trans (decide_eq_true z).symm
  · exact (tr_f.mpr (fun y => z ⟨y.1, y.2.2⟩)).trans (decide_eq_false z).symm
theorem cnP_rg (P : Int → Prop) (i : Int) : 0 ≤ cnP c r b P i ∧ cnP c r b P i ≤ (c * r).toNat := cntK_rg _ _
theorem dX0_islandsOfBand_0 : decode cX0_islandsOfBand 0 = .ok (.iconst 0, 1) := by decide +kernel
theorem dX0_islandsOfBand_1 : decode cX0_islandsOfBand 1 = .ok (.istore_n 2, 1) := by decide +kernel
theorem dX0_islandsOfBand_2 : decode cX0_islandsOfBand 2 = .ok (.iconst 0, 1) := by decide +kernel
theorem dX0_islandsOfBand_3 : decode cX0_islandsOfBand 3 = .ok (.istore_n 3, 1) := by decide +kernel
theorem dX0_islandsOfBand_4 : decode cX0_islandsOfBand 4 = .ok (.iload_n 3, 1) := by decide +kernel
theorem dX0_islandsOfBand_5 : decode cX0_islandsOfBand 5 = .ok (.aload_n 0, 1) := by decide +kernel
theorem dX0_islandsOfBand_6 : decode cX0_islandsOfBand 6 = .ok (.getfield 21, 3) := by decide +kernel
theorem dX0_islandsOfBand_9 : decode cX0_islandsOfBand 9 = .ok (.if_icmp .ge 21, 3) := by decide +kernel
theorem dX0_islandsOfBand_12 : decode cX0_islandsOfBand 12 = .ok (.aload_n 0, 1) := by decide +kernel
theorem dX0_islandsOfBand_13 : decode cX0_islandsOfBand 13 = .ok (.iload_n 3, 1) := by decide +kernel
theorem dX0_islandsOfBand_14 : decode cX0_islandsOfBand 14 = .ok (.invokevirtual 108, 3) := by decide +kernel
theorem dX0_islandsOfBand_17 : decode cX0_islandsOfBand 17 = .ok (.iload_n 1, 1) := by decide +kernel
theorem dX0_islandsOfBand_18 : decode cX0_islandsOfBand 18 = .ok (.if_icmp .ne 6, 3) := by decide +kernel
theorem dX0_islandsOfBand_21 : decode cX0_islandsOfBand 21 = .ok (.iinc 2 1, 3) := by decide +kernel
theorem dX0_islandsOfBand_24 : decode cX0_islandsOfBand 24 = .ok (.iinc 3 1, 3) := by decide +kernel
theorem dX0_islandsOfBand_27 : decode cX0_islandsOfBand 27 = .ok (.goto (-23), 3) := by decide +kernel
theorem dX0_islandsOfBand_30 : decode cX0_islandsOfBand 30 = .ok (.iload_n 2, 1) := by decide +kernel
theorem dX0_islandsOfBand_31 : decode cX0_islandsOfBand 31 = .ok (.ireturn, 1) := by decide +kernel
theorem c_islandsOfBand {x : Int} (hd : dim c r) (hx : rg x) (hI : IW c r b ct B F S Fo No) : Cd l yX0_islandsOfBand cX0_islandsOfBand 4 (some .int) rmX0_islandsOfBand [.ref 0, iv x] (isM c r (c * r) ct B F S Br Q Fo No) (some (iv (cntK (fun j => decide (lw c r b j = j ∧ b j = x)) (c * r).toNat))) (isM c r (c * r) ct B F S Br Q Fo No) := by
  refine Ct.of miX0_islandsOfBand (Nat.le_of_ble_eq_true rfl) ?_
  intro X hXl hN ok
  refine AW.cast (L2 := [some (.ref 0), some (iv x), none, none]) ?_ rfl rfl rfl
  obtain ⟨hB, rF, rS, eB, eF, eS, eC, eN⟩ := id hI
  have hm := mny_1 (B := b) hd
  subst eC
  have loop : ∀ k : Nat, (k : Int) ≤ mny c r b → AW X 0 0 4 [some (.ref 0), some (iv x), some (iv (cnP c r b (fun j => b j = x) k)), some (iv k)] [] (isM c r (c * r) (mny c r b) B F S Br Q Fo No) := by
    refine wfl (fun k : Nat => 145 - k) _ _ ?_
    intro k hk ih
    by_cases hk2 : (k : Int) < mny c r b
    · obtain ⟨L, hL, hl, hr⟩ := rk_on hd (show (0 : Int) ≤ k by omega) hk2
      have rb : rg (b L) := by have := hB L; rw [← eB L hL]; unfold rg; omega
      have e1 : b L = x → cnP c r b (fun j => b j = x) k + 1 = cnP c r b (fun j => b j = x) ((k + 1 : Nat) : Int) := fun h => by have := cnP_t hd (P := fun j => b j = x) hL hl h; rw [hr] at this; exact this.symm
      have e2 : b L ≠ x → cnP c r b (fun j => b j = x) k = cnP c r b (fun j => b j = x) ((k + 1 : Nat) : Int) := fun h => by have := cnP_f hd (P := fun j => b j = x) hL hl h; rw [hr] at this; exact this.symm
      have ci := c_ibandOf (l := X.1.2.1) (Br := Br) (Q := Q) hd hL hl hI
      rw [hr] at ci
      refine a_iload_n (pc := 4) ok dX0_islandsOfBand_4 rfl ?_
      refine a_aload_n (pc := 5) ok dX0_islandsOfBand_5 rfl ?_
      refine a_getf (pc := 6) ok dX0_islandsOfBand_6 fl0_21 rfl rfl ?_
      refine a_icmp_ge (pc := 9) (tgt := 30) ok dX0_islandsOfBand_9 (by decide) (by first | omega | (unfold rg; omega) | (simp only [rg] at *; omega) | exact bz_rg _ | grind [rg]) (by first | omega | (unfold rg; omega) | (simp only [rg] at *; omega) | exact bz_rg _ | grind [rg]) (fun c9 => ?_) (fun c9 => ?_)
      · exfalso; first | omega | grind
      · refine a_aload_n (pc := 12) ok dX0_islandsOfBand_12 rfl ?_
        refine a_iload_n (pc := 13) ok dX0_islandsOfBand_13 rfl ?_
        refine a_callVp (pc := 14) ok [0, 1, 2, 3, 4, 5, 6, 7] dX0_islandsOfBand_14 mv0_108 miX0_bandOf (ci) ⟨by decide, by decide, rfl, rfl, Nat.zero_le _, Nat.zero_le _⟩ rfl rfl (Nat.le_of_ble_eq_true rfl) rfl (by decide) rfl rfl ?_
        refine a_iload_n (pc := 17) ok dX0_islandsOfBand_17 rfl ?_
        refine a_icmp_ne (pc := 18) (tgt := 24) ok dX0_islandsOfBand_18 (by decide) (by first | omega | (unfold rg; omega) | (simp only [rg] at *; omega) | exact bz_rg _ | grind [rg]) (by first | omega | (unfold rg; omega) | (simp only [rg] at *; omega) | exact bz_rg _ | grind [rg]) (fun c18 => ?_) (fun c18 => ?_)
        · refine a_iinc (pc := 24) ok dX0_islandsOfBand_24 rfl rfl (by rw [hN]; decide) ?_
          refine a_goto (pc := 27) (tgt := 4) ok dX0_islandsOfBand_27 (by decide) ?_
          first
          | exact AW.cast (ih (k + 1) (by omega) (by omega)) (by rw [← e1 (by omega)]; rfl) rfl rfl
          | exact AW.cast (ih (k + 1) (by omega) (by omega)) (by rw [← e2 (by omega)]; rfl) rfl rfl
        · refine a_iinc (pc := 21) ok dX0_islandsOfBand_21 rfl rfl (by rw [hN]; decide) ?_
          refine a_iinc (pc := 24) ok dX0_islandsOfBand_24 rfl rfl (by rw [hN]; decide) ?_
          refine a_goto (pc := 27) (tgt := 4) ok dX0_islandsOfBand_27 (by decide) ?_
          first
          | exact AW.cast (ih (k + 1) (by omega) (by omega)) (by rw [← e1 (by omega)]; rfl) rfl rfl
          | exact AW.cast (ih (k + 1) (by omega) (by omega)) (by rw [← e2 (by omega)]; rfl) rfl rfl
    · skip
      refine a_iload_n (pc := 4) ok dX0_islandsOfBand_4 rfl ?_
      refine a_aload_n (pc := 5) ok dX0_islandsOfBand_5 rfl ?_
      refine a_getf (pc := 6) ok dX0_islandsOfBand_6 fl0_21 rfl rfl ?_
      refine a_icmp_ge (pc := 9) (tgt := 30) ok dX0_islandsOfBand_9 (by decide) (by first | omega | (unfold rg; omega) | (simp only [rg] at *; omega) | exact bz_rg _ | grind [rg]) (by first | omega | (unfold rg; omega) | (simp only [rg] at *; omega) | exact bz_rg _ | grind [rg]) (fun c9 => ?_) (fun c9 => ?_)
      · refine a_iload_n (pc := 30) ok dX0_islandsOfBand_30 rfl ?_
        exact a_iret (pc := 31) ok dX0_islandsOfBand_31 (⟨by rw [show (k : Int) = mny c r b by omega, cnP_all hd], rfl⟩)
      · exfalso; first | omega | grind
  refine a_iconst (pc := 0) ok dX0_islandsOfBand_0 ?_
  refine a_istore_n (pc := 1) ok dX0_islandsOfBand_1 rfl (by rw [hN]; decide) ?_
  refine a_iconst (pc := 2) ok dX0_islandsOfBand_2 ?_
  refine a_istore_n (pc := 3) ok dX0_islandsOfBand_3 rfl (by rw [hN]; decide) ?_
  exact AW.cast (loop 0 (by omega)) (by show _ = [some (Value.ref 0), some (iv x), some (iv (cnP c r b (fun j => b j = x) 0)), some (iv 0)]; rw [cnP_0]; rfl) rfl rfl
theorem dX0_cellsOffTheirGrey_0 : decode cX0_cellsOffTheirGrey 0 = .ok (.iconst 0, 1) := by decide +kernel
theorem dX0_cellsOffTheirGrey_1 : decode cX0_cellsOffTheirGrey 1 = .ok (.istore_n 2, 1) := by decide +kernel
theorem dX0_cellsOffTheirGrey_2 : decode cX0_cellsOffTheirGrey 2 = .ok (.iconst 0, 1) := by decide +kernel
theorem dX0_cellsOffTheirGrey_3 : decode cX0_cellsOffTheirGrey 3 = .ok (.istore_n 3, 1) := by decide +kernel
theorem dX0_cellsOffTheirGrey_4 : decode cX0_cellsOffTheirGrey 4 = .ok (.iload_n 3, 1) := by decide +kernel
theorem dX0_cellsOffTheirGrey_5 : decode cX0_cellsOffTheirGrey 5 = .ok (.aload_n 0, 1) := by decide +kernel
theorem dX0_cellsOffTheirGrey_6 : decode cX0_cellsOffTheirGrey 6 = .ok (.getfield 18, 3) := by decide +kernel
theorem dX0_cellsOffTheirGrey_9 : decode cX0_cellsOffTheirGrey 9 = .ok (.if_icmp .ge 31, 3) := by decide +kernel
theorem dX0_cellsOffTheirGrey_12 : decode cX0_cellsOffTheirGrey 12 = .ok (.aload_n 0, 1) := by decide +kernel
theorem dX0_cellsOffTheirGrey_13 : decode cX0_cellsOffTheirGrey 13 = .ok (.getfield 24, 3) := by decide +kernel
theorem dX0_cellsOffTheirGrey_16 : decode cX0_cellsOffTheirGrey 16 = .ok (.iload_n 3, 1) := by decide +kernel
theorem dX0_cellsOffTheirGrey_17 : decode cX0_cellsOffTheirGrey 17 = .ok (.iaload, 1) := by decide +kernel
theorem dX0_cellsOffTheirGrey_18 : decode cX0_cellsOffTheirGrey 18 = .ok (.aload_n 1, 1) := by decide +kernel
theorem dX0_cellsOffTheirGrey_19 : decode cX0_cellsOffTheirGrey 19 = .ok (.aload_n 1, 1) := by decide +kernel
theorem dX0_cellsOffTheirGrey_20 : decode cX0_cellsOffTheirGrey 20 = .ok (.getfield 54, 3) := by decide +kernel
theorem dX0_cellsOffTheirGrey_23 : decode cX0_cellsOffTheirGrey 23 = .ok (.iload_n 3, 1) := by decide +kernel
theorem dX0_cellsOffTheirGrey_24 : decode cX0_cellsOffTheirGrey 24 = .ok (.iaload, 1) := by decide +kernel
theorem dX0_cellsOffTheirGrey_25 : decode cX0_cellsOffTheirGrey 25 = .ok (.invokevirtual 57, 3) := by decide +kernel
theorem dX0_cellsOffTheirGrey_28 : decode cX0_cellsOffTheirGrey 28 = .ok (.if_icmp .eq 6, 3) := by decide +kernel
theorem dX0_cellsOffTheirGrey_31 : decode cX0_cellsOffTheirGrey 31 = .ok (.iinc 2 1, 3) := by decide +kernel
theorem dX0_cellsOffTheirGrey_34 : decode cX0_cellsOffTheirGrey 34 = .ok (.iinc 3 1, 3) := by decide +kernel
theorem dX0_cellsOffTheirGrey_37 : decode cX0_cellsOffTheirGrey 37 = .ok (.goto (-33), 3) := by decide +kernel
theorem dX0_cellsOffTheirGrey_40 : decode cX0_cellsOffTheirGrey 40 = .ok (.iload_n 2, 1) := by decide +kernel
theorem dX0_cellsOffTheirGrey_41 : decode cX0_cellsOffTheirGrey 41 = .ok (.ireturn, 1) := by decide +kernel
theorem c_cellsOffTheirGrey {le li : Int} {n : Nat} {G T Hh : Int → Int} (hd : dim c r) (hn : n ≤ 5) (hT : ∀ i, rg (T i)) (hG : ∀ i, rg (G i)) (hI : IW c r b ct B F S Fo No) : Cd l yX0_cellsOffTheirGrey cX0_cellsOffTheirGrey 4 (some .int) rmX0_cellsOffTheirGrey [.ref 0, .ref 8] (isM c r (c * r) ct B F S Br Q Fo No ++ stA 8 c r G T n le Hh li) (some (iv (cntK (fun k => decide (b k ≠ bnd T n G k)) (c * r).toNat))) (isM c r (c * r) ct B F S Br Q Fo No ++ stA 8 c r G T n le Hh li) := by
  refine Ct.of miX0_cellsOffTheirGrey (Nat.le_of_ble_eq_true rfl) ?_
  intro X hXl hN ok
  refine AW.cast (L2 := [some (.ref 0), some (.ref 8), none, none]) ?_ rfl rfl rfl
  obtain ⟨hB, rF, rS, eB, eF, eS, eC, eN⟩ := id hI
  have hc := dim_cells hd
  have loop : ∀ k : Nat, (k : Int) ≤ c * r → AW X 0 0 4 [some (.ref 0), some (.ref 8), some (iv (cntK (fun k => decide (b k ≠ bnd T n G k)) k)), some (iv k)] [] (isM c r (c * r) ct B F S Br Q Fo No ++ stA 8 c r G T n le Hh li) := by
    refine wfl (fun k : Nat => 145 - k) _ _ ?_
    intro k hk ih
    have hBk := hB k
    have eBk : (k : Int) < c * r → B k = b k := fun h => eB k ⟨by omega, h⟩
    have hbr := cntK_rg (fun j => decide (T j ≤ G k)) n
    have hbd : bandN T n (G k) = cntK (fun j => decide (T j ≤ G k)) n := rfl
    have e1 : b k ≠ bnd T n G k → cntK (fun k => decide (b k ≠ bnd T n G k)) k + 1 = cntK (fun k => decide (b k ≠ bnd T n G k)) (k + 1) := fun h => (cntK_t (p := fun k => decide (b k ≠ bnd T n G k)) (decide_eq_true h)).symm
    have e2 : b k = bnd T n G k → cntK (fun k => decide (b k ≠ bnd T n G k)) k = cntK (fun k => decide (b k ≠ bnd T n G k)) (k + 1) := fun h => (cntK_f (p := fun k => decide (b k ≠ bnd T n G k)) (decide_eq_false (fun z => z h))).symm
    have hb2 : bnd T n G k = bandN T n (G k) := rfl
    refine a_iload_n (pc := 4) ok dX0_cellsOffTheirGrey_4 rfl ?_
    refine a_aload_n (pc := 5) ok dX0_cellsOffTheirGrey_5 rfl ?_
    refine a_getf (pc := 6) ok dX0_cellsOffTheirGrey_6 fl0_18 rfl rfl ?_
    refine a_icmp_ge (pc := 9) (tgt := 40) ok dX0_cellsOffTheirGrey_9 (by decide) (by first | omega | (unfold rg; omega) | (simp only [rg] at *; omega) | exact bz_rg _ | grind [rg]) (by first | omega | (unfold rg; omega) | (simp only [rg] at *; omega) | exact bz_rg _ | grind [rg]) (fun c9 => ?_) (fun c9 => ?_)
    · refine a_iload_n (pc := 40) ok dX0_cellsOffTheirGrey_40 rfl ?_
      exact a_iret (pc := 41) ok dX0_cellsOffTheirGrey_41 (⟨by rw [show (c * r).toNat = k by omega], rfl⟩)
    · refine a_aload_n (pc := 12) ok dX0_cellsOffTheirGrey_12 rfl ?_
      refine a_getf (pc := 13) ok dX0_cellsOffTheirGrey_13 fl0_24 rfl rfl ?_
      refine a_iload_n (pc := 16) ok dX0_cellsOffTheirGrey_16 rfl ?_
      refine a_iald (pc := 17) ok dX0_cellsOffTheirGrey_17 rfl (by first | decide | omega) (by first | omega | (unfold rg; omega) | (simp only [rg] at *; omega) | exact bz_rg _ | grind [rg]) ?_
      refine a_aload_n (pc := 18) ok dX0_cellsOffTheirGrey_18 rfl ?_
      refine a_aload_n (pc := 19) ok dX0_cellsOffTheirGrey_19 rfl ?_
      refine a_getf (pc := 20) ok dX0_cellsOffTheirGrey_20 fl0_54 rfl rfl ?_
      refine a_iload_n (pc := 23) ok dX0_cellsOffTheirGrey_23 rfl ?_
      refine a_iald (pc := 24) ok dX0_cellsOffTheirGrey_24 rfl (by first | decide | omega) (by first | omega | (unfold rg; omega) | (simp only [rg] at *; omega) | exact bz_rg _ | grind [rg]) ?_
      refine a_callVp (pc := 25) ok [8, 9, 10, 11] dX0_cellsOffTheirGrey_25 mv0_57 miX4_bandOfGrey (c_bandOfGrey hn hT (hG k)) ⟨by decide, by decide, rfl, rfl, Nat.zero_le _, Nat.zero_le _⟩ rfl rfl (Nat.le_of_ble_eq_true rfl) rfl (by decide) rfl rfl ?_
      refine a_icmp_eq (pc := 28) (tgt := 34) ok dX0_cellsOffTheirGrey_28 (by decide) (by first | omega | (unfold rg; omega) | (simp only [rg] at *; omega) | exact bz_rg _ | grind [rg]) (by first | omega | (unfold rg; omega) | (simp only [rg] at *; omega) | exact bz_rg _ | grind [rg]) (fun c28 => ?_) (fun c28 => ?_)
      · refine a_iinc (pc := 34) ok dX0_cellsOffTheirGrey_34 rfl rfl (by rw [hN]; decide) ?_
        refine a_goto (pc := 37) (tgt := 4) ok dX0_cellsOffTheirGrey_37 (by decide) ?_
        have y := eBk (by omega)
        first
        | exact AW.cast (ih (k + 1) (by omega) (by omega)) (by rw [← e1 (by omega)]; rfl) rfl rfl
        | exact AW.cast (ih (k + 1) (by omega) (by omega)) (by rw [← e2 (by omega)]; rfl) rfl rfl
      · refine a_iinc (pc := 31) ok dX0_cellsOffTheirGrey_31 rfl rfl (by rw [hN]; decide) ?_
        refine a_iinc (pc := 34) ok dX0_cellsOffTheirGrey_34 rfl rfl (by rw [hN]; decide) ?_
        refine a_goto (pc := 37) (tgt := 4) ok dX0_cellsOffTheirGrey_37 (by decide) ?_
        have y := eBk (by omega)
        first
        | exact AW.cast (ih (k + 1) (by omega) (by omega)) (by rw [← e1 (by omega)]; rfl) rfl rfl
        | exact AW.cast (ih (k + 1) (by omega) (by omega)) (by rw [← e2 (by omega)]; rfl) rfl rfl
  refine a_iconst (pc := 0) ok dX0_cellsOffTheirGrey_0 ?_
  refine a_istore_n (pc := 1) ok dX0_cellsOffTheirGrey_1 rfl (by rw [hN]; decide) ?_
  refine a_iconst (pc := 2) ok dX0_cellsOffTheirGrey_2 ?_
  refine a_istore_n (pc := 3) ok dX0_cellsOffTheirGrey_3 rfl (by rw [hN]; decide) ?_
  exact AW.cast (loop 0 (by omega)) rfl rfl rfl
theorem dX0_inkNeeded_0 : decode cX0_inkNeeded 0 = .ok (.aload_n 1, 1) := by decide +kernel
theorem dX0_inkNeeded_1 : decode cX0_inkNeeded 1 = .ok (.getfield 111, 3) := by decide +kernel
theorem dX0_inkNeeded_4 : decode cX0_inkNeeded 4 = .ok (.aload_n 0, 1) := by decide +kernel
theorem dX0_inkNeeded_5 : decode cX0_inkNeeded 5 = .ok (.invokevirtual 114, 3) := by decide +kernel
theorem dX0_inkNeeded_8 : decode cX0_inkNeeded 8 = .ok (.imul, 1) := by decide +kernel
theorem dX0_inkNeeded_9 : decode cX0_inkNeeded 9 = .ok (.istore_n 2, 1) := by decide +kernel
theorem dX0_inkNeeded_10 : decode cX0_inkNeeded 10 = .ok (.iconst 0, 1) := by decide +kernel
theorem dX0_inkNeeded_11 : decode cX0_inkNeeded 11 = .ok (.istore_n 3, 1) := by decide +kernel
theorem dX0_inkNeeded_12 : decode cX0_inkNeeded 12 = .ok (.iload_n 3, 1) := by decide +kernel
theorem dX0_inkNeeded_13 : decode cX0_inkNeeded 13 = .ok (.aload_n 0, 1) := by decide +kernel
theorem dX0_inkNeeded_14 : decode cX0_inkNeeded 14 = .ok (.getfield 18, 3) := by decide +kernel
theorem dX0_inkNeeded_17 : decode cX0_inkNeeded 17 = .ok (.if_icmp .ge 23, 3) := by decide +kernel
theorem dX0_inkNeeded_20 : decode cX0_inkNeeded 20 = .ok (.iload_n 2, 1) := by decide +kernel
theorem dX0_inkNeeded_21 : decode cX0_inkNeeded 21 = .ok (.aload_n 1, 1) := by decide +kernel
theorem dX0_inkNeeded_22 : decode cX0_inkNeeded 22 = .ok (.getfield 117, 3) := by decide +kernel
theorem dX0_inkNeeded_25 : decode cX0_inkNeeded 25 = .ok (.aload_n 0, 1) := by decide +kernel
theorem dX0_inkNeeded_26 : decode cX0_inkNeeded 26 = .ok (.getfield 24, 3) := by decide +kernel
theorem dX0_inkNeeded_29 : decode cX0_inkNeeded 29 = .ok (.iload_n 3, 1) := by decide +kernel
theorem dX0_inkNeeded_30 : decode cX0_inkNeeded 30 = .ok (.iaload, 1) := by decide +kernel
theorem dX0_inkNeeded_31 : decode cX0_inkNeeded 31 = .ok (.iaload, 1) := by decide +kernel
theorem dX0_inkNeeded_32 : decode cX0_inkNeeded 32 = .ok (.iadd, 1) := by decide +kernel
theorem dX0_inkNeeded_33 : decode cX0_inkNeeded 33 = .ok (.istore_n 2, 1) := by decide +kernel
theorem dX0_inkNeeded_34 : decode cX0_inkNeeded 34 = .ok (.iinc 3 1, 3) := by decide +kernel
theorem dX0_inkNeeded_37 : decode cX0_inkNeeded 37 = .ok (.goto (-25), 3) := by decide +kernel
theorem dX0_inkNeeded_40 : decode cX0_inkNeeded 40 = .ok (.iload_n 2, 1) := by decide +kernel
theorem dX0_inkNeeded_41 : decode cX0_inkNeeded 41 = .ok (.ireturn, 1) := by decide +kernel
/-- ink in the abstract -/
noncomputable def inkF (c r : Int) (b Hh : Int → Int) (li : Int) : Int := li * (asK c r b (c * r).toNat / 2) + sumK (fun k => Hh (b k)) (c * r).toNat
theorem c_inkNeeded {le li : Int} {n : Nat} {G T Hh : Int → Int} (hd : dim c r) (hI : IW c r b ct B F S Fo No) : Cd l yX0_inkNeeded cX0_inkNeeded 4 (some .int) rmX0_inkNeeded [.ref 0, .ref 8] (isM c r (c * r) ct B F S Br Q Fo No ++ stA 8 c r G T n le Hh li) (some (iv (inkF c r b Hh li))) (isM c r (c * r) ct B F S Br Q Fo No ++ stA 8 c r G T n le Hh li) := by
  refine Ct.of miX0_inkNeeded (Nat.le_of_ble_eq_true rfl) ?_
  intro X hXl hN ok
  refine AW.cast (L2 := [some (.ref 0), some (.ref 8), none, none]) ?_ rfl rfl rfl
  obtain ⟨hB, rF, rS, eB, eF, eS, eC, eN⟩ := id hI
  have hc := dim_cells hd
  have loop : ∀ k : Nat, (k : Int) ≤ c * r → AW X 0 0 12 [some (.ref 0), some (.ref 8), some (iv (li * (asK c r b (c * r).toNat / 2) + sumK (fun k => Hh (b k)) k)), some (iv k)] [] (isM c r (c * r) ct B F S Br Q Fo No ++ stA 8 c r G T n le Hh li) := by
    refine wfl (fun k : Nat => 145 - k) _ _ ?_
    intro k hk ih
    have hBk := hB k
    have eBk : (k : Int) < c * r → B k = b k := fun h => eB k ⟨by omega, h⟩
    refine a_iload_n (pc := 12) ok dX0_inkNeeded_12 rfl ?_
    refine a_aload_n (pc := 13) ok dX0_inkNeeded_13 rfl ?_
    refine a_getf (pc := 14) ok dX0_inkNeeded_14 fl0_18 rfl rfl ?_
    refine a_icmp_ge (pc := 17) (tgt := 40) ok dX0_inkNeeded_17 (by decide) (by first | omega | (unfold rg; omega) | (simp only [rg] at *; omega) | exact bz_rg _ | grind [rg]) (by first | omega | (unfold rg; omega) | (simp only [rg] at *; omega) | exact bz_rg _ | grind [rg]) (fun c17 => ?_) (fun c17 => ?_)
    · refine a_iload_n (pc := 40) ok dX0_inkNeeded_40 rfl ?_
      exact a_iret (pc := 41) ok dX0_inkNeeded_41 (⟨by unfold inkF; rw [show sumK (fun k => Hh (b k)) (c * r).toNat = sumK (fun k => Hh (b k)) k by rw [show (c * r).toNat = k by omega]], rfl⟩)
    · refine a_iload_n (pc := 20) ok dX0_inkNeeded_20 rfl ?_
      refine a_aload_n (pc := 21) ok dX0_inkNeeded_21 rfl ?_
      refine a_getf (pc := 22) ok dX0_inkNeeded_22 fl0_117 rfl rfl ?_
      refine a_aload_n (pc := 25) ok dX0_inkNeeded_25 rfl ?_
      refine a_getf (pc := 26) ok dX0_inkNeeded_26 fl0_24 rfl rfl ?_
      refine a_iload_n (pc := 29) ok dX0_inkNeeded_29 rfl ?_
      refine a_iald (pc := 30) ok dX0_inkNeeded_30 rfl (by first | decide | omega) (by first | omega | (unfold rg; omega) | (simp only [rg] at *; omega) | exact bz_rg _ | grind [rg]) ?_
      refine a_iald (pc := 31) ok dX0_inkNeeded_31 rfl (by first | decide | omega) (by first | omega | (unfold rg; omega) | (simp only [rg] at *; omega) | exact bz_rg _ | grind [rg]) ?_
      refine a_iadd (pc := 32) ok dX0_inkNeeded_32 ?_
      refine a_istore_n (pc := 33) ok dX0_inkNeeded_33 rfl (by rw [hN]; decide) ?_
      refine a_iinc (pc := 34) ok dX0_inkNeeded_34 rfl rfl (by rw [hN]; decide) ?_
      refine a_goto (pc := 37) (tgt := 12) ok dX0_inkNeeded_37 (by decide) ?_
      exact AW.cast (ih (k + 1) (by omega) (by omega)) (by rw [eBk (by omega), Int.add_assoc]; rfl) rfl rfl
  refine a_aload_n (pc := 0) ok dX0_inkNeeded_0 rfl ?_
  refine a_getf (pc := 1) ok dX0_inkNeeded_1 fl0_111 rfl rfl ?_
  refine a_aload_n (pc := 4) ok dX0_inkNeeded_4 rfl ?_
  refine a_callVp (pc := 5) ok [0, 1, 2, 3, 4, 5, 6, 7] dX0_inkNeeded_5 mv0_114 miX0_allSides (c_allSides hd hI) ⟨by decide, by decide, rfl, rfl, Nat.zero_le _, Nat.zero_le _⟩ rfl rfl (Nat.le_of_ble_eq_true rfl) rfl (by decide) rfl rfl ?_
  refine a_imul (pc := 8) ok dX0_inkNeeded_8 ?_
  refine a_istore_n (pc := 9) ok dX0_inkNeeded_9 rfl (by rw [hN]; decide) ?_
  refine a_iconst (pc := 10) ok dX0_inkNeeded_10 ?_
  refine a_istore_n (pc := 11) ok dX0_inkNeeded_11 rfl (by rw [hN]; decide) ?_
  exact AW.cast (loop 0 (by omega)) (by rw [show sumK (fun k => Hh (b k)) 0 = 0 from rfl, Int.add_zero]; rfl) rfl rfl
end IS5
