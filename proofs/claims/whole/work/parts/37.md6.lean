/-! MODEL: holes, mothers, what lies in it. -/
section MD8
variable {l : Launch} {rf sz c r : Int} {G T : Int → Int} {le : Int} {Hh : Int → Int} {li ac : Int} {B I : Int → Int} {m : Int} {Fi Co Br Wt mk gy : Int → Int} {sd rt lf wy sp ou : Int} {b : Int → Int}
theorem dX7_holes_0 : decode cX7_holes 0 = .ok (.aload_n 0, 1) := by decide +kernel
theorem dX7_holes_1 : decode cX7_holes 1 = .ok (.invokevirtual 132, 3) := by decide +kernel
theorem dX7_holes_4 : decode cX7_holes 4 = .ok (.iconst 0, 1) := by decide +kernel
theorem dX7_holes_5 : decode cX7_holes 5 = .ok (.istore_n 3, 1) := by decide +kernel
theorem dX7_holes_6 : decode cX7_holes 6 = .ok (.iconst 0, 1) := by decide +kernel
theorem dX7_holes_7 : decode cX7_holes 7 = .ok (.istore 4, 2) := by decide +kernel
theorem dX7_holes_9 : decode cX7_holes 9 = .ok (.iload 4, 2) := by decide +kernel
theorem dX7_holes_11 : decode cX7_holes 11 = .ok (.aload_n 1, 1) := by decide +kernel
theorem dX7_holes_12 : decode cX7_holes 12 = .ok (.invokestatic 74, 3) := by decide +kernel
theorem dX7_holes_15 : decode cX7_holes 15 = .ok (.if_icmp .ge 49, 3) := by decide +kernel
theorem dX7_holes_18 : decode cX7_holes 18 = .ok (.aload_n 0, 1) := by decide +kernel
theorem dX7_holes_19 : decode cX7_holes 19 = .ok (.getfield 32, 3) := by decide +kernel
theorem dX7_holes_22 : decode cX7_holes 22 = .ok (.iload 4, 2) := by decide +kernel
theorem dX7_holes_24 : decode cX7_holes 24 = .ok (.iaload, 1) := by decide +kernel
theorem dX7_holes_25 : decode cX7_holes 25 = .ok (.iload_n 2, 1) := by decide +kernel
theorem dX7_holes_26 : decode cX7_holes 26 = .ok (.if_icmp .eq 32, 3) := by decide +kernel
theorem dX7_holes_29 : decode cX7_holes 29 = .ok (.aload_n 0, 1) := by decide +kernel
theorem dX7_holes_30 : decode cX7_holes 30 = .ok (.getfield 47, 3) := by decide +kernel
theorem dX7_holes_33 : decode cX7_holes 33 = .ok (.iload 4, 2) := by decide +kernel
theorem dX7_holes_35 : decode cX7_holes 35 = .ok (.iaload, 1) := by decide +kernel
theorem dX7_holes_36 : decode cX7_holes 36 = .ok (.ifCond .ne 22, 3) := by decide +kernel
theorem dX7_holes_39 : decode cX7_holes 39 = .ok (.iload_n 3, 1) := by decide +kernel
theorem dX7_holes_40 : decode cX7_holes 40 = .ok (.aload_n 0, 1) := by decide +kernel
theorem dX7_holes_41 : decode cX7_holes 41 = .ok (.aload_n 1, 1) := by decide +kernel
theorem dX7_holes_42 : decode cX7_holes 42 = .ok (.iload_n 2, 1) := by decide +kernel
theorem dX7_holes_43 : decode cX7_holes 43 = .ok (.iload 4, 2) := by decide +kernel
theorem dX7_holes_45 : decode cX7_holes 45 = .ok (.invokevirtual 135, 3) := by decide +kernel
theorem dX7_holes_48 : decode cX7_holes 48 = .ok (.ifCond .eq 7, 3) := by decide +kernel
theorem dX7_holes_51 : decode cX7_holes 51 = .ok (.iconst 1, 1) := by decide +kernel
theorem dX7_holes_52 : decode cX7_holes 52 = .ok (.goto 4, 3) := by decide +kernel
theorem dX7_holes_55 : decode cX7_holes 55 = .ok (.iconst 0, 1) := by decide +kernel
theorem dX7_holes_56 : decode cX7_holes 56 = .ok (.iadd, 1) := by decide +kernel
theorem dX7_holes_57 : decode cX7_holes 57 = .ok (.istore_n 3, 1) := by decide +kernel
theorem dX7_holes_58 : decode cX7_holes 58 = .ok (.iinc 4 1, 3) := by decide +kernel
theorem dX7_holes_61 : decode cX7_holes 61 = .ok (.goto (-52), 3) := by decide +kernel
theorem dX7_holes_64 : decode cX7_holes 64 = .ok (.iload_n 3, 1) := by decide +kernel
theorem dX7_holes_65 : decode cX7_holes 65 = .ok (.ireturn, 1) := by decide +kernel
theorem c_holes {n L i : Int} (hd : dim c r) (hL : cel c r L) (hl : lw c r b L = L) (hi : rk c r b L = i) (hJ : JW c r b B I m Fi Co) : Ct l yX7_holes cX7_holes 5 (some .int) rmX7_holes [.ref 0, .ref 1, iv i] (mdM rf sz c r G T n le Hh li ac B I m Fi Co Br Wt mk gy sd rt lf wy sp ou)
    (fun z M => z = some (iv (hoF c r b L)) ∧ ∃ mk' Q' : Int → Int, M = (mdM rf sz c r G T n le Hh li ac B I m Fi Co Br (Q') (mk') gy sd rt lf wy sp ou)) := by
  subst hi
  refine Ct.of miX7_holes (Nat.le_of_ble_eq_true rfl) ?_
  intro X hXl hN ok
  refine AW.cast (L2 := [some (.ref 0), some (.ref 1), some (iv (rk c r b L)), none, none]) ?_ rfl rfl rfl
  have hc := dim_cells hd
  obtain ⟨j1, j2, j3, j4, j5, j6⟩ := id hJ
  have loop : ∀ q : Nat × (Int → Int) × (Int → Int), ((q.1 : Int) ≤ c * r ∧ (∀ j, q.2.1 j = 0 ∨ q.2.1 j = 1) ∧ (∀ j, cel c r j → lw c r b j ≠ L → (q.2.1 j = 1 ↔ hlw c r b L j < q.1))) →
      AW X 0 0 9 [some (.ref 0), some (.ref 1), some (iv (rk c r b L)), some (iv (hoK c r b L q.1)), some (iv q.1)] [] (mdM rf sz c r G T n le Hh li ac B I m Fi Co Br (q.2.2) (q.2.1) gy sd rt lf wy sp ou) := by
    refine wfl (fun q : Nat × (Int → Int) × (Int → Int) => 145 - q.1) _ _ ?_
    rintro ⟨k, Sn, Qn⟩ ⟨h1, h2, h3⟩ ih
    dsimp only at h1 h2 h3 ih ⊢
    have hSk := h2 k
    by_cases hk : (k : Int) < c * r
    · have hck : cel c r k := ⟨by omega, hk⟩
      have hlo := hlw_ok (b := b) (L := L) hd hck
      have hlk := lw_ok (B := b) hd hck
      have rIk := j2 k
      have hm := mny_1 (B := b) hd
      have hrk := rk_mny hd hL hl
      have hir : I k = rk c r b L ↔ lw c r b k = L := by rw [j4 k hck]; exact ⟨fun e => rk_inj hlk.1 (lw_lw hd hck) hL hl e, fun e => by rw [e]⟩
      have ek : ((k + 1 : Nat) : Int) = (k : Int) + 1 := by omega
      have skip : (lw c r b k = L ∨ hlw c r b L k ≠ k) → AW X 0 0 58 [some (.ref 0), some (.ref 1), some (iv (rk c r b L)), some (iv (hoK c r b L k)), some (iv k)] [] (mdM rf sz c r G T n le Hh li ac B I m Fi Co Br (Qn) (Sn) gy sd rt lf wy sp ou) := by
        intro hs
        have hsk := hlw_skip hd hs
        have e1 : hoK c r b L (k + 1) = hoK c r b L k := hoK_f (fun z => hs.elim z.1 (fun y => y z.2.1))
        refine a_iinc (pc := 58) ok dX7_holes_58 rfl rfl (by rw [hN]; decide) ?_
        refine a_goto (pc := 61) (tgt := 9) ok dX7_holes_61 (by decide) ?_
        exact AW.cast (ih (k + 1, Sn, Qn) ⟨by dsimp only; omega, h2, fun j a1 a2 => by dsimp only; rw [ek, hsk j a1 a2]; exact h3 j a1 a2⟩ (by dsimp only; omega)) (by dsimp only; rw [e1]; rfl) rfl rfl
      have go : lw c r b k ≠ L → hlw c r b L k = k → ∀ (Qn : Int → Int) (z : Int), z = hoK c r b L (k + 1) → AW X 0 0 58 [some (.ref 0), some (.ref 1), some (iv (rk c r b L)), some (iv z), some (iv k)] [] (mdM rf sz c r G T n le Hh li ac B I m Fi Co Br (Qn) (mkF Sn (con (EH c r b L) k) 1) gy sd rt lf wy sp ou) := by
        intro hl1 hl2 Qn z ez
        subst ez
        refine a_iinc (pc := 58) ok dX7_holes_58 rfl rfl (by rw [hN]; decide) ?_
        refine a_goto (pc := 61) (tgt := 9) ok dX7_holes_61 (by decide) ?_
        refine AW.cast (ih (k + 1, mkF Sn (con (EH c r b L) k) 1, Qn) ⟨by dsimp only; omega, fun j => ?_, fun j a1 a2 => ?_⟩ (by dsimp only; omega)) rfl rfl rfl
        · by_cases z : con (EH c r b L) k j
          · right; exact mkF_t z
          · dsimp only; rw [mkF_f z]; exact h2 j
        · dsimp only
          rw [ek]
          by_cases z : con (EH c r b L) k j
          · rw [mkF_t z]; have := hlw_eq z; omega
          · rw [mkF_f z, h3 j a1 a2]
            have : hlw c r b L j ≠ k := fun e => z ((hlw_iff hd hck a1).mp (by rw [hl2]; exact e.symm))
            omega
      have fresh : Sn k = 0 → lw c r b k ≠ L → hlw c r b L k = k := fun e1 e2 => by
        have := h3 k hck e2
        have a := hlo.2.1
        rw [e1] at this
        have : ¬ hlw c r b L k < k := fun z => by have := this.mpr z; omega
        omega
      have hS0 : Sn k = 0 → lw c r b k ≠ L → ∀ j, con (EH c r b L) k j → Sn j = 0 := fun e1 e2 j hj => by
        have a := EH_con ⟨hck, e2⟩ hj
        have e := hlw_eq hj
        have f := fresh e1 e2
        rcases h2 j with z | z
        · exact z
        · have := (h3 j a.1 a.2).mp z; omega
      have old : Sn k ≠ 0 → lw c r b k = L ∨ hlw c r b L k ≠ k := fun e1 => by
        by_cases e2 : lw c r b k = L
        · exact Or.inl e2
        · right
          have : Sn k = 1 := by omega
          have := (h3 k hck e2).mp this
          omega
      refine a_iload (pc := 9) ok dX7_holes_9 rfl ?_
      refine a_aload_n (pc := 11) ok dX7_holes_11 rfl ?_
      refine a_callSp (pc := 12) ok [1] dX7_holes_12 mv7_74 miX7_cells (c_cells) ⟨by decide, by decide, rfl, rfl, Nat.zero_le _, Nat.zero_le _⟩ rfl rfl (Nat.le_of_ble_eq_true rfl) rfl (by decide) ?_
      refine a_icmp_ge (pc := 15) (tgt := 64) ok dX7_holes_15 (by decide) (by first | omega | (unfold rg; omega) | (simp only [rg] at *; omega) | exact bz_rg _ | grind [rg]) (by first | omega | (unfold rg; omega) | (simp only [rg] at *; omega) | exact bz_rg _ | grind [rg]) (fun c15 => ?_) (fun c15 => ?_)
      · exfalso; first | omega | grind
      · refine a_aload_n (pc := 18) ok dX7_holes_18 rfl ?_
        refine a_getf (pc := 19) ok dX7_holes_19 fl7_32 rfl rfl ?_
        refine a_iload (pc := 22) ok dX7_holes_22 rfl ?_
        refine a_iald (pc := 24) ok dX7_holes_24 rfl (by first | decide | omega) (by first | omega | (unfold rg; omega) | (simp only [rg] at *; omega) | exact bz_rg _ | grind [rg]) ?_
        refine a_iload_n (pc := 25) ok dX7_holes_25 rfl ?_
        refine a_icmp_eq (pc := 26) (tgt := 58) ok dX7_holes_26 (by decide) (by first | exact rIk | (unfold rg; omega)) (by first | exact rIk | (unfold rg; omega)) (fun c26 => ?_) (fun c26 => ?_)
        · exact skip (Or.inl (hir.mp c26))
        · refine a_aload_n (pc := 29) ok dX7_holes_29 rfl ?_
          refine a_getf (pc := 30) ok dX7_holes_30 fl7_47 rfl rfl ?_
          refine a_iload (pc := 33) ok dX7_holes_33 rfl ?_
          refine a_iald (pc := 35) ok dX7_holes_35 rfl (by first | decide | omega) (by first | omega | (unfold rg; omega) | (simp only [rg] at *; omega) | exact bz_rg _ | grind [rg]) ?_
          refine a_if_ne (pc := 36) (tgt := 58) ok dX7_holes_36 (by decide) (by first | omega | (unfold rg; omega) | (simp only [rg] at *; omega) | exact bz_rg _ | grind [rg]) (fun c36 => ?_) (fun c36 => ?_)
          · exact skip (old c36)
          · refine a_iload_n (pc := 39) ok dX7_holes_39 rfl ?_
            refine a_aload_n (pc := 40) ok dX7_holes_40 rfl ?_
            refine a_aload_n (pc := 41) ok dX7_holes_41 rfl ?_
            refine a_iload_n (pc := 42) ok dX7_holes_42 rfl ?_
            refine a_iload (pc := 43) ok dX7_holes_43 rfl ?_
            refine x_callV (pc := 45) ok [0, 1, 2, 3, 4, 5, 6, 7, 8, 9, 10, 11, 12, 13, 14, 15, 16] 10 dX7_holes_45 mv7_135 miX7_floodHole (c_floodHole hd hck (fun z => c26 (hir.mpr z)) hL hl hJ h2 (hS0 c36 (fun z => c26 (hir.mpr z)))) ⟨by decide, by decide, rfl, rfl, Nat.zero_le _, Nat.zero_le _⟩ rfl rfl (Nat.le_of_ble_eq_true rfl) rfl rfl (by decide) rfl rfl (fun v M' h => by obtain ⟨_, _, h⟩ := h; rw [h]; rfl) ?_
            rintro _ M' ⟨rfl, Q', rfl⟩
            have hnL : lw c r b k ≠ L := fun z => c26 (hir.mpr z)
            have hfr := fresh c36 hnL
            refine AW.cast (st2 := [iv (@bz (inr c r b L k) (Classical.propDecidable _)), iv (hoK c r b L k)]) (M2 := (mdM rf sz c r G T n le Hh li ac B I m Fi Co Br (Q') (mkF Sn (con (EH c r b L) k) 1) gy sd rt lf wy sp ou)) ?_ rfl rfl rfl
            refine a_if_eq (pc := 48) (tgt := 55) ok dX7_holes_48 (by decide) (by exact @bz_rg _ (Classical.propDecidable _)) (fun c48 => ?_) (fun c48 => ?_)
            · refine a_iconst (pc := 55) ok dX7_holes_55 ?_
              refine a_iadd (pc := 56) ok dX7_holes_56 ?_
              refine a_istore_n (pc := 57) ok dX7_holes_57 rfl (by rw [hN]; decide) ?_
              exact go hnL hfr Q' _ (by rw [hoK_f (fun z => by rw [@bz_pos _ (Classical.propDecidable _) z.2.2] at c48; exact absurd c48 (by decide)), Int.add_zero])
            · refine a_iconst (pc := 51) ok dX7_holes_51 ?_
              refine a_goto (pc := 52) (tgt := 56) ok dX7_holes_52 (by decide) ?_
              refine a_iadd (pc := 56) ok dX7_holes_56 ?_
              refine a_istore_n (pc := 57) ok dX7_holes_57 rfl (by rw [hN]; decide) ?_
              exact go hnL hfr Q' _ (by rw [hoK_t hnL hfr (Classical.byContradiction fun z => c48 (@bz_neg _ (Classical.propDecidable _) z))])
    · have ekN : k = (c * r).toNat := by omega
      refine a_iload (pc := 9) ok dX7_holes_9 rfl ?_
      refine a_aload_n (pc := 11) ok dX7_holes_11 rfl ?_
      refine a_callSp (pc := 12) ok [1] dX7_holes_12 mv7_74 miX7_cells (c_cells) ⟨by decide, by decide, rfl, rfl, Nat.zero_le _, Nat.zero_le _⟩ rfl rfl (Nat.le_of_ble_eq_true rfl) rfl (by decide) ?_
      refine a_icmp_ge (pc := 15) (tgt := 64) ok dX7_holes_15 (by decide) (by first | omega | (unfold rg; omega) | (simp only [rg] at *; omega) | exact bz_rg _ | grind [rg]) (by first | omega | (unfold rg; omega) | (simp only [rg] at *; omega) | exact bz_rg _ | grind [rg]) (fun c15 => ?_) (fun c15 => ?_)
      · refine a_iload_n (pc := 64) ok dX7_holes_64 rfl ?_
        exact a_iret (pc := 65) ok dX7_holes_65 (⟨by unfold hoF; rw [← ekN], Sn, Qn, rfl⟩)
      · exfalso; first | omega | grind
  refine a_aload_n (pc := 0) ok dX7_holes_0 rfl ?_
  refine x_callVv (pc := 1) ok [0, 1, 2, 3, 4, 5, 6, 7, 8, 9, 10, 11, 12, 13, 14, 15, 16] 10 dX7_holes_1 mv7_132 miX7_noMarks (c_noMarks) ⟨by decide, by decide, rfl, rfl, Nat.zero_le _, Nat.zero_le _⟩ rfl rfl (Nat.le_of_ble_eq_true rfl) rfl rfl (by decide) rfl rfl rfl ?_
  refine a_iconst (pc := 4) ok dX7_holes_4 ?_
  refine a_istore_n (pc := 5) ok dX7_holes_5 rfl (by rw [hN]; decide) ?_
  refine a_iconst (pc := 6) ok dX7_holes_6 ?_
  refine a_istore (pc := 7) ok dX7_holes_7 rfl (by rw [hN]; decide) ?_
  refine AW.cast (loop (0, (fun _ => 0), Wt) ⟨by dsimp only; omega, fun j => Or.inl rfl, fun j a1 a2 => ?_⟩) rfl rfl rfl
  have := (hlw_ok (b := b) (L := L) hd a1).1
  dsimp only; omega
theorem dX7_liesIn_0 : decode cX7_liesIn 0 = .ok (.aload_n 0, 1) := by decide +kernel
theorem dX7_liesIn_1 : decode cX7_liesIn 1 = .ok (.invokevirtual 132, 3) := by decide +kernel
theorem dX7_liesIn_4 : decode cX7_liesIn 4 = .ok (.iload_n 2, 1) := by decide +kernel
theorem dX7_liesIn_5 : decode cX7_liesIn 5 = .ok (.iload_n 3, 1) := by decide +kernel
theorem dX7_liesIn_6 : decode cX7_liesIn 6 = .ok (.if_icmp .eq 22, 3) := by decide +kernel
theorem dX7_liesIn_9 : decode cX7_liesIn 9 = .ok (.aload_n 0, 1) := by decide +kernel
theorem dX7_liesIn_10 : decode cX7_liesIn 10 = .ok (.aload_n 1, 1) := by decide +kernel
theorem dX7_liesIn_11 : decode cX7_liesIn 11 = .ok (.iload_n 3, 1) := by decide +kernel
theorem dX7_liesIn_12 : decode cX7_liesIn 12 = .ok (.aload_n 0, 1) := by decide +kernel
theorem dX7_liesIn_13 : decode cX7_liesIn 13 = .ok (.getfield 35, 3) := by decide +kernel
theorem dX7_liesIn_16 : decode cX7_liesIn 16 = .ok (.iload_n 2, 1) := by decide +kernel
theorem dX7_liesIn_17 : decode cX7_liesIn 17 = .ok (.iaload, 1) := by decide +kernel
theorem dX7_liesIn_18 : decode cX7_liesIn 18 = .ok (.invokevirtual 135, 3) := by decide +kernel
theorem dX7_liesIn_21 : decode cX7_liesIn 21 = .ok (.ifCond .eq 7, 3) := by decide +kernel
theorem dX7_liesIn_24 : decode cX7_liesIn 24 = .ok (.iconst 1, 1) := by decide +kernel
theorem dX7_liesIn_25 : decode cX7_liesIn 25 = .ok (.goto 4, 3) := by decide +kernel
theorem dX7_liesIn_28 : decode cX7_liesIn 28 = .ok (.iconst 0, 1) := by decide +kernel
theorem dX7_liesIn_29 : decode cX7_liesIn 29 = .ok (.ireturn, 1) := by decide +kernel
theorem c_liesIn {n x L i j : Int} (hd : dim c r) (hx : cel c r x) (hxl : lw c r b x = x) (hL : cel c r L) (hl : lw c r b L = L) (hi : rk c r b x = i) (hj : rk c r b L = j) (hJ : JW c r b B I m Fi Co) : Ct l yX7_liesIn cX7_liesIn 4 (some .boolean) rmX7_liesIn [.ref 0, .ref 1, iv i, iv j] (mdM rf sz c r G T n le Hh li ac B I m Fi Co Br Wt mk gy sd rt lf wy sp ou)
    (fun z M => z = some (iv (@bz (x ≠ L ∧ inr c r b L x) (Classical.propDecidable _))) ∧ ∃ mk' Q' : Int → Int, M = (mdM rf sz c r G T n le Hh li ac B I m Fi Co Br (Q') (mk') gy sd rt lf wy sp ou)) := by
  subst hi
  subst hj
  refine Ct.of miX7_liesIn (Nat.le_of_ble_eq_true rfl) ?_
  intro X hXl hN ok
  refine AW.cast (L2 := [some (.ref 0), some (.ref 1), some (iv (rk c r b x)), some (iv (rk c r b L))]) ?_ rfl rfl rfl
  have hc := dim_cells hd
  have hm := mny_1 (B := b) hd
  have hrL := rk_mny hd hL hl
  have hrx := rk_mny hd hx hxl
  have e1 := (hJ.2.2.2.2.2 x hx hxl).1
  refine a_aload_n (pc := 0) ok dX7_liesIn_0 rfl ?_
  refine x_callVv (pc := 1) ok [0, 1, 2, 3, 4, 5, 6, 7, 8, 9, 10, 11, 12, 13, 14, 15, 16] 10 dX7_liesIn_1 mv7_132 miX7_noMarks (c_noMarks) ⟨by decide, by decide, rfl, rfl, Nat.zero_le _, Nat.zero_le _⟩ rfl rfl (Nat.le_of_ble_eq_true rfl) rfl rfl (by decide) rfl rfl rfl ?_
  refine a_iload_n (pc := 4) ok dX7_liesIn_4 rfl ?_
  refine a_iload_n (pc := 5) ok dX7_liesIn_5 rfl ?_
  refine a_icmp_eq (pc := 6) (tgt := 28) ok dX7_liesIn_6 (by decide) (by first | omega | (unfold rg; omega) | (simp only [rg] at *; omega) | exact bz_rg _ | grind [rg]) (by first | omega | (unfold rg; omega) | (simp only [rg] at *; omega) | exact bz_rg _ | grind [rg]) (fun c6 => ?_) (fun c6 => ?_)
  · refine a_iconst (pc := 28) ok dX7_liesIn_28 ?_
    exact a_zret (pc := 29) ok dX7_liesIn_29 (by first | rfl | exact nb_bz _ | exact @nb_bz _ (Classical.propDecidable _) | decide) (⟨by rw [@bz_neg _ (Classical.propDecidable _) (fun z => z.1 (rk_inj hx hxl hL hl c6))], _, _, rfl⟩)
  · refine a_aload_n (pc := 9) ok dX7_liesIn_9 rfl ?_
    refine a_aload_n (pc := 10) ok dX7_liesIn_10 rfl ?_
    refine a_iload_n (pc := 11) ok dX7_liesIn_11 rfl ?_
    refine a_aload_n (pc := 12) ok dX7_liesIn_12 rfl ?_
    refine a_getf (pc := 13) ok dX7_liesIn_13 fl7_35 rfl rfl ?_
    refine a_iload_n (pc := 16) ok dX7_liesIn_16 rfl ?_
    refine a_iald (pc := 17) ok dX7_liesIn_17 rfl (by first | decide | omega) (by first | omega | (unfold rg; omega) | (simp only [rg] at *; omega) | exact bz_rg _ | grind [rg]) ?_
    rw [e1]
    refine x_callV (pc := 18) ok [0, 1, 2, 3, 4, 5, 6, 7, 8, 9, 10, 11, 12, 13, 14, 15, 16] 10 dX7_liesIn_18 mv7_135 miX7_floodHole (c_floodHole (s := x) hd hx (fun z => c6 (by rw [← hxl, z])) hL hl hJ (fun j => Or.inl rfl) (fun j _ => rfl)) ⟨by decide, by decide, rfl, rfl, Nat.zero_le _, Nat.zero_le _⟩ rfl rfl (Nat.le_of_ble_eq_true rfl) rfl rfl (by decide) rfl rfl (fun v M' h => by obtain ⟨_, _, h⟩ := h; rw [h]; rfl) ?_
    rintro _ M' ⟨rfl, Q', rfl⟩
    have hnL : x ≠ L := fun z => c6 (by rw [z])
    refine AW.cast (st2 := [iv (@bz (inr c r b L x) (Classical.propDecidable _))]) (M2 := (mdM rf sz c r G T n le Hh li ac B I m Fi Co Br (Q') (mkF (fun _ => 0) (con (EH c r b L) x) 1) gy sd rt lf wy sp ou)) ?_ rfl rfl rfl
    refine a_if_eq (pc := 21) (tgt := 28) ok dX7_liesIn_21 (by decide) (by exact @bz_rg _ (Classical.propDecidable _)) (fun c21 => ?_) (fun c21 => ?_)
    · refine a_iconst (pc := 28) ok dX7_liesIn_28 ?_
      exact a_zret (pc := 29) ok dX7_liesIn_29 (by first | rfl | exact nb_bz _ | exact @nb_bz _ (Classical.propDecidable _) | decide) (⟨by rw [@bz_neg _ (Classical.propDecidable _) (fun z => by rw [@bz_pos _ (Classical.propDecidable _) z.2] at c21; exact absurd c21 (by decide))], _, _, rfl⟩)
    · refine a_iconst (pc := 24) ok dX7_liesIn_24 ?_
      refine a_goto (pc := 25) (tgt := 29) ok dX7_liesIn_25 (by decide) ?_
      exact a_zret (pc := 29) ok dX7_liesIn_29 (by first | rfl | exact nb_bz _ | exact @nb_bz _ (Classical.propDecidable _) | decide) (⟨by rw [@bz_pos _ (Classical.propDecidable _) ⟨hnL, Classical.byContradiction fun z => c21 (@bz_neg _ (Classical.propDecidable _) z)⟩], _, _, rfl⟩)
theorem dX7_motherOf_0 : decode cX7_motherOf 0 = .ok (.iconst (-1), 1) := by decide +kernel
theorem dX7_motherOf_1 : decode cX7_motherOf 1 = .ok (.istore_n 3, 1) := by decide +kernel
theorem dX7_motherOf_2 : decode cX7_motherOf 2 = .ok (.iconst 0, 1) := by decide +kernel
theorem dX7_motherOf_3 : decode cX7_motherOf 3 = .ok (.istore 4, 2) := by decide +kernel
theorem dX7_motherOf_5 : decode cX7_motherOf 5 = .ok (.iload 4, 2) := by decide +kernel
theorem dX7_motherOf_7 : decode cX7_motherOf 7 = .ok (.aload_n 0, 1) := by decide +kernel
theorem dX7_motherOf_8 : decode cX7_motherOf 8 = .ok (.getfield 78, 3) := by decide +kernel
theorem dX7_motherOf_11 : decode cX7_motherOf 11 = .ok (.if_icmp .ge 48, 3) := by decide +kernel
theorem dX7_motherOf_14 : decode cX7_motherOf 14 = .ok (.iload_n 3, 1) := by decide +kernel
theorem dX7_motherOf_15 : decode cX7_motherOf 15 = .ok (.iconst (-1), 1) := by decide +kernel
theorem dX7_motherOf_16 : decode cX7_motherOf 16 = .ok (.if_icmp .eq 19, 3) := by decide +kernel
theorem dX7_motherOf_19 : decode cX7_motherOf 19 = .ok (.aload_n 0, 1) := by decide +kernel
theorem dX7_motherOf_20 : decode cX7_motherOf 20 = .ok (.getfield 38, 3) := by decide +kernel
theorem dX7_motherOf_23 : decode cX7_motherOf 23 = .ok (.iload 4, 2) := by decide +kernel
theorem dX7_motherOf_25 : decode cX7_motherOf 25 = .ok (.iaload, 1) := by decide +kernel
theorem dX7_motherOf_26 : decode cX7_motherOf 26 = .ok (.aload_n 0, 1) := by decide +kernel
theorem dX7_motherOf_27 : decode cX7_motherOf 27 = .ok (.getfield 38, 3) := by decide +kernel
theorem dX7_motherOf_30 : decode cX7_motherOf 30 = .ok (.iload_n 3, 1) := by decide +kernel
theorem dX7_motherOf_31 : decode cX7_motherOf 31 = .ok (.iaload, 1) := by decide +kernel
theorem dX7_motherOf_32 : decode cX7_motherOf 32 = .ok (.if_icmp .ge 19, 3) := by decide +kernel
theorem dX7_motherOf_35 : decode cX7_motherOf 35 = .ok (.aload_n 0, 1) := by decide +kernel
theorem dX7_motherOf_36 : decode cX7_motherOf 36 = .ok (.aload_n 1, 1) := by decide +kernel
theorem dX7_motherOf_37 : decode cX7_motherOf 37 = .ok (.iload_n 2, 1) := by decide +kernel
theorem dX7_motherOf_38 : decode cX7_motherOf 38 = .ok (.iload 4, 2) := by decide +kernel
theorem dX7_motherOf_40 : decode cX7_motherOf 40 = .ok (.invokevirtual 139, 3) := by decide +kernel
theorem dX7_motherOf_43 : decode cX7_motherOf 43 = .ok (.ifCond .eq 8, 3) := by decide +kernel
theorem dX7_motherOf_46 : decode cX7_motherOf 46 = .ok (.iload 4, 2) := by decide +kernel
theorem dX7_motherOf_48 : decode cX7_motherOf 48 = .ok (.goto 4, 3) := by decide +kernel
theorem dX7_motherOf_51 : decode cX7_motherOf 51 = .ok (.iload_n 3, 1) := by decide +kernel
theorem dX7_motherOf_52 : decode cX7_motherOf 52 = .ok (.istore_n 3, 1) := by decide +kernel
theorem dX7_motherOf_53 : decode cX7_motherOf 53 = .ok (.iinc 4 1, 3) := by decide +kernel
theorem dX7_motherOf_56 : decode cX7_motherOf 56 = .ok (.goto (-51), 3) := by decide +kernel
theorem dX7_motherOf_59 : decode cX7_motherOf 59 = .ok (.iload_n 3, 1) := by decide +kernel
theorem dX7_motherOf_60 : decode cX7_motherOf 60 = .ok (.ireturn, 1) := by decide +kernel
theorem c_motherOf {n x i : Int} (hd : dim c r) (hx : cel c r x) (hxl : lw c r b x = x) (hi : rk c r b x = i) (hJ : JW c r b B I m Fi Co) : Ct l yX7_motherOf cX7_motherOf 5 (some .int) rmX7_motherOf [.ref 0, .ref 1, iv i] (mdM rf sz c r G T n le Hh li ac B I m Fi Co Br Wt mk gy sd rt lf wy sp ou)
    (fun z M => z = some (iv (moN c r b x (mny c r b).toNat)) ∧ ∃ mk' Q' : Int → Int, M = (mdM rf sz c r G T n le Hh li ac B I m Fi Co Br (Q') (mk') gy sd rt lf wy sp ou)) := by
  refine Ct.of miX7_motherOf (Nat.le_of_ble_eq_true rfl) ?_
  intro X hXl hN ok
  refine AW.cast (L2 := [some (.ref 0), some (.ref 1), some (iv i), none, none]) ?_ rfl rfl rfl
  have hm := mny_1 (B := b) hd
  have hct := hJ.2.2.2.2.1
  have hz : ∀ i : Int, 0 ≤ i → i < mny c r b → Co i = siz c r b (fo c r b i) := fun i a1 a2 => by
    have f := fo_ok (b := b) hd a1 a2
    have := (hJ.2.2.2.2.2 _ f.1 f.2.1).2
    rw [f.2.2] at this; exact this
  have loop : ∀ q : Nat × (Int → Int) × (Int → Int), ((q.1 : Int) ≤ mny c r b) → AW X 0 0 5 [some (.ref 0), some (.ref 1), some (iv i), some (iv (moN c r b x q.1)), some (iv q.1)] [] (mdM rf sz c r G T n le Hh li ac B I m Fi Co Br (q.2.2) (q.2.1) gy sd rt lf wy sp ou) := by
    refine wfl (fun q : Nat × (Int → Int) × (Int → Int) => 145 - q.1) _ _ ?_
    rintro ⟨k, Sn, Qn⟩ h1 ih
    dsimp only at h1 ih ⊢
    have hs2 := moN_rg (c := c) (r := r) (b := b) x k
    by_cases hk : (k : Int) < mny c r b
    · obtain ⟨f1, f2, f3⟩ := fo_ok (b := b) hd (show (0 : Int) ≤ k by omega) hk
      have q1 := hz k (by omega) hk
      have q2 := fun h : moN c r b x k ≠ -1 => hz (moN c r b x k) (by omega) (by omega)
      have z1 := siz_rg (B := b) hd (fo c r b k)
      have z2 := siz_rg (B := b) hd (fo c r b (moN c r b x k))
      have fin : ∀ (z : Int) (Sn Qn : Int → Int), z = moN c r b x (k + 1) → AW X 0 0 52 [some (.ref 0), some (.ref 1), some (iv i), some (iv (moN c r b x k)), some (iv k)] [iv z] (mdM rf sz c r G T n le Hh li ac B I m Fi Co Br (Qn) (Sn) gy sd rt lf wy sp ou) := by
        intro z Sn Qn ez
        subst ez
        refine a_istore_n (pc := 52) ok dX7_motherOf_52 rfl (by rw [hN]; decide) ?_
        refine a_iinc (pc := 53) ok dX7_motherOf_53 rfl rfl (by rw [hN]; decide) ?_
        refine a_goto (pc := 56) (tgt := 5) ok dX7_motherOf_56 (by decide) ?_
        exact AW.cast (ih (k + 1, Sn, Qn) (by dsimp only; omega) (by dsimp only; omega)) rfl rfl rfl
      have hcond : (fo c r b k ≠ x ∧ inr c r b (fo c r b k) x) ↔ (x ≠ fo c r b k ∧ inr c r b (fo c r b k) x) := ⟨fun z => ⟨fun e => z.1 e.symm, z.2⟩, fun z => ⟨fun e => z.1 e.symm, z.2⟩⟩
      refine a_iload (pc := 5) ok dX7_motherOf_5 rfl ?_
      refine a_aload_n (pc := 7) ok dX7_motherOf_7 rfl ?_
      refine a_getf (pc := 8) ok dX7_motherOf_8 fl7_78 rfl rfl ?_
      refine a_icmp_ge (pc := 11) (tgt := 59) ok dX7_motherOf_11 (by decide) (by first | omega | (unfold rg; omega) | (simp only [rg] at *; omega) | exact bz_rg _ | grind [rg]) (by first | omega | (unfold rg; omega) | (simp only [rg] at *; omega) | exact bz_rg _ | grind [rg]) (fun c11 => ?_) (fun c11 => ?_)
      · exfalso; first | omega | grind
      · refine a_iload_n (pc := 14) ok dX7_motherOf_14 rfl ?_
        refine a_iconst (pc := 15) ok dX7_motherOf_15 ?_
        refine a_icmp_eq (pc := 16) (tgt := 35) ok dX7_motherOf_16 (by decide) (by first | omega | (unfold rg; omega) | (simp only [rg] at *; omega) | exact bz_rg _ | grind [rg]) (by first | omega | (unfold rg; omega) | (simp only [rg] at *; omega) | exact bz_rg _ | grind [rg]) (fun c16 => ?_) (fun c16 => ?_)
        · refine a_aload_n (pc := 35) ok dX7_motherOf_35 rfl ?_
          refine a_aload_n (pc := 36) ok dX7_motherOf_36 rfl ?_
          refine a_iload_n (pc := 37) ok dX7_motherOf_37 rfl ?_
          refine a_iload (pc := 38) ok dX7_motherOf_38 rfl ?_
          refine x_callV (pc := 40) ok [0, 1, 2, 3, 4, 5, 6, 7, 8, 9, 10, 11, 12, 13, 14, 15, 16] 10 dX7_motherOf_40 mv7_139 miX7_liesIn (c_liesIn hd hx hxl f1 f2 hi f3 hJ) ⟨by decide, by decide, rfl, rfl, Nat.zero_le _, Nat.zero_le _⟩ rfl rfl (Nat.le_of_ble_eq_true rfl) rfl rfl (by decide) rfl rfl (fun v M' h => by obtain ⟨_, _, _, h⟩ := h; rw [h]; rfl) ?_
          rintro _ M' ⟨rfl, mk', Q', rfl⟩
          refine AW.cast (st2 := [iv (@bz (x ≠ fo c r b k ∧ inr c r b (fo c r b k) x) (Classical.propDecidable _))]) (M2 := (mdM rf sz c r G T n le Hh li ac B I m Fi Co Br (Q') (mk') gy sd rt lf wy sp ou)) ?_ rfl rfl rfl
          refine a_if_eq (pc := 43) (tgt := 51) ok dX7_motherOf_43 (by decide) (by exact @bz_rg _ (Classical.propDecidable _)) (fun c43 => ?_) (fun c43 => ?_)
          · refine a_iload_n (pc := 51) ok dX7_motherOf_51 rfl ?_
            exact fin _ _ _ (moN_f (fun z => by rw [@bz_pos _ (Classical.propDecidable _) (hcond.mp z.1)] at c43; exact absurd c43 (by decide))).symm
          · refine a_iload (pc := 46) ok dX7_motherOf_46 rfl ?_
            refine a_goto (pc := 48) (tgt := 52) ok dX7_motherOf_48 (by decide) ?_
            exact fin _ _ _ (moN_t ⟨hcond.mpr (Classical.byContradiction fun z => c43 (@bz_neg _ (Classical.propDecidable _) z)), Or.inl c16⟩).symm
        · refine a_aload_n (pc := 19) ok dX7_motherOf_19 rfl ?_
          refine a_getf (pc := 20) ok dX7_motherOf_20 fl7_38 rfl rfl ?_
          refine a_iload (pc := 23) ok dX7_motherOf_23 rfl ?_
          refine a_iald (pc := 25) ok dX7_motherOf_25 rfl (by first | decide | omega) (by first | omega | (unfold rg; omega) | (simp only [rg] at *; omega) | exact bz_rg _ | grind [rg]) ?_
          rw [q1]
          refine a_aload_n (pc := 26) ok dX7_motherOf_26 rfl ?_
          refine a_getf (pc := 27) ok dX7_motherOf_27 fl7_38 rfl rfl ?_
          refine a_iload_n (pc := 30) ok dX7_motherOf_30 rfl ?_
          refine a_iald (pc := 31) ok dX7_motherOf_31 rfl (by first | decide | omega) (by first | omega | (unfold rg; omega) | (simp only [rg] at *; omega) | exact bz_rg _ | grind [rg]) ?_
          rw [q2 c16]
          refine a_icmp_ge (pc := 32) (tgt := 51) ok dX7_motherOf_32 (by decide) (by first | omega | (unfold rg; omega) | (simp only [rg] at *; omega) | exact bz_rg _ | grind [rg]) (by first | omega | (unfold rg; omega) | (simp only [rg] at *; omega) | exact bz_rg _ | grind [rg]) (fun c32 => ?_) (fun c32 => ?_)
          · refine a_iload_n (pc := 51) ok dX7_motherOf_51 rfl ?_
            exact fin _ _ _ (moN_f (fun z => by have := z.2; omega)).symm
          · refine a_aload_n (pc := 35) ok dX7_motherOf_35 rfl ?_
            refine a_aload_n (pc := 36) ok dX7_motherOf_36 rfl ?_
            refine a_iload_n (pc := 37) ok dX7_motherOf_37 rfl ?_
            refine a_iload (pc := 38) ok dX7_motherOf_38 rfl ?_
            refine x_callV (pc := 40) ok [0, 1, 2, 3, 4, 5, 6, 7, 8, 9, 10, 11, 12, 13, 14, 15, 16] 10 dX7_motherOf_40 mv7_139 miX7_liesIn (c_liesIn hd hx hxl f1 f2 hi f3 hJ) ⟨by decide, by decide, rfl, rfl, Nat.zero_le _, Nat.zero_le _⟩ rfl rfl (Nat.le_of_ble_eq_true rfl) rfl rfl (by decide) rfl rfl (fun v M' h => by obtain ⟨_, _, _, h⟩ := h; rw [h]; rfl) ?_
            rintro _ M' ⟨rfl, mk', Q', rfl⟩
            refine AW.cast (st2 := [iv (@bz (x ≠ fo c r b k ∧ inr c r b (fo c r b k) x) (Classical.propDecidable _))]) (M2 := (mdM rf sz c r G T n le Hh li ac B I m Fi Co Br (Q') (mk') gy sd rt lf wy sp ou)) ?_ rfl rfl rfl
            refine a_if_eq (pc := 43) (tgt := 51) ok dX7_motherOf_43 (by decide) (by exact @bz_rg _ (Classical.propDecidable _)) (fun c43 => ?_) (fun c43 => ?_)
            · refine a_iload_n (pc := 51) ok dX7_motherOf_51 rfl ?_
              exact fin _ _ _ (moN_f (fun z => by rw [@bz_pos _ (Classical.propDecidable _) (hcond.mp z.1)] at c43; exact absurd c43 (by decide))).symm
            · refine a_iload (pc := 46) ok dX7_motherOf_46 rfl ?_
              refine a_goto (pc := 48) (tgt := 52) ok dX7_motherOf_48 (by decide) ?_
              exact fin _ _ _ (moN_t ⟨hcond.mpr (Classical.byContradiction fun z => c43 (@bz_neg _ (Classical.propDecidable _) z)), Or.inr (by omega)⟩).symm
    · have ek : k = (mny c r b).toNat := by omega
      refine a_iload (pc := 5) ok dX7_motherOf_5 rfl ?_
      refine a_aload_n (pc := 7) ok dX7_motherOf_7 rfl ?_
      refine a_getf (pc := 8) ok dX7_motherOf_8 fl7_78 rfl rfl ?_
      refine a_icmp_ge (pc := 11) (tgt := 59) ok dX7_motherOf_11 (by decide) (by first | omega | (unfold rg; omega) | (simp only [rg] at *; omega) | exact bz_rg _ | grind [rg]) (by first | omega | (unfold rg; omega) | (simp only [rg] at *; omega) | exact bz_rg _ | grind [rg]) (fun c11 => ?_) (fun c11 => ?_)
      · refine a_iload_n (pc := 59) ok dX7_motherOf_59 rfl ?_
        exact a_iret (pc := 60) ok dX7_motherOf_60 (⟨by rw [ek], Sn, Qn, rfl⟩)
      · exfalso; first | omega | grind
  refine a_iconst (pc := 0) ok dX7_motherOf_0 ?_
  refine a_istore_n (pc := 1) ok dX7_motherOf_1 rfl (by rw [hN]; decide) ?_
  refine a_iconst (pc := 2) ok dX7_motherOf_2 ?_
  refine a_istore (pc := 3) ok dX7_motherOf_3 rfl (by rw [hN]; decide) ?_
  exact AW.cast (loop (0, mk, Wt) (by dsimp only; omega)) rfl rfl rfl
theorem dX7_inIt_0 : decode cX7_inIt 0 = .ok (.iconst 0, 1) := by decide +kernel
theorem dX7_inIt_1 : decode cX7_inIt 1 = .ok (.istore_n 3, 1) := by decide +kernel
theorem dX7_inIt_2 : decode cX7_inIt 2 = .ok (.iconst 0, 1) := by decide +kernel
theorem dX7_inIt_3 : decode cX7_inIt 3 = .ok (.istore 4, 2) := by decide +kernel
theorem dX7_inIt_5 : decode cX7_inIt 5 = .ok (.iload 4, 2) := by decide +kernel
theorem dX7_inIt_7 : decode cX7_inIt 7 = .ok (.aload_n 0, 1) := by decide +kernel
theorem dX7_inIt_8 : decode cX7_inIt 8 = .ok (.getfield 78, 3) := by decide +kernel
theorem dX7_inIt_11 : decode cX7_inIt 11 = .ok (.if_icmp .ge 28, 3) := by decide +kernel
theorem dX7_inIt_14 : decode cX7_inIt 14 = .ok (.iload_n 3, 1) := by decide +kernel
theorem dX7_inIt_15 : decode cX7_inIt 15 = .ok (.aload_n 0, 1) := by decide +kernel
theorem dX7_inIt_16 : decode cX7_inIt 16 = .ok (.aload_n 1, 1) := by decide +kernel
theorem dX7_inIt_17 : decode cX7_inIt 17 = .ok (.iload 4, 2) := by decide +kernel
theorem dX7_inIt_19 : decode cX7_inIt 19 = .ok (.iload_n 2, 1) := by decide +kernel
theorem dX7_inIt_20 : decode cX7_inIt 20 = .ok (.invokevirtual 139, 3) := by decide +kernel
theorem dX7_inIt_23 : decode cX7_inIt 23 = .ok (.ifCond .eq 7, 3) := by decide +kernel
theorem dX7_inIt_26 : decode cX7_inIt 26 = .ok (.iconst 1, 1) := by decide +kernel
theorem dX7_inIt_27 : decode cX7_inIt 27 = .ok (.goto 4, 3) := by decide +kernel
theorem dX7_inIt_30 : decode cX7_inIt 30 = .ok (.iconst 0, 1) := by decide +kernel
theorem dX7_inIt_31 : decode cX7_inIt 31 = .ok (.iadd, 1) := by decide +kernel
theorem dX7_inIt_32 : decode cX7_inIt 32 = .ok (.istore_n 3, 1) := by decide +kernel
theorem dX7_inIt_33 : decode cX7_inIt 33 = .ok (.iinc 4 1, 3) := by decide +kernel
theorem dX7_inIt_36 : decode cX7_inIt 36 = .ok (.goto (-31), 3) := by decide +kernel
theorem dX7_inIt_39 : decode cX7_inIt 39 = .ok (.iload_n 3, 1) := by decide +kernel
theorem dX7_inIt_40 : decode cX7_inIt 40 = .ok (.ireturn, 1) := by decide +kernel
theorem c_inIt {n L i : Int} (hd : dim c r) (hL : cel c r L) (hl : lw c r b L = L) (hi : rk c r b L = i) (hJ : JW c r b B I m Fi Co) : Ct l yX7_inIt cX7_inIt 5 (some .int) rmX7_inIt [.ref 0, .ref 1, iv i] (mdM rf sz c r G T n le Hh li ac B I m Fi Co Br Wt mk gy sd rt lf wy sp ou)
    (fun z M => z = some (iv (inF c r b L)) ∧ ∃ mk' Q' : Int → Int, M = (mdM rf sz c r G T n le Hh li ac B I m Fi Co Br (Q') (mk') gy sd rt lf wy sp ou)) := by
  refine Ct.of miX7_inIt (Nat.le_of_ble_eq_true rfl) ?_
  intro X hXl hN ok
  refine AW.cast (L2 := [some (.ref 0), some (.ref 1), some (iv i), none, none]) ?_ rfl rfl rfl
  have hm := mny_1 (B := b) hd
  have hct := hJ.2.2.2.2.1
  have loop : ∀ q : Nat × (Int → Int) × (Int → Int), ((q.1 : Int) ≤ mny c r b) → AW X 0 0 5 [some (.ref 0), some (.ref 1), some (iv i), some (iv (cnP c r b (fun j => j ≠ L ∧ inr c r b L j) q.1)), some (iv q.1)] [] (mdM rf sz c r G T n le Hh li ac B I m Fi Co Br (q.2.2) (q.2.1) gy sd rt lf wy sp ou) := by
    refine wfl (fun q : Nat × (Int → Int) × (Int → Int) => 145 - q.1) _ _ ?_
    rintro ⟨k, Sn, Qn⟩ h1 ih
    dsimp only at h1 ih ⊢
    by_cases hk : (k : Int) < mny c r b
    · obtain ⟨f1, f2, f3⟩ := fo_ok (b := b) hd (show (0 : Int) ≤ k by omega) hk
      have e1 : (fo c r b k ≠ L ∧ inr c r b L (fo c r b k)) → cnP c r b (fun j => j ≠ L ∧ inr c r b L j) k + 1 = cnP c r b (fun j => j ≠ L ∧ inr c r b L j) ((k + 1 : Nat) : Int) := fun h => by have := cnP_t hd (P := fun j => j ≠ L ∧ inr c r b L j) f1 f2 h; rw [f3] at this; exact this.symm
      have e2 : ¬ (fo c r b k ≠ L ∧ inr c r b L (fo c r b k)) → cnP c r b (fun j => j ≠ L ∧ inr c r b L j) k + 0 = cnP c r b (fun j => j ≠ L ∧ inr c r b L j) ((k + 1 : Nat) : Int) := fun h => by have := cnP_f hd (P := fun j => j ≠ L ∧ inr c r b L j) f1 f2 h; rw [f3] at this; rw [Int.add_zero]; exact this.symm
      refine a_iload (pc := 5) ok dX7_inIt_5 rfl ?_
      refine a_aload_n (pc := 7) ok dX7_inIt_7 rfl ?_
      refine a_getf (pc := 8) ok dX7_inIt_8 fl7_78 rfl rfl ?_
      refine a_icmp_ge (pc := 11) (tgt := 39) ok dX7_inIt_11 (by decide) (by first | omega | (unfold rg; omega) | (simp only [rg] at *; omega) | exact bz_rg _ | grind [rg]) (by first | omega | (unfold rg; omega) | (simp only [rg] at *; omega) | exact bz_rg _ | grind [rg]) (fun c11 => ?_) (fun c11 => ?_)
      · exfalso; first | omega | grind
      · refine a_iload_n (pc := 14) ok dX7_inIt_14 rfl ?_
        refine a_aload_n (pc := 15) ok dX7_inIt_15 rfl ?_
        refine a_aload_n (pc := 16) ok dX7_inIt_16 rfl ?_
        refine a_iload (pc := 17) ok dX7_inIt_17 rfl ?_
        refine a_iload_n (pc := 19) ok dX7_inIt_19 rfl ?_
        refine x_callV (pc := 20) ok [0, 1, 2, 3, 4, 5, 6, 7, 8, 9, 10, 11, 12, 13, 14, 15, 16] 10 dX7_inIt_20 mv7_139 miX7_liesIn (c_liesIn hd f1 f2 hL hl f3 hi hJ) ⟨by decide, by decide, rfl, rfl, Nat.zero_le _, Nat.zero_le _⟩ rfl rfl (Nat.le_of_ble_eq_true rfl) rfl rfl (by decide) rfl rfl (fun v M' h => by obtain ⟨_, _, _, h⟩ := h; rw [h]; rfl) ?_
        rintro _ M' ⟨rfl, mk', Q', rfl⟩
        refine AW.cast (st2 := [iv (@bz (fo c r b k ≠ L ∧ inr c r b L (fo c r b k)) (Classical.propDecidable _)), iv (cnP c r b (fun j => j ≠ L ∧ inr c r b L j) k)]) (M2 := (mdM rf sz c r G T n le Hh li ac B I m Fi Co Br (Q') (mk') gy sd rt lf wy sp ou)) ?_ rfl rfl rfl
        refine a_if_eq (pc := 23) (tgt := 30) ok dX7_inIt_23 (by decide) (by exact @bz_rg _ (Classical.propDecidable _)) (fun c23 => ?_) (fun c23 => ?_)
        · refine a_iconst (pc := 30) ok dX7_inIt_30 ?_
          refine a_iadd (pc := 31) ok dX7_inIt_31 ?_
          refine a_istore_n (pc := 32) ok dX7_inIt_32 rfl (by rw [hN]; decide) ?_
          refine a_iinc (pc := 33) ok dX7_inIt_33 rfl rfl (by rw [hN]; decide) ?_
          refine a_goto (pc := 36) (tgt := 5) ok dX7_inIt_36 (by decide) ?_
          exact AW.cast (ih (k + 1, mk', Q') (by dsimp only; omega) (by dsimp only; omega)) (by dsimp only; rw [← e2 (fun z => by rw [@bz_pos _ (Classical.propDecidable _) z] at c23; exact absurd c23 (by decide))]; rfl) rfl rfl
        · refine a_iconst (pc := 26) ok dX7_inIt_26 ?_
          refine a_goto (pc := 27) (tgt := 31) ok dX7_inIt_27 (by decide) ?_
          refine a_iadd (pc := 31) ok dX7_inIt_31 ?_
          refine a_istore_n (pc := 32) ok dX7_inIt_32 rfl (by rw [hN]; decide) ?_
          refine a_iinc (pc := 33) ok dX7_inIt_33 rfl rfl (by rw [hN]; decide) ?_
          refine a_goto (pc := 36) (tgt := 5) ok dX7_inIt_36 (by decide) ?_
          exact AW.cast (ih (k + 1, mk', Q') (by dsimp only; omega) (by dsimp only; omega)) (by dsimp only; rw [← e1 (Classical.byContradiction fun z => c23 (@bz_neg _ (Classical.propDecidable _) z))]; rfl) rfl rfl
    · have ek : (k : Int) = mny c r b := by omega
      have ef : cnP c r b (fun j => j ≠ L ∧ inr c r b L j) (mny c r b) = inF c r b L := cntK_congr _ fun j hj => tr_iff (and_congr_right fun z => ⟨fun y => y.2, fun y => ⟨(rk_mny hd (rk_first z (by omega)) z).2, y⟩⟩)
      refine a_iload (pc := 5) ok dX7_inIt_5 rfl ?_
      refine a_aload_n (pc := 7) ok dX7_inIt_7 rfl ?_
      refine a_getf (pc := 8) ok dX7_inIt_8 fl7_78 rfl rfl ?_
      refine a_icmp_ge (pc := 11) (tgt := 39) ok dX7_inIt_11 (by decide) (by first | omega | (unfold rg; omega) | (simp only [rg] at *; omega) | exact bz_rg _ | grind [rg]) (by first | omega | (unfold rg; omega) | (simp only [rg] at *; omega) | exact bz_rg _ | grind [rg]) (fun c11 => ?_) (fun c11 => ?_)
      · refine a_iload_n (pc := 39) ok dX7_inIt_39 rfl ?_
        exact a_iret (pc := 40) ok dX7_inIt_40 (⟨by rw [ek, ef], Sn, Qn, rfl⟩)
      · exfalso; first | omega | grind
  refine a_iconst (pc := 0) ok dX7_inIt_0 ?_
  refine a_istore_n (pc := 1) ok dX7_inIt_1 rfl (by rw [hN]; decide) ?_
  refine a_iconst (pc := 2) ok dX7_inIt_2 ?_
  refine a_istore (pc := 3) ok dX7_inIt_3 rfl (by rw [hN]; decide) ?_
  exact AW.cast (loop (0, mk, Wt) (by dsimp only; omega)) (by show _ = [some (Value.ref 0), some (Value.ref 1), some (iv i), some (iv (cnP c r b (fun j => j ≠ L ∧ inr c r b L j) 0)), some (iv 0)]; rw [cnP_0]; rfl) rfl rfl
theorem dX7_isOf_0 : decode cX7_isOf 0 = .ok (.aload_n 1, 1) := by decide +kernel
theorem dX7_isOf_1 : decode cX7_isOf 1 = .ok (.iload_n 3, 1) := by decide +kernel
theorem dX7_isOf_2 : decode cX7_isOf 2 = .ok (.invokestatic 122, 3) := by decide +kernel
theorem dX7_isOf_5 : decode cX7_isOf 5 = .ok (.ifCond .eq 32, 3) := by decide +kernel
theorem dX7_isOf_8 : decode cX7_isOf 8 = .ok (.aload_n 1, 1) := by decide +kernel
theorem dX7_isOf_9 : decode cX7_isOf 9 = .ok (.iload 4, 2) := by decide +kernel
theorem dX7_isOf_11 : decode cX7_isOf 11 = .ok (.invokestatic 126, 3) := by decide +kernel
theorem dX7_isOf_14 : decode cX7_isOf 14 = .ok (.ifCond .eq 23, 3) := by decide +kernel
theorem dX7_isOf_17 : decode cX7_isOf 17 = .ok (.aload_n 0, 1) := by decide +kernel
theorem dX7_isOf_18 : decode cX7_isOf 18 = .ok (.getfield 32, 3) := by decide +kernel
theorem dX7_isOf_21 : decode cX7_isOf 21 = .ok (.aload_n 1, 1) := by decide +kernel
theorem dX7_isOf_22 : decode cX7_isOf 22 = .ok (.iload_n 3, 1) := by decide +kernel
theorem dX7_isOf_23 : decode cX7_isOf 23 = .ok (.iload 4, 2) := by decide +kernel
theorem dX7_isOf_25 : decode cX7_isOf 25 = .ok (.invokestatic 129, 3) := by decide +kernel
theorem dX7_isOf_28 : decode cX7_isOf 28 = .ok (.iaload, 1) := by decide +kernel
theorem dX7_isOf_29 : decode cX7_isOf 29 = .ok (.iload_n 2, 1) := by decide +kernel
theorem dX7_isOf_30 : decode cX7_isOf 30 = .ok (.if_icmp .ne 7, 3) := by decide +kernel
theorem dX7_isOf_33 : decode cX7_isOf 33 = .ok (.iconst 1, 1) := by decide +kernel
theorem dX7_isOf_34 : decode cX7_isOf 34 = .ok (.goto 4, 3) := by decide +kernel
theorem dX7_isOf_37 : decode cX7_isOf 37 = .ok (.iconst 0, 1) := by decide +kernel
theorem dX7_isOf_38 : decode cX7_isOf 38 = .ok (.ireturn, 1) := by decide +kernel
/-- is that place of the island L -/
def inI (c r : Int) (b : Int → Int) (L x y : Int) : Prop := inP c r x y ∧ lw c r b (y * c + x) = L
theorem c_isOf {n L i x y : Int} (hd : dim c r) (hL : cel c r L) (hl : lw c r b L = L) (hi : rk c r b L = i) (hx : rg x) (hy : rg y) (hJ : JW c r b B I m Fi Co) : Cd l yX7_isOf cX7_isOf 5 (some .boolean) rmX7_isOf [.ref 0, .ref 1, iv i, iv x, iv y] (mdM rf sz c r G T n le Hh li ac B I m Fi Co Br Wt mk gy sd rt lf wy sp ou) (some (iv (@bz (inI c r b L x y) (Classical.propDecidable _)))) (mdM rf sz c r G T n le Hh li ac B I m Fi Co Br Wt mk gy sd rt lf wy sp ou) := by
  subst hi
  refine Ct.of miX7_isOf (Nat.le_of_ble_eq_true rfl) ?_
  intro X hXl hN ok
  refine AW.cast (L2 := [some (.ref 0), some (.ref 1), some (iv (rk c r b L)), some (iv x), some (iv y)]) ?_ rfl rfl rfl
  have hc := dim_cells hd
  have hm := mny_1 (B := b) hd
  have hrL := rk_mny hd hL hl
  have hcl : inP c r x y → cel c r (y * c + x) ∧ (0 ≤ y * c + x ∧ y * c + x < 144) := fun h => by
    have := xy_cel hd (x := x) (y := y) (by omega) (by omega)
    have a := this.1; have e := this.2
    exact ⟨this, a, by omega⟩
  have hir : inP c r x y → (I (y * c + x) = rk c r b L ↔ lw c r b (y * c + x) = L) := fun h => by
    have hh := lw_ok (B := b) hd (hcl h).1
    rw [hJ.2.2.2.1 _ (hcl h).1]
    exact ⟨fun e => rk_inj hh.1 (lw_lw hd (hcl h).1) hL hl e, fun e => by rw [e]⟩
  have rI := hJ.2.1 (y * c + x)
  refine a_aload_n (pc := 0) ok dX7_isOf_0 rfl ?_
  refine a_iload_n (pc := 1) ok dX7_isOf_1 rfl ?_
  refine a_callSp (pc := 2) ok [1] dX7_isOf_2 mv7_122 miX7_isColumn (c_isColumn hd hx) ⟨by decide, by decide, rfl, rfl, Nat.zero_le _, Nat.zero_le _⟩ rfl rfl (Nat.le_of_ble_eq_true rfl) rfl (by decide) ?_
  refine a_if_eq (pc := 5) (tgt := 37) ok dX7_isOf_5 (by decide) (by exact bz_rg _) (fun c5 => ?_) (fun c5 => ?_)
  · refine a_iconst (pc := 37) ok dX7_isOf_37 ?_
    exact a_zret (pc := 38) ok dX7_isOf_38 (by first | rfl | exact nb_bz _ | exact @nb_bz _ (Classical.propDecidable _) | decide) (⟨by rw [@bz_neg _ (Classical.propDecidable _) (fun z => by rw [bz_pos ⟨z.1.1, z.1.2.1⟩] at c5; exact absurd c5 (by decide))], rfl⟩)
  · refine a_aload_n (pc := 8) ok dX7_isOf_8 rfl ?_
    refine a_iload (pc := 9) ok dX7_isOf_9 rfl ?_
    refine a_callSp (pc := 11) ok [1] dX7_isOf_11 mv7_126 miX7_isRow (c_isRow hd hy) ⟨by decide, by decide, rfl, rfl, Nat.zero_le _, Nat.zero_le _⟩ rfl rfl (Nat.le_of_ble_eq_true rfl) rfl (by decide) ?_
    refine a_if_eq (pc := 14) (tgt := 37) ok dX7_isOf_14 (by decide) (by exact bz_rg _) (fun c14 => ?_) (fun c14 => ?_)
    · refine a_iconst (pc := 37) ok dX7_isOf_37 ?_
      exact a_zret (pc := 38) ok dX7_isOf_38 (by first | rfl | exact nb_bz _ | exact @nb_bz _ (Classical.propDecidable _) | decide) (⟨by rw [@bz_neg _ (Classical.propDecidable _) (fun z => by rw [bz_pos ⟨z.1.2.2.1, z.1.2.2.2⟩] at c14; exact absurd c14 (by decide))], rfl⟩)
    · have hcol : 0 ≤ x ∧ x < c := Classical.byContradiction fun z => c5 (bz_neg z)
      have hrow : 0 ≤ y ∧ y < r := Classical.byContradiction fun z => c14 (bz_neg z)
      have hp : inP c r x y := ⟨hcol.1, hcol.2, hrow.1, hrow.2⟩
      have hcl2 := hcl hp
      refine a_aload_n (pc := 17) ok dX7_isOf_17 rfl ?_
      refine a_getf (pc := 18) ok dX7_isOf_18 fl7_32 rfl rfl ?_
      refine a_aload_n (pc := 21) ok dX7_isOf_21 rfl ?_
      refine a_iload_n (pc := 22) ok dX7_isOf_22 rfl ?_
      refine a_iload (pc := 23) ok dX7_isOf_23 rfl ?_
      refine a_callSp (pc := 25) ok [1] dX7_isOf_25 mv7_129 miX7_at (c_at) ⟨by decide, by decide, rfl, rfl, Nat.zero_le _, Nat.zero_le _⟩ rfl rfl (Nat.le_of_ble_eq_true rfl) rfl (by decide) ?_
      refine a_iald (pc := 28) ok dX7_isOf_28 rfl (by first | decide | omega) (by first | omega | (unfold rg; omega) | (simp only [rg] at *; omega) | exact bz_rg _ | grind [rg]) ?_
      refine a_iload_n (pc := 29) ok dX7_isOf_29 rfl ?_
      refine a_icmp_ne (pc := 30) (tgt := 37) ok dX7_isOf_30 (by decide) (by first | exact rI | (unfold rg; omega)) (by first | exact rI | (unfold rg; omega)) (fun c30 => ?_) (fun c30 => ?_)
      · refine a_iconst (pc := 37) ok dX7_isOf_37 ?_
        exact a_zret (pc := 38) ok dX7_isOf_38 (by first | rfl | exact nb_bz _ | exact @nb_bz _ (Classical.propDecidable _) | decide) (⟨by rw [@bz_neg _ (Classical.propDecidable _) (fun z => c30 ((hir hp).mpr z.2))], rfl⟩)
      · refine a_iconst (pc := 33) ok dX7_isOf_33 ?_
        refine a_goto (pc := 34) (tgt := 38) ok dX7_isOf_34 (by decide) ?_
        exact a_zret (pc := 38) ok dX7_isOf_38 (by first | rfl | exact nb_bz _ | exact @nb_bz _ (Classical.propDecidable _) | decide) (⟨by rw [@bz_pos _ (Classical.propDecidable _) ⟨hp, (hir hp).mp (by first | exact c30 | exact Decidable.not_not.mp c30)⟩], rfl⟩)
end MD8
