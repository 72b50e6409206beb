/-! MODEL: borders, who is better, the smallest. -/
section MD5
variable {l : Launch} {rf sz c r : Int} {G T : Int → Int} {le : Int} {Hh : Int → Int} {li ac : Int} {B I : Int → Int} {m : Int} {Fi Co Br Wt mk gy : Int → Int} {sd rt lf wy sp ou : Int} {b : Int → Int}
theorem dX7_meet_0 : decode cX7_meet 0 = .ok (.iconst 0, 1) := by decide +kernel
theorem dX7_meet_1 : decode cX7_meet 1 = .ok (.istore_n 3, 1) := by decide +kernel
theorem dX7_meet_2 : decode cX7_meet 2 = .ok (.iload_n 3, 1) := by decide +kernel
theorem dX7_meet_3 : decode cX7_meet 3 = .ok (.aload_n 0, 1) := by decide +kernel
theorem dX7_meet_4 : decode cX7_meet 4 = .ok (.getfield 78, 3) := by decide +kernel
theorem dX7_meet_7 : decode cX7_meet 7 = .ok (.if_icmp .ge 16, 3) := by decide +kernel
theorem dX7_meet_10 : decode cX7_meet 10 = .ok (.aload_n 0, 1) := by decide +kernel
theorem dX7_meet_11 : decode cX7_meet 11 = .ok (.getfield 41, 3) := by decide +kernel
theorem dX7_meet_14 : decode cX7_meet 14 = .ok (.iload_n 3, 1) := by decide +kernel
theorem dX7_meet_15 : decode cX7_meet 15 = .ok (.iconst 0, 1) := by decide +kernel
theorem dX7_meet_16 : decode cX7_meet 16 = .ok (.iastore, 1) := by decide +kernel
theorem dX7_meet_17 : decode cX7_meet 17 = .ok (.iinc 3 1, 3) := by decide +kernel
theorem dX7_meet_20 : decode cX7_meet 20 = .ok (.goto (-18), 3) := by decide +kernel
theorem dX7_meet_23 : decode cX7_meet 23 = .ok (.iconst 0, 1) := by decide +kernel
theorem dX7_meet_24 : decode cX7_meet 24 = .ok (.istore_n 3, 1) := by decide +kernel
theorem dX7_meet_25 : decode cX7_meet 25 = .ok (.iload_n 3, 1) := by decide +kernel
theorem dX7_meet_26 : decode cX7_meet 26 = .ok (.aload_n 1, 1) := by decide +kernel
theorem dX7_meet_27 : decode cX7_meet 27 = .ok (.invokestatic 74, 3) := by decide +kernel
theorem dX7_meet_30 : decode cX7_meet 30 = .ok (.if_icmp .ge 76, 3) := by decide +kernel
theorem dX7_meet_33 : decode cX7_meet 33 = .ok (.iconst 0, 1) := by decide +kernel
theorem dX7_meet_34 : decode cX7_meet 34 = .ok (.istore 4, 2) := by decide +kernel
theorem dX7_meet_36 : decode cX7_meet 36 = .ok (.iload 4, 2) := by decide +kernel
theorem dX7_meet_38 : decode cX7_meet 38 = .ok (.iconst 4, 1) := by decide +kernel
theorem dX7_meet_39 : decode cX7_meet 39 = .ok (.if_icmp .ge 61, 3) := by decide +kernel
theorem dX7_meet_42 : decode cX7_meet 42 = .ok (.aload_n 0, 1) := by decide +kernel
theorem dX7_meet_43 : decode cX7_meet 43 = .ok (.getfield 32, 3) := by decide +kernel
theorem dX7_meet_46 : decode cX7_meet 46 = .ok (.iload_n 3, 1) := by decide +kernel
theorem dX7_meet_47 : decode cX7_meet 47 = .ok (.iaload, 1) := by decide +kernel
theorem dX7_meet_48 : decode cX7_meet 48 = .ok (.iload_n 2, 1) := by decide +kernel
theorem dX7_meet_49 : decode cX7_meet 49 = .ok (.if_icmp .ne 51, 3) := by decide +kernel
theorem dX7_meet_52 : decode cX7_meet 52 = .ok (.aload_n 1, 1) := by decide +kernel
theorem dX7_meet_53 : decode cX7_meet 53 = .ok (.iload_n 3, 1) := by decide +kernel
theorem dX7_meet_54 : decode cX7_meet 54 = .ok (.iload 4, 2) := by decide +kernel
theorem dX7_meet_56 : decode cX7_meet 56 = .ok (.invokestatic 81, 3) := by decide +kernel
theorem dX7_meet_59 : decode cX7_meet 59 = .ok (.istore 5, 2) := by decide +kernel
theorem dX7_meet_61 : decode cX7_meet 61 = .ok (.iload 5, 2) := by decide +kernel
theorem dX7_meet_63 : decode cX7_meet 63 = .ok (.iconst (-1), 1) := by decide +kernel
theorem dX7_meet_64 : decode cX7_meet 64 = .ok (.if_icmp .eq 30, 3) := by decide +kernel
theorem dX7_meet_67 : decode cX7_meet 67 = .ok (.aload_n 0, 1) := by decide +kernel
theorem dX7_meet_68 : decode cX7_meet 68 = .ok (.getfield 32, 3) := by decide +kernel
theorem dX7_meet_71 : decode cX7_meet 71 = .ok (.iload 5, 2) := by decide +kernel
theorem dX7_meet_73 : decode cX7_meet 73 = .ok (.iaload, 1) := by decide +kernel
theorem dX7_meet_74 : decode cX7_meet 74 = .ok (.iload_n 2, 1) := by decide +kernel
theorem dX7_meet_75 : decode cX7_meet 75 = .ok (.if_icmp .eq 19, 3) := by decide +kernel
theorem dX7_meet_78 : decode cX7_meet 78 = .ok (.aload_n 0, 1) := by decide +kernel
theorem dX7_meet_79 : decode cX7_meet 79 = .ok (.getfield 41, 3) := by decide +kernel
theorem dX7_meet_82 : decode cX7_meet 82 = .ok (.aload_n 0, 1) := by decide +kernel
theorem dX7_meet_83 : decode cX7_meet 83 = .ok (.getfield 32, 3) := by decide +kernel
theorem dX7_meet_86 : decode cX7_meet 86 = .ok (.iload 5, 2) := by decide +kernel
theorem dX7_meet_88 : decode cX7_meet 88 = .ok (.iaload, 1) := by decide +kernel
theorem dX7_meet_89 : decode cX7_meet 89 = .ok (.dup2, 1) := by decide +kernel
theorem dX7_meet_90 : decode cX7_meet 90 = .ok (.iaload, 1) := by decide +kernel
theorem dX7_meet_91 : decode cX7_meet 91 = .ok (.iconst 1, 1) := by decide +kernel
theorem dX7_meet_92 : decode cX7_meet 92 = .ok (.iadd, 1) := by decide +kernel
theorem dX7_meet_93 : decode cX7_meet 93 = .ok (.iastore, 1) := by decide +kernel
theorem dX7_meet_94 : decode cX7_meet 94 = .ok (.iinc 4 1, 3) := by decide +kernel
theorem dX7_meet_97 : decode cX7_meet 97 = .ok (.goto (-61), 3) := by decide +kernel
theorem dX7_meet_100 : decode cX7_meet 100 = .ok (.iinc 3 1, 3) := by decide +kernel
theorem dX7_meet_103 : decode cX7_meet 103 = .ok (.goto (-78), 3) := by decide +kernel
theorem dX7_meet_106 : decode cX7_meet 106 = .ok (.return_, 1) := by decide +kernel
theorem c_meet {n L : Int} (hd : dim c r) (hL : cel c r L) (hl : lw c r b L = L) (hJ : JW c r b B I m Fi Co) : Ct l yX7_meet cX7_meet 6 none rmX7_meet [.ref 0, .ref 1, iv (rk c r b L)] (mdM rf sz c r G T n le Hh li ac B I m Fi Co Br Wt mk gy sd rt lf wy sp ou)
    (fun z M => z = none ∧ ∃ Br' : Int → Int, M = (mdM rf sz c r G T n le Hh li ac B I m Fi Co (Br') Wt mk gy sd rt lf wy sp ou) ∧ ∀ L', cel c r L' → lw c r b L' = L' → Br' (rk c r b L') = brd c r b L L') := by
  refine Ct.of miX7_meet (Nat.le_of_ble_eq_true rfl) ?_
  intro X hXl hN ok
  refine AW.cast (L2 := [some (.ref 0), some (.ref 1), some (iv (rk c r b L)), none, none, none]) ?_ rfl rfl rfl
  have hc := dim_cells hd
  obtain ⟨j1, j2, j3, j4, j5, j6⟩ := hJ
  have hm := mny_1 (B := b) hd
  subst j5
  have hrL := rk_mny hd hL hl
  have loop : ∀ q : Nat × (Int → Int), ((q.1 : Int) ≤ c * r ∧ ∀ L', cel c r L' → lw c r b L' = L' → q.2 (rk c r b L') = brp c r b L q.1 0 L') → AW X 0 0 25 [some (.ref 0), some (.ref 1), some (iv (rk c r b L)), some (iv q.1), none, none] [] (mdM rf sz c r G T n le Hh li ac B I (mny c r b) Fi Co (q.2) Wt mk gy sd rt lf wy sp ou) := by
    refine wfl (fun q : Nat × (Int → Int) => 145 - q.1) _ _ ?_
    rintro ⟨k, Br⟩ ⟨h1, h2⟩ ih
    dsimp only at h1 h2 ih ⊢
    by_cases hk : (k : Int) < c * r
    · have hck : cel c r k := ⟨by omega, hk⟩
      have hIk := j4 k hck
      have rIk := j2 k
      have hlk := lw_ok (B := b) hd hck
      have hir : rk c r b (lw c r b k) = rk c r b L ↔ lw c r b k = L := ⟨fun e => rk_inj hlk.1 (lw_lw hd hck) hL hl e, fun e => by rw [e]⟩
      have fin : ∀ (Br2 : Int → Int) (u v : Option Value), (∀ L', cel c r L' → lw c r b L' = L' → Br2 (rk c r b L') = brp c r b L (k + 1) 0 L') → AW X 0 0 100 [some (.ref 0), some (.ref 1), some (iv (rk c r b L)), some (iv k), u, v] [] (mdM rf sz c r G T n le Hh li ac B I (mny c r b) Fi Co (Br2) Wt mk gy sd rt lf wy sp ou) := by
        intro Br2 u v hB2
        refine a_iinc (pc := 100) ok dX7_meet_100 rfl rfl (by rw [hN]; decide) ?_
        refine a_goto (pc := 103) (tgt := 25) ok dX7_meet_103 (by decide) ?_
        exact AW.forget (ih (k + 1, Br2) ⟨by dsimp only; omega, hB2⟩ (by dsimp only; omega)) (by repeat' (first | exact trivial | refine ⟨rfl, ?_⟩))
      by_cases hkL : lw c r b k = L
      · have hir1 := hir.mpr hkL
        have inner : ∀ q : Nat × (Int → Int), (q.1 ≤ 4 ∧ ∀ L', cel c r L' → lw c r b L' = L' → q.2 (rk c r b L') = brp c r b L k q.1 L') → AW X 0 0 36 [some (.ref 0), some (.ref 1), some (iv (rk c r b L)), some (iv k), some (iv q.1), none] [] (mdM rf sz c r G T n le Hh li ac B I (mny c r b) Fi Co (q.2) Wt mk gy sd rt lf wy sp ou) := by
          refine wfl (fun q : Nat × (Int → Int) => 5 - q.1) _ _ ?_
          rintro ⟨w, Br⟩ ⟨hw, h2⟩ ih2
          dsimp only at hw h2 ih2 ⊢
          have hn : w < 4 → nb c r k w ≠ -1 → cel c r (nb c r k w) := fun h h2 => (nb_back hd hck (by omega) h2).1
          have hnr := nb_rg (w := w) hd hck
          have rIn := j2 (nb c r k w)
          have hIn : w < 4 → nb c r k w ≠ -1 → I (nb c r k w) = rk c r b (lw c r b (nb c r k w)) ∧ (0 ≤ I (nb c r k w) ∧ I (nb c r k w) < 144) ∧ (I (nb c r k w) = rk c r b L ↔ lw c r b (nb c r k w) = L) := fun h h2 => by
            have hx := hn h h2
            have e := j4 _ hx
            have a := (lw_ok (B := b) hd hx).1
            have d := rk_mny hd a (lw_lw hd hx)
            refine ⟨e, by omega, by rw [e]; exact ⟨fun z => rk_inj a (lw_lw hd hx) hL hl z, fun z => by rw [z]⟩⟩
          refine a_iload (pc := 36) ok dX7_meet_36 rfl ?_
          refine a_iconst (pc := 38) ok dX7_meet_38 ?_
          refine a_icmp_ge (pc := 39) (tgt := 100) ok dX7_meet_39 (by decide) (by first | omega | (unfold rg; omega) | (simp only [rg] at *; omega) | exact bz_rg _ | grind [rg]) (by first | omega | (unfold rg; omega) | (simp only [rg] at *; omega) | exact bz_rg _ | grind [rg]) (fun c39 => ?_) (fun c39 => ?_)
          · exact fin Br _ _ (by rw [brp_4 hkL]; rw [show w = 4 by omega] at h2; exact h2)
          · refine a_aload_n (pc := 42) ok dX7_meet_42 rfl ?_
            refine a_getf (pc := 43) ok dX7_meet_43 fl7_32 rfl rfl ?_
            refine a_iload_n (pc := 46) ok dX7_meet_46 rfl ?_
            refine a_iald (pc := 47) ok dX7_meet_47 rfl (by first | decide | omega) (by first | omega | (unfold rg; omega) | (simp only [rg] at *; omega) | exact bz_rg _ | grind [rg]) ?_
            refine a_iload_n (pc := 48) ok dX7_meet_48 rfl ?_
            refine a_icmp_ne (pc := 49) (tgt := 100) ok dX7_meet_49 (by decide) (by first | exact rIk | (unfold rg; omega)) (by first | exact rIk | (unfold rg; omega)) (fun c49 => ?_) (fun c49 => ?_)
            · exact fin Br _ _ (by rw [brp_4 hkL]; rw [show w = 4 by omega] at h2; exact h2)
            · refine a_aload_n (pc := 52) ok dX7_meet_52 rfl ?_
              refine a_iload_n (pc := 53) ok dX7_meet_53 rfl ?_
              refine a_iload (pc := 54) ok dX7_meet_54 rfl ?_
              refine a_callSp (pc := 56) ok [1] dX7_meet_56 mv7_81 miX7_next (c_next hd hck (by omega)) ⟨by decide, by decide, rfl, rfl, Nat.zero_le _, Nat.zero_le _⟩ rfl rfl (Nat.le_of_ble_eq_true rfl) rfl (by decide) ?_
              refine a_istore (pc := 59) ok dX7_meet_59 rfl (by rw [hN]; decide) ?_
              refine a_iload (pc := 61) ok dX7_meet_61 rfl ?_
              refine a_iconst (pc := 63) ok dX7_meet_63 ?_
              refine a_icmp_eq (pc := 64) (tgt := 94) ok dX7_meet_64 (by decide) (by unfold rg; omega) (by unfold rg; omega) (fun c64 => ?_) (fun c64 => ?_)
              · refine a_iinc (pc := 94) ok dX7_meet_94 rfl rfl (by rw [hN]; decide) ?_
                refine a_goto (pc := 97) (tgt := 36) ok dX7_meet_97 (by decide) ?_
                exact AW.forget (ih2 (w + 1, Br) ⟨by dsimp only; omega, by dsimp only; rw [brp_f (Or.inl c64)]; exact h2⟩ (by dsimp only; omega)) (by repeat' (first | exact trivial | refine ⟨rfl, ?_⟩))
              · refine a_aload_n (pc := 67) ok dX7_meet_67 rfl ?_
                refine a_getf (pc := 68) ok dX7_meet_68 fl7_32 rfl rfl ?_
                refine a_iload (pc := 71) ok dX7_meet_71 rfl ?_
                refine a_iald (pc := 73) ok dX7_meet_73 rfl (by first | decide | omega) (by have a := hn (by omega) c64; have b := a.1; have d := a.2; omega) ?_
                refine a_iload_n (pc := 74) ok dX7_meet_74 rfl ?_
                refine a_icmp_eq (pc := 75) (tgt := 94) ok dX7_meet_75 (by decide) (by first | exact rIn | (unfold rg; omega)) (by first | exact rIn | (unfold rg; omega)) (fun c75 => ?_) (fun c75 => ?_)
                · refine a_iinc (pc := 94) ok dX7_meet_94 rfl rfl (by rw [hN]; decide) ?_
                  refine a_goto (pc := 97) (tgt := 36) ok dX7_meet_97 (by decide) ?_
                  exact AW.forget (ih2 (w + 1, Br) ⟨by dsimp only; omega, by dsimp only; rw [brp_f (Or.inr ((hIn (by omega) c64).2.2.mp c75))]; exact h2⟩ (by dsimp only; omega)) (by repeat' (first | exact trivial | refine ⟨rfl, ?_⟩))
                · refine a_aload_n (pc := 78) ok dX7_meet_78 rfl ?_
                  refine a_getf (pc := 79) ok dX7_meet_79 fl7_41 rfl rfl ?_
                  refine a_aload_n (pc := 82) ok dX7_meet_82 rfl ?_
                  refine a_getf (pc := 83) ok dX7_meet_83 fl7_32 rfl rfl ?_
                  refine a_iload (pc := 86) ok dX7_meet_86 rfl ?_
                  refine a_iald (pc := 88) ok dX7_meet_88 rfl (by first | decide | omega) (by have a := hn (by omega) c64; have b := a.1; have d := a.2; omega) ?_
                  refine a_dup2 (pc := 89) ok dX7_meet_89 rfl rfl ?_
                  refine a_iald (pc := 90) ok dX7_meet_90 rfl (by first | decide | omega) (by exact (hIn (by omega) c64).2.1) ?_
                  refine a_iconst (pc := 91) ok dX7_meet_91 ?_
                  refine a_iadd (pc := 92) ok dX7_meet_92 ?_
                  refine a_iast (pc := 93) ok dX7_meet_93 rfl (by first | decide | omega) (by exact (hIn (by omega) c64).2.1) ?_
                  refine a_iinc (pc := 94) ok dX7_meet_94 rfl rfl (by rw [hN]; decide) ?_
                  refine a_goto (pc := 97) (tgt := 36) ok dX7_meet_97 (by decide) ?_
                  refine AW.forget (ih2 (w + 1, up Br (I (nb c r k w)) (Br (I (nb c r k w)) + 1)) ⟨by dsimp only; omega, fun L' a1 a2 => ?_⟩ (by dsimp only; omega)) (by repeat' (first | exact trivial | refine ⟨rfl, ?_⟩))
                  have hi := hIn (by omega) c64
                  have hx := hn (by omega) c64
                  have hz := lw_ok (B := b) hd hx
                  have hz2 := lw_lw (B := b) hd hx
                  have e := h2 (lw c r b (nb c r k w)) hz.1 hz2
                  dsimp only
                  rw [brp_t hkL c64 (fun z => c75 (hi.2.2.mpr z)), hi.1, e]
                  by_cases y : L' = lw c r b (nb c r k w)
                  · rw [y, up_at, up_at]
                  · rw [up_ne y, up_ne (fun z => y (rk_inj a1 a2 hz.1 hz2 z))]; exact h2 L' a1 a2
        refine a_iload_n (pc := 25) ok dX7_meet_25 rfl ?_
        refine a_aload_n (pc := 26) ok dX7_meet_26 rfl ?_
        refine a_callSp (pc := 27) ok [1] dX7_meet_27 mv7_74 miX7_cells (c_cells) ⟨by decide, by decide, rfl, rfl, Nat.zero_le _, Nat.zero_le _⟩ rfl rfl (Nat.le_of_ble_eq_true rfl) rfl (by decide) ?_
        refine a_icmp_ge (pc := 30) (tgt := 106) ok dX7_meet_30 (by decide) (by first | omega | (unfold rg; omega) | (simp only [rg] at *; omega) | exact bz_rg _ | grind [rg]) (by first | omega | (unfold rg; omega) | (simp only [rg] at *; omega) | exact bz_rg _ | grind [rg]) (fun c30 => ?_) (fun c30 => ?_)
        · exfalso; first | omega | grind
        · refine a_iconst (pc := 33) ok dX7_meet_33 ?_
          refine a_istore (pc := 34) ok dX7_meet_34 rfl (by rw [hN]; decide) ?_
          exact inner (0, Br) ⟨by dsimp only; omega, h2⟩
      · have hin1 : I k ≠ rk c r b L := fun e => hkL (hir.mp (by rw [← hIk]; exact e))
        refine a_iload_n (pc := 25) ok dX7_meet_25 rfl ?_
        refine a_aload_n (pc := 26) ok dX7_meet_26 rfl ?_
        refine a_callSp (pc := 27) ok [1] dX7_meet_27 mv7_74 miX7_cells (c_cells) ⟨by decide, by decide, rfl, rfl, Nat.zero_le _, Nat.zero_le _⟩ rfl rfl (Nat.le_of_ble_eq_true rfl) rfl (by decide) ?_
        refine a_icmp_ge (pc := 30) (tgt := 106) ok dX7_meet_30 (by decide) (by first | omega | (unfold rg; omega) | (simp only [rg] at *; omega) | exact bz_rg _ | grind [rg]) (by first | omega | (unfold rg; omega) | (simp only [rg] at *; omega) | exact bz_rg _ | grind [rg]) (fun c30 => ?_) (fun c30 => ?_)
        · exfalso; first | omega | grind
        · refine a_iconst (pc := 33) ok dX7_meet_33 ?_
          refine a_istore (pc := 34) ok dX7_meet_34 rfl (by rw [hN]; decide) ?_
          refine a_iload (pc := 36) ok dX7_meet_36 rfl ?_
          refine a_iconst (pc := 38) ok dX7_meet_38 ?_
          refine a_icmp_ge (pc := 39) (tgt := 100) ok dX7_meet_39 (by decide) (by first | omega | (unfold rg; omega) | (simp only [rg] at *; omega) | exact bz_rg _ | grind [rg]) (by first | omega | (unfold rg; omega) | (simp only [rg] at *; omega) | exact bz_rg _ | grind [rg]) (fun c39 => ?_) (fun c39 => ?_)
          · exact fin Br _ _ (by rw [brp_n hkL]; exact h2)
          · refine a_aload_n (pc := 42) ok dX7_meet_42 rfl ?_
            refine a_getf (pc := 43) ok dX7_meet_43 fl7_32 rfl rfl ?_
            refine a_iload_n (pc := 46) ok dX7_meet_46 rfl ?_
            refine a_iald (pc := 47) ok dX7_meet_47 rfl (by first | decide | omega) (by first | omega | (unfold rg; omega) | (simp only [rg] at *; omega) | exact bz_rg _ | grind [rg]) ?_
            refine a_iload_n (pc := 48) ok dX7_meet_48 rfl ?_
            refine a_icmp_ne (pc := 49) (tgt := 100) ok dX7_meet_49 (by decide) (by first | exact rIk | (unfold rg; omega)) (by first | exact rIk | (unfold rg; omega)) (fun c49 => ?_) (fun c49 => ?_)
            · exact fin Br _ _ (by rw [brp_n hkL]; exact h2)
            · exact absurd c49 hin1
    · have ekN : k = (c * r).toNat := by omega
      refine a_iload_n (pc := 25) ok dX7_meet_25 rfl ?_
      refine a_aload_n (pc := 26) ok dX7_meet_26 rfl ?_
      refine a_callSp (pc := 27) ok [1] dX7_meet_27 mv7_74 miX7_cells (c_cells) ⟨by decide, by decide, rfl, rfl, Nat.zero_le _, Nat.zero_le _⟩ rfl rfl (Nat.le_of_ble_eq_true rfl) rfl (by decide) ?_
      refine a_icmp_ge (pc := 30) (tgt := 106) ok dX7_meet_30 (by decide) (by first | omega | (unfold rg; omega) | (simp only [rg] at *; omega) | exact bz_rg _ | grind [rg]) (by first | omega | (unfold rg; omega) | (simp only [rg] at *; omega) | exact bz_rg _ | grind [rg]) (fun c30 => ?_) (fun c30 => ?_)
      · exact a_vret (pc := 106) ok dX7_meet_106 (⟨rfl, Br, rfl, fun L' a1 a2 => by rw [h2 L' a1 a2, ekN]; exact (congrFun (brd_brp L) L').symm⟩)
      · exfalso; first | omega | grind
  have loop1 : ∀ q : Nat × (Int → Int), ((q.1 : Int) ≤ mny c r b ∧ ∀ j : Int, 0 ≤ j → j < q.1 → q.2 j = 0) → AW X 0 0 2 [some (.ref 0), some (.ref 1), some (iv (rk c r b L)), some (iv q.1), none, none] [] (mdM rf sz c r G T n le Hh li ac B I (mny c r b) Fi Co (q.2) Wt mk gy sd rt lf wy sp ou) := by
    refine wfl (fun q : Nat × (Int → Int) => 145 - q.1) _ _ ?_
    rintro ⟨k, Br⟩ ⟨h1, h2⟩ ih
    dsimp only at h1 h2 ih ⊢
    refine a_iload_n (pc := 2) ok dX7_meet_2 rfl ?_
    refine a_aload_n (pc := 3) ok dX7_meet_3 rfl ?_
    refine a_getf (pc := 4) ok dX7_meet_4 fl7_78 rfl rfl ?_
    refine a_icmp_ge (pc := 7) (tgt := 23) ok dX7_meet_7 (by decide) (by first | omega | (unfold rg; omega) | (simp only [rg] at *; omega) | exact bz_rg _ | grind [rg]) (by first | omega | (unfold rg; omega) | (simp only [rg] at *; omega) | exact bz_rg _ | grind [rg]) (fun c7 => ?_) (fun c7 => ?_)
    · refine a_iconst (pc := 23) ok dX7_meet_23 ?_
      refine a_istore_n (pc := 24) ok dX7_meet_24 rfl (by rw [hN]; decide) ?_
      refine AW.cast (loop (0, Br) ⟨by dsimp only; omega, fun L' a1 a2 => ?_⟩) rfl rfl rfl
      have := rk_mny hd a1 a2
      dsimp only
      rw [h2 _ (by omega) (by omega), brp_0 L 0 (fun j hj => by omega)]
    · refine a_aload_n (pc := 10) ok dX7_meet_10 rfl ?_
      refine a_getf (pc := 11) ok dX7_meet_11 fl7_41 rfl rfl ?_
      refine a_iload_n (pc := 14) ok dX7_meet_14 rfl ?_
      refine a_iconst (pc := 15) ok dX7_meet_15 ?_
      refine a_iast (pc := 16) ok dX7_meet_16 rfl (by first | decide | omega) (by first | omega | (unfold rg; omega) | (simp only [rg] at *; omega) | exact bz_rg _ | grind [rg]) ?_
      refine a_iinc (pc := 17) ok dX7_meet_17 rfl rfl (by rw [hN]; decide) ?_
      refine a_goto (pc := 20) (tgt := 2) ok dX7_meet_20 (by decide) ?_
      refine AW.cast (ih (k + 1, up Br k 0) ⟨by dsimp only; omega, fun j a1 a2 => ?_⟩ (by dsimp only; omega)) rfl rfl rfl
      dsimp only at a2 ⊢
      by_cases e : j = k
      · rw [e, up_at]
      · rw [up_ne e]; exact h2 j a1 (by omega)
  refine a_iconst (pc := 0) ok dX7_meet_0 ?_
  refine a_istore_n (pc := 1) ok dX7_meet_1 rfl (by rw [hN]; decide) ?_
  exact AW.cast (loop1 (0, Br) ⟨by dsimp only; omega, fun j a1 a2 => by dsimp only at a2; omega⟩) rfl rfl rfl
theorem dX7_bandOfIsle_0 : decode cX7_bandOfIsle 0 = .ok (.aload_n 0, 1) := by decide +kernel
theorem dX7_bandOfIsle_1 : decode cX7_bandOfIsle 1 = .ok (.getfield 29, 3) := by decide +kernel
theorem dX7_bandOfIsle_4 : decode cX7_bandOfIsle 4 = .ok (.aload_n 0, 1) := by decide +kernel
theorem dX7_bandOfIsle_5 : decode cX7_bandOfIsle 5 = .ok (.getfield 35, 3) := by decide +kernel
theorem dX7_bandOfIsle_8 : decode cX7_bandOfIsle 8 = .ok (.iload_n 1, 1) := by decide +kernel
theorem dX7_bandOfIsle_9 : decode cX7_bandOfIsle 9 = .ok (.iaload, 1) := by decide +kernel
theorem dX7_bandOfIsle_10 : decode cX7_bandOfIsle 10 = .ok (.iaload, 1) := by decide +kernel
theorem dX7_bandOfIsle_11 : decode cX7_bandOfIsle 11 = .ok (.ireturn, 1) := by decide +kernel
theorem c_bandOfIsle {n L : Int} (hd : dim c r) (hL : cel c r L) (hl : lw c r b L = L) (hJ : JW c r b B I m Fi Co) : Cd l yX7_bandOfIsle cX7_bandOfIsle 2 (some .int) rmX7_bandOfIsle [.ref 0, iv (rk c r b L)] (mdM rf sz c r G T n le Hh li ac B I m Fi Co Br Wt mk gy sd rt lf wy sp ou) (some (iv (b L))) (mdM rf sz c r G T n le Hh li ac B I m Fi Co Br Wt mk gy sd rt lf wy sp ou) := by
  refine Ct.of miX7_bandOfIsle (Nat.le_of_ble_eq_true rfl) ?_
  intro X hXl hN ok
  refine AW.cast (L2 := [some (.ref 0), some (iv (rk c r b L))]) ?_ rfl rfl rfl
  have hc := dim_cells hd
  obtain ⟨j1, j2, j3, j4, j5, j6⟩ := hJ
  have hm := mny_1 (B := b) hd
  have hrL := rk_mny hd hL hl
  have h1 := (j6 L hL hl).1
  have a1 := hL.1
  have a2 := hL.2
  refine a_aload_n (pc := 0) ok dX7_bandOfIsle_0 rfl ?_
  refine a_getf (pc := 1) ok dX7_bandOfIsle_1 fl7_29 rfl rfl ?_
  refine a_aload_n (pc := 4) ok dX7_bandOfIsle_4 rfl ?_
  refine a_getf (pc := 5) ok dX7_bandOfIsle_5 fl7_35 rfl rfl ?_
  refine a_iload_n (pc := 8) ok dX7_bandOfIsle_8 rfl ?_
  refine a_iald (pc := 9) ok dX7_bandOfIsle_9 rfl (by first | decide | omega) (by first | omega | (unfold rg; omega) | (simp only [rg] at *; omega) | exact bz_rg _ | grind [rg]) ?_
  refine a_iald (pc := 10) ok dX7_bandOfIsle_10 rfl (by first | decide | omega) (by first | omega | (unfold rg; omega) | (simp only [rg] at *; omega) | exact bz_rg _ | grind [rg]) ?_
  exact a_iret (pc := 11) ok dX7_bandOfIsle_11 (⟨by rw [h1, j3 L hL], rfl⟩)
theorem dX7_isBetter_0 : decode cX7_isBetter 0 = .ok (.aload_n 0, 1) := by decide +kernel
theorem dX7_isBetter_1 : decode cX7_isBetter 1 = .ok (.iload_n 2, 1) := by decide +kernel
theorem dX7_isBetter_2 : decode cX7_isBetter 2 = .ok (.invokevirtual 96, 3) := by decide +kernel
theorem dX7_isBetter_5 : decode cX7_isBetter 5 = .ok (.aload_n 0, 1) := by decide +kernel
theorem dX7_isBetter_6 : decode cX7_isBetter 6 = .ok (.iload_n 1, 1) := by decide +kernel
theorem dX7_isBetter_7 : decode cX7_isBetter 7 = .ok (.invokevirtual 96, 3) := by decide +kernel
theorem dX7_isBetter_10 : decode cX7_isBetter 10 = .ok (.isub, 1) := by decide +kernel
theorem dX7_isBetter_11 : decode cX7_isBetter 11 = .ok (.istore 4, 2) := by decide +kernel
theorem dX7_isBetter_13 : decode cX7_isBetter 13 = .ok (.aload_n 0, 1) := by decide +kernel
theorem dX7_isBetter_14 : decode cX7_isBetter 14 = .ok (.iload_n 3, 1) := by decide +kernel
theorem dX7_isBetter_15 : decode cX7_isBetter 15 = .ok (.invokevirtual 96, 3) := by decide +kernel
theorem dX7_isBetter_18 : decode cX7_isBetter 18 = .ok (.aload_n 0, 1) := by decide +kernel
theorem dX7_isBetter_19 : decode cX7_isBetter 19 = .ok (.iload_n 1, 1) := by decide +kernel
theorem dX7_isBetter_20 : decode cX7_isBetter 20 = .ok (.invokevirtual 96, 3) := by decide +kernel
theorem dX7_isBetter_23 : decode cX7_isBetter 23 = .ok (.isub, 1) := by decide +kernel
theorem dX7_isBetter_24 : decode cX7_isBetter 24 = .ok (.istore 5, 2) := by decide +kernel
theorem dX7_isBetter_26 : decode cX7_isBetter 26 = .ok (.aload_n 0, 1) := by decide +kernel
theorem dX7_isBetter_27 : decode cX7_isBetter 27 = .ok (.getfield 41, 3) := by decide +kernel
theorem dX7_isBetter_30 : decode cX7_isBetter 30 = .ok (.iload_n 2, 1) := by decide +kernel
theorem dX7_isBetter_31 : decode cX7_isBetter 31 = .ok (.iaload, 1) := by decide +kernel
theorem dX7_isBetter_32 : decode cX7_isBetter 32 = .ok (.aload_n 0, 1) := by decide +kernel
theorem dX7_isBetter_33 : decode cX7_isBetter 33 = .ok (.getfield 41, 3) := by decide +kernel
theorem dX7_isBetter_36 : decode cX7_isBetter 36 = .ok (.iload_n 3, 1) := by decide +kernel
theorem dX7_isBetter_37 : decode cX7_isBetter 37 = .ok (.iaload, 1) := by decide +kernel
theorem dX7_isBetter_38 : decode cX7_isBetter 38 = .ok (.isub, 1) := by decide +kernel
theorem dX7_isBetter_39 : decode cX7_isBetter 39 = .ok (.istore 6, 2) := by decide +kernel
theorem dX7_isBetter_41 : decode cX7_isBetter 41 = .ok (.iload 6, 2) := by decide +kernel
theorem dX7_isBetter_43 : decode cX7_isBetter 43 = .ok (.ifCond .ne 33, 3) := by decide +kernel
theorem dX7_isBetter_46 : decode cX7_isBetter 46 = .ok (.iload 5, 2) := by decide +kernel
theorem dX7_isBetter_48 : decode cX7_isBetter 48 = .ok (.ifCond .ge 9, 3) := by decide +kernel
theorem dX7_isBetter_51 : decode cX7_isBetter 51 = .ok (.iload 5, 2) := by decide +kernel
theorem dX7_isBetter_53 : decode cX7_isBetter 53 = .ok (.ineg, 1) := by decide +kernel
theorem dX7_isBetter_54 : decode cX7_isBetter 54 = .ok (.goto 5, 3) := by decide +kernel
theorem dX7_isBetter_57 : decode cX7_isBetter 57 = .ok (.iload 5, 2) := by decide +kernel
theorem dX7_isBetter_59 : decode cX7_isBetter 59 = .ok (.iload 4, 2) := by decide +kernel
theorem dX7_isBetter_61 : decode cX7_isBetter 61 = .ok (.ifCond .ge 9, 3) := by decide +kernel
theorem dX7_isBetter_64 : decode cX7_isBetter 64 = .ok (.iload 4, 2) := by decide +kernel
theorem dX7_isBetter_66 : decode cX7_isBetter 66 = .ok (.ineg, 1) := by decide +kernel
theorem dX7_isBetter_67 : decode cX7_isBetter 67 = .ok (.goto 5, 3) := by decide +kernel
theorem dX7_isBetter_70 : decode cX7_isBetter 70 = .ok (.iload 4, 2) := by decide +kernel
theorem dX7_isBetter_72 : decode cX7_isBetter 72 = .ok (.isub, 1) := by decide +kernel
theorem dX7_isBetter_73 : decode cX7_isBetter 73 = .ok (.goto 5, 3) := by decide +kernel
theorem dX7_isBetter_76 : decode cX7_isBetter 76 = .ok (.iload 6, 2) := by decide +kernel
theorem dX7_isBetter_78 : decode cX7_isBetter 78 = .ok (.istore 6, 2) := by decide +kernel
theorem dX7_isBetter_80 : decode cX7_isBetter 80 = .ok (.iload 6, 2) := by decide +kernel
theorem dX7_isBetter_82 : decode cX7_isBetter 82 = .ok (.ifCond .ne 11, 3) := by decide +kernel
theorem dX7_isBetter_85 : decode cX7_isBetter 85 = .ok (.iload 5, 2) := by decide +kernel
theorem dX7_isBetter_87 : decode cX7_isBetter 87 = .ok (.iload 4, 2) := by decide +kernel
theorem dX7_isBetter_89 : decode cX7_isBetter 89 = .ok (.isub, 1) := by decide +kernel
theorem dX7_isBetter_90 : decode cX7_isBetter 90 = .ok (.goto 5, 3) := by decide +kernel
theorem dX7_isBetter_93 : decode cX7_isBetter 93 = .ok (.iload 6, 2) := by decide +kernel
theorem dX7_isBetter_95 : decode cX7_isBetter 95 = .ok (.istore 6, 2) := by decide +kernel
theorem dX7_isBetter_97 : decode cX7_isBetter 97 = .ok (.iload 6, 2) := by decide +kernel
theorem dX7_isBetter_99 : decode cX7_isBetter 99 = .ok (.ifCond .le 7, 3) := by decide +kernel
theorem dX7_isBetter_102 : decode cX7_isBetter 102 = .ok (.iconst 1, 1) := by decide +kernel
theorem dX7_isBetter_103 : decode cX7_isBetter 103 = .ok (.goto 4, 3) := by decide +kernel
theorem dX7_isBetter_106 : decode cX7_isBetter 106 = .ok (.iconst 0, 1) := by decide +kernel
theorem dX7_isBetter_107 : decode cX7_isBetter 107 = .ok (.ireturn, 1) := by decide +kernel
theorem c_isBetter {n L P V : Int} (hd : dim c r) (hL : cel c r L) (hl : lw c r b L = L) (hX : cel c r P) (hx : lw c r b P = P) (hY : cel c r V) (hy : lw c r b V = V) (hJ : JW c r b B I m Fi Co) (hBr : ∀ L', cel c r L' → lw c r b L' = L' → Br (rk c r b L') = brd c r b L L') :
    Cd l yX7_isBetter cX7_isBetter 7 (some .boolean) rmX7_isBetter [.ref 0, iv (rk c r b L), iv (rk c r b P), iv (rk c r b V)] (mdM rf sz c r G T n le Hh li ac B I m Fi Co Br Wt mk gy sd rt lf wy sp ou) (some (iv (bz (bet b (brd c r b L) L P V)))) (mdM rf sz c r G T n le Hh li ac B I m Fi Co Br Wt mk gy sd rt lf wy sp ou) := by
  refine Ct.of miX7_isBetter (Nat.le_of_ble_eq_true rfl) ?_
  intro X hXl hN ok
  refine AW.cast (L2 := [some (.ref 0), some (iv (rk c r b L)), some (iv (rk c r b P)), some (iv (rk c r b V)), none, none, none]) ?_ rfl rfl rfl
  have hc := dim_cells hd
  have hm := mny_1 (B := b) hd
  have hrX := rk_mny hd hX hx
  have hrY := rk_mny hd hY hy
  have e1 := hBr P hX hx
  have e2 := hBr V hY hy
  have b1 := brd_rg (B := b) hd L P
  have b2 := brd_rg (B := b) hd L V
  have k1 := hJ.1 L
  have k2 := hJ.1 P
  have k3 := hJ.1 V
  rw [hJ.2.2.1 L hL] at k1
  rw [hJ.2.2.1 P hX] at k2
  rw [hJ.2.2.1 V hY] at k3
  refine a_aload_n (pc := 0) ok dX7_isBetter_0 rfl ?_
  refine a_iload_n (pc := 1) ok dX7_isBetter_1 rfl ?_
  refine x_callVp (pc := 2) ok [0, 1, 2, 3, 4, 5, 6, 7, 8, 9, 10, 11, 12, 13, 14, 15, 16] 10 dX7_isBetter_2 mv7_96 miX7_bandOfIsle (c_bandOfIsle hd hX hx hJ) ⟨by decide, by decide, rfl, rfl, Nat.zero_le _, Nat.zero_le _⟩ rfl rfl (Nat.le_of_ble_eq_true rfl) rfl rfl (by decide) rfl rfl ?_
  refine a_aload_n (pc := 5) ok dX7_isBetter_5 rfl ?_
  refine a_iload_n (pc := 6) ok dX7_isBetter_6 rfl ?_
  refine x_callVp (pc := 7) ok [0, 1, 2, 3, 4, 5, 6, 7, 8, 9, 10, 11, 12, 13, 14, 15, 16] 10 dX7_isBetter_7 mv7_96 miX7_bandOfIsle (c_bandOfIsle hd hL hl hJ) ⟨by decide, by decide, rfl, rfl, Nat.zero_le _, Nat.zero_le _⟩ rfl rfl (Nat.le_of_ble_eq_true rfl) rfl rfl (by decide) rfl rfl ?_
  refine a_isub (pc := 10) ok dX7_isBetter_10 ?_
  refine a_istore (pc := 11) ok dX7_isBetter_11 rfl (by rw [hN]; decide) ?_
  refine a_aload_n (pc := 13) ok dX7_isBetter_13 rfl ?_
  refine a_iload_n (pc := 14) ok dX7_isBetter_14 rfl ?_
  refine x_callVp (pc := 15) ok [0, 1, 2, 3, 4, 5, 6, 7, 8, 9, 10, 11, 12, 13, 14, 15, 16] 10 dX7_isBetter_15 mv7_96 miX7_bandOfIsle (c_bandOfIsle hd hY hy hJ) ⟨by decide, by decide, rfl, rfl, Nat.zero_le _, Nat.zero_le _⟩ rfl rfl (Nat.le_of_ble_eq_true rfl) rfl rfl (by decide) rfl rfl ?_
  refine a_aload_n (pc := 18) ok dX7_isBetter_18 rfl ?_
  refine a_iload_n (pc := 19) ok dX7_isBetter_19 rfl ?_
  refine x_callVp (pc := 20) ok [0, 1, 2, 3, 4, 5, 6, 7, 8, 9, 10, 11, 12, 13, 14, 15, 16] 10 dX7_isBetter_20 mv7_96 miX7_bandOfIsle (c_bandOfIsle hd hL hl hJ) ⟨by decide, by decide, rfl, rfl, Nat.zero_le _, Nat.zero_le _⟩ rfl rfl (Nat.le_of_ble_eq_true rfl) rfl rfl (by decide) rfl rfl ?_
  refine a_isub (pc := 23) ok dX7_isBetter_23 ?_
  refine a_istore (pc := 24) ok dX7_isBetter_24 rfl (by rw [hN]; decide) ?_
  refine a_aload_n (pc := 26) ok dX7_isBetter_26 rfl ?_
  refine a_getf (pc := 27) ok dX7_isBetter_27 fl7_41 rfl rfl ?_
  refine a_iload_n (pc := 30) ok dX7_isBetter_30 rfl ?_
  refine a_iald (pc := 31) ok dX7_isBetter_31 rfl (by first | decide | omega) (by first | omega | (unfold rg; omega) | (simp only [rg] at *; omega) | exact bz_rg _ | grind [rg]) ?_
  refine a_aload_n (pc := 32) ok dX7_isBetter_32 rfl ?_
  refine a_getf (pc := 33) ok dX7_isBetter_33 fl7_41 rfl rfl ?_
  refine a_iload_n (pc := 36) ok dX7_isBetter_36 rfl ?_
  refine a_iald (pc := 37) ok dX7_isBetter_37 rfl (by first | decide | omega) (by first | omega | (unfold rg; omega) | (simp only [rg] at *; omega) | exact bz_rg _ | grind [rg]) ?_
  rw [e1, e2]
  refine a_isub (pc := 38) ok dX7_isBetter_38 ?_
  refine a_istore (pc := 39) ok dX7_isBetter_39 rfl (by rw [hN]; decide) ?_
  refine a_iload (pc := 41) ok dX7_isBetter_41 rfl ?_
  refine a_if_ne (pc := 43) (tgt := 76) ok dX7_isBetter_43 (by decide) (by first | omega | (unfold rg; omega) | (simp only [rg] at *; omega) | exact bz_rg _ | grind [rg]) (fun c43 => ?_) (fun c43 => ?_)
  · refine a_iload (pc := 76) ok dX7_isBetter_76 rfl ?_
    refine a_istore (pc := 78) ok dX7_isBetter_78 rfl (by rw [hN]; decide) ?_
    refine a_iload (pc := 80) ok dX7_isBetter_80 rfl ?_
    refine a_if_ne (pc := 82) (tgt := 93) ok dX7_isBetter_82 (by decide) (by first | omega | (unfold rg; omega) | (simp only [rg] at *; omega) | exact bz_rg _ | grind [rg]) (fun c82 => ?_) (fun c82 => ?_)
    · refine a_iload (pc := 93) ok dX7_isBetter_93 rfl ?_
      refine a_istore (pc := 95) ok dX7_isBetter_95 rfl (by rw [hN]; decide) ?_
      refine a_iload (pc := 97) ok dX7_isBetter_97 rfl ?_
      refine a_if_le (pc := 99) (tgt := 106) ok dX7_isBetter_99 (by decide) (by first | omega | (unfold rg; omega) | (simp only [rg] at *; omega) | exact bz_rg _ | grind [rg]) (fun c99 => ?_) (fun c99 => ?_)
      · refine a_iconst (pc := 106) ok dX7_isBetter_106 ?_
        exact a_zret (pc := 107) ok dX7_isBetter_107 (by first | rfl | exact nb_bz _ | decide) (⟨by unfold bet ab; first | exact congrArg (fun z => some (iv z)) (bz_pos (by omega)).symm | exact congrArg (fun z => some (iv z)) (bz_neg (by omega)).symm, rfl⟩)
      · refine a_iconst (pc := 102) ok dX7_isBetter_102 ?_
        refine a_goto (pc := 103) (tgt := 107) ok dX7_isBetter_103 (by decide) ?_
        exact a_zret (pc := 107) ok dX7_isBetter_107 (by first | rfl | exact nb_bz _ | decide) (⟨by unfold bet ab; first | exact congrArg (fun z => some (iv z)) (bz_pos (by omega)).symm | exact congrArg (fun z => some (iv z)) (bz_neg (by omega)).symm, rfl⟩)
    · refine a_iload (pc := 85) ok dX7_isBetter_85 rfl ?_
      refine a_iload (pc := 87) ok dX7_isBetter_87 rfl ?_
      refine a_isub (pc := 89) ok dX7_isBetter_89 ?_
      refine a_goto (pc := 90) (tgt := 95) ok dX7_isBetter_90 (by decide) ?_
      refine a_istore (pc := 95) ok dX7_isBetter_95 rfl (by rw [hN]; decide) ?_
      refine a_iload (pc := 97) ok dX7_isBetter_97 rfl ?_
      refine a_if_le (pc := 99) (tgt := 106) ok dX7_isBetter_99 (by decide) (by first | omega | (unfold rg; omega) | (simp only [rg] at *; omega) | exact bz_rg _ | grind [rg]) (fun c99 => ?_) (fun c99 => ?_)
      · refine a_iconst (pc := 106) ok dX7_isBetter_106 ?_
        exact a_zret (pc := 107) ok dX7_isBetter_107 (by first | rfl | exact nb_bz _ | decide) (⟨by unfold bet ab; first | exact congrArg (fun z => some (iv z)) (bz_pos (by omega)).symm | exact congrArg (fun z => some (iv z)) (bz_neg (by omega)).symm, rfl⟩)
      · refine a_iconst (pc := 102) ok dX7_isBetter_102 ?_
        refine a_goto (pc := 103) (tgt := 107) ok dX7_isBetter_103 (by decide) ?_
        exact a_zret (pc := 107) ok dX7_isBetter_107 (by first | rfl | exact nb_bz _ | decide) (⟨by unfold bet ab; first | exact congrArg (fun z => some (iv z)) (bz_pos (by omega)).symm | exact congrArg (fun z => some (iv z)) (bz_neg (by omega)).symm, rfl⟩)
  · refine a_iload (pc := 46) ok dX7_isBetter_46 rfl ?_
    refine a_if_ge (pc := 48) (tgt := 57) ok dX7_isBetter_48 (by decide) (by first | omega | (unfold rg; omega) | (simp only [rg] at *; omega) | exact bz_rg _ | grind [rg]) (fun c48 => ?_) (fun c48 => ?_)
    · refine a_iload (pc := 57) ok dX7_isBetter_57 rfl ?_
      refine a_iload (pc := 59) ok dX7_isBetter_59 rfl ?_
      refine a_if_ge (pc := 61) (tgt := 70) ok dX7_isBetter_61 (by decide) (by first | omega | (unfold rg; omega) | (simp only [rg] at *; omega) | exact bz_rg _ | grind [rg]) (fun c61 => ?_) (fun c61 => ?_)
      · refine a_iload (pc := 70) ok dX7_isBetter_70 rfl ?_
        refine a_isub (pc := 72) ok dX7_isBetter_72 ?_
        refine a_goto (pc := 73) (tgt := 78) ok dX7_isBetter_73 (by decide) ?_
        refine a_istore (pc := 78) ok dX7_isBetter_78 rfl (by rw [hN]; decide) ?_
        refine a_iload (pc := 80) ok dX7_isBetter_80 rfl ?_
        refine a_if_ne (pc := 82) (tgt := 93) ok dX7_isBetter_82 (by decide) (by first | omega | (unfold rg; omega) | (simp only [rg] at *; omega) | exact bz_rg _ | grind [rg]) (fun c82 => ?_) (fun c82 => ?_)
        · refine a_iload (pc := 93) ok dX7_isBetter_93 rfl ?_
          refine a_istore (pc := 95) ok dX7_isBetter_95 rfl (by rw [hN]; decide) ?_
          refine a_iload (pc := 97) ok dX7_isBetter_97 rfl ?_
          refine a_if_le (pc := 99) (tgt := 106) ok dX7_isBetter_99 (by decide) (by first | omega | (unfold rg; omega) | (simp only [rg] at *; omega) | exact bz_rg _ | grind [rg]) (fun c99 => ?_) (fun c99 => ?_)
          · refine a_iconst (pc := 106) ok dX7_isBetter_106 ?_
            exact a_zret (pc := 107) ok dX7_isBetter_107 (by first | rfl | exact nb_bz _ | decide) (⟨by unfold bet ab; first | exact congrArg (fun z => some (iv z)) (bz_pos (by omega)).symm | exact congrArg (fun z => some (iv z)) (bz_neg (by omega)).symm, rfl⟩)
          · refine a_iconst (pc := 102) ok dX7_isBetter_102 ?_
            refine a_goto (pc := 103) (tgt := 107) ok dX7_isBetter_103 (by decide) ?_
            exact a_zret (pc := 107) ok dX7_isBetter_107 (by first | rfl | exact nb_bz _ | decide) (⟨by unfold bet ab; first | exact congrArg (fun z => some (iv z)) (bz_pos (by omega)).symm | exact congrArg (fun z => some (iv z)) (bz_neg (by omega)).symm, rfl⟩)
        · refine a_iload (pc := 85) ok dX7_isBetter_85 rfl ?_
          refine a_iload (pc := 87) ok dX7_isBetter_87 rfl ?_
          refine a_isub (pc := 89) ok dX7_isBetter_89 ?_
          refine a_goto (pc := 90) (tgt := 95) ok dX7_isBetter_90 (by decide) ?_
          refine a_istore (pc := 95) ok dX7_isBetter_95 rfl (by rw [hN]; decide) ?_
          refine a_iload (pc := 97) ok dX7_isBetter_97 rfl ?_
          refine a_if_le (pc := 99) (tgt := 106) ok dX7_isBetter_99 (by decide) (by first | omega | (unfold rg; omega) | (simp only [rg] at *; omega) | exact bz_rg _ | grind [rg]) (fun c99 => ?_) (fun c99 => ?_)
          · refine a_iconst (pc := 106) ok dX7_isBetter_106 ?_
            exact a_zret (pc := 107) ok dX7_isBetter_107 (by first | rfl | exact nb_bz _ | decide) (⟨by unfold bet ab; first | exact congrArg (fun z => some (iv z)) (bz_pos (by omega)).symm | exact congrArg (fun z => some (iv z)) (bz_neg (by omega)).symm, rfl⟩)
          · refine a_iconst (pc := 102) ok dX7_isBetter_102 ?_
            refine a_goto (pc := 103) (tgt := 107) ok dX7_isBetter_103 (by decide) ?_
            exact a_zret (pc := 107) ok dX7_isBetter_107 (by first | rfl | exact nb_bz _ | decide) (⟨by unfold bet ab; first | exact congrArg (fun z => some (iv z)) (bz_pos (by omega)).symm | exact congrArg (fun z => some (iv z)) (bz_neg (by omega)).symm, rfl⟩)
      · refine a_iload (pc := 64) ok dX7_isBetter_64 rfl ?_
        refine a_ineg (pc := 66) ok dX7_isBetter_66 ?_
        refine a_goto (pc := 67) (tgt := 72) ok dX7_isBetter_67 (by decide) ?_
        refine a_isub (pc := 72) ok dX7_isBetter_72 ?_
        refine a_goto (pc := 73) (tgt := 78) ok dX7_isBetter_73 (by decide) ?_
        refine a_istore (pc := 78) ok dX7_isBetter_78 rfl (by rw [hN]; decide) ?_
        refine a_iload (pc := 80) ok dX7_isBetter_80 rfl ?_
        refine a_if_ne (pc := 82) (tgt := 93) ok dX7_isBetter_82 (by decide) (by first | omega | (unfold rg; omega) | (simp only [rg] at *; omega) | exact bz_rg _ | grind [rg]) (fun c82 => ?_) (fun c82 => ?_)
        · refine a_iload (pc := 93) ok dX7_isBetter_93 rfl ?_
          refine a_istore (pc := 95) ok dX7_isBetter_95 rfl (by rw [hN]; decide) ?_
          refine a_iload (pc := 97) ok dX7_isBetter_97 rfl ?_
          refine a_if_le (pc := 99) (tgt := 106) ok dX7_isBetter_99 (by decide) (by first | omega | (unfold rg; omega) | (simp only [rg] at *; omega) | exact bz_rg _ | grind [rg]) (fun c99 => ?_) (fun c99 => ?_)
          · refine a_iconst (pc := 106) ok dX7_isBetter_106 ?_
            exact a_zret (pc := 107) ok dX7_isBetter_107 (by first | rfl | exact nb_bz _ | decide) (⟨by unfold bet ab; first | exact congrArg (fun z => some (iv z)) (bz_pos (by omega)).symm | exact congrArg (fun z => some (iv z)) (bz_neg (by omega)).symm, rfl⟩)
          · refine a_iconst (pc := 102) ok dX7_isBetter_102 ?_
            refine a_goto (pc := 103) (tgt := 107) ok dX7_isBetter_103 (by decide) ?_
            exact a_zret (pc := 107) ok dX7_isBetter_107 (by first | rfl | exact nb_bz _ | decide) (⟨by unfold bet ab; first | exact congrArg (fun z => some (iv z)) (bz_pos (by omega)).symm | exact congrArg (fun z => some (iv z)) (bz_neg (by omega)).symm, rfl⟩)
        · refine a_iload (pc := 85) ok dX7_isBetter_85 rfl ?_
          refine a_iload (pc := 87) ok dX7_isBetter_87 rfl ?_
          refine a_isub (pc := 89) ok dX7_isBetter_89 ?_
          refine a_goto (pc := 90) (tgt := 95) ok dX7_isBetter_90 (by decide) ?_
          refine a_istore (pc := 95) ok dX7_isBetter_95 rfl (by rw [hN]; decide) ?_
          refine a_iload (pc := 97) ok dX7_isBetter_97 rfl ?_
          refine a_if_le (pc := 99) (tgt := 106) ok dX7_isBetter_99 (by decide) (by first | omega | (unfold rg; omega) | (simp only [rg] at *; omega) | exact bz_rg _ | grind [rg]) (fun c99 => ?_) (fun c99 => ?_)
          · refine a_iconst (pc := 106) ok dX7_isBetter_106 ?_
            exact a_zret (pc := 107) ok dX7_isBetter_107 (by first | rfl | exact nb_bz _ | decide) (⟨by unfold bet ab; first | exact congrArg (fun z => some (iv z)) (bz_pos (by omega)).symm | exact congrArg (fun z => some (iv z)) (bz_neg (by omega)).symm, rfl⟩)
          · refine a_iconst (pc := 102) ok dX7_isBetter_102 ?_
            refine a_goto (pc := 103) (tgt := 107) ok dX7_isBetter_103 (by decide) ?_
            exact a_zret (pc := 107) ok dX7_isBetter_107 (by first | rfl | exact nb_bz _ | decide) (⟨by unfold bet ab; first | exact congrArg (fun z => some (iv z)) (bz_pos (by omega)).symm | exact congrArg (fun z => some (iv z)) (bz_neg (by omega)).symm, rfl⟩)
    · refine a_iload (pc := 51) ok dX7_isBetter_51 rfl ?_
      refine a_ineg (pc := 53) ok dX7_isBetter_53 ?_
      refine a_goto (pc := 54) (tgt := 59) ok dX7_isBetter_54 (by decide) ?_
      refine a_iload (pc := 59) ok dX7_isBetter_59 rfl ?_
      refine a_if_ge (pc := 61) (tgt := 70) ok dX7_isBetter_61 (by decide) (by first | omega | (unfold rg; omega) | (simp only [rg] at *; omega) | exact bz_rg _ | grind [rg]) (fun c61 => ?_) (fun c61 => ?_)
      · refine a_iload (pc := 70) ok dX7_isBetter_70 rfl ?_
        refine a_isub (pc := 72) ok dX7_isBetter_72 ?_
        refine a_goto (pc := 73) (tgt := 78) ok dX7_isBetter_73 (by decide) ?_
        refine a_istore (pc := 78) ok dX7_isBetter_78 rfl (by rw [hN]; decide) ?_
        refine a_iload (pc := 80) ok dX7_isBetter_80 rfl ?_
        refine a_if_ne (pc := 82) (tgt := 93) ok dX7_isBetter_82 (by decide) (by first | omega | (unfold rg; omega) | (simp only [rg] at *; omega) | exact bz_rg _ | grind [rg]) (fun c82 => ?_) (fun c82 => ?_)
        · refine a_iload (pc := 93) ok dX7_isBetter_93 rfl ?_
          refine a_istore (pc := 95) ok dX7_isBetter_95 rfl (by rw [hN]; decide) ?_
          refine a_iload (pc := 97) ok dX7_isBetter_97 rfl ?_
          refine a_if_le (pc := 99) (tgt := 106) ok dX7_isBetter_99 (by decide) (by first | omega | (unfold rg; omega) | (simp only [rg] at *; omega) | exact bz_rg _ | grind [rg]) (fun c99 => ?_) (fun c99 => ?_)
          · refine a_iconst (pc := 106) ok dX7_isBetter_106 ?_
            exact a_zret (pc := 107) ok dX7_isBetter_107 (by first | rfl | exact nb_bz _ | decide) (⟨by unfold bet ab; first | exact congrArg (fun z => some (iv z)) (bz_pos (by omega)).symm | exact congrArg (fun z => some (iv z)) (bz_neg (by omega)).symm, rfl⟩)
          · refine a_iconst (pc := 102) ok dX7_isBetter_102 ?_
            refine a_goto (pc := 103) (tgt := 107) ok dX7_isBetter_103 (by decide) ?_
            exact a_zret (pc := 107) ok dX7_isBetter_107 (by first | rfl | exact nb_bz _ | decide) (⟨by unfold bet ab; first | exact congrArg (fun z => some (iv z)) (bz_pos (by omega)).symm | exact congrArg (fun z => some (iv z)) (bz_neg (by omega)).symm, rfl⟩)
        · refine a_iload (pc := 85) ok dX7_isBetter_85 rfl ?_
          refine a_iload (pc := 87) ok dX7_isBetter_87 rfl ?_
          refine a_isub (pc := 89) ok dX7_isBetter_89 ?_
          refine a_goto (pc := 90) (tgt := 95) ok dX7_isBetter_90 (by decide) ?_
          refine a_istore (pc := 95) ok dX7_isBetter_95 rfl (by rw [hN]; decide) ?_
          refine a_iload (pc := 97) ok dX7_isBetter_97 rfl ?_
          refine a_if_le (pc := 99) (tgt := 106) ok dX7_isBetter_99 (by decide) (by first | omega | (unfold rg; omega) | (simp only [rg] at *; omega) | exact bz_rg _ | grind [rg]) (fun c99 => ?_) (fun c99 => ?_)
          · refine a_iconst (pc := 106) ok dX7_isBetter_106 ?_
            exact a_zret (pc := 107) ok dX7_isBetter_107 (by first | rfl | exact nb_bz _ | decide) (⟨by unfold bet ab; first | exact congrArg (fun z => some (iv z)) (bz_pos (by omega)).symm | exact congrArg (fun z => some (iv z)) (bz_neg (by omega)).symm, rfl⟩)
          · refine a_iconst (pc := 102) ok dX7_isBetter_102 ?_
            refine a_goto (pc := 103) (tgt := 107) ok dX7_isBetter_103 (by decide) ?_
            exact a_zret (pc := 107) ok dX7_isBetter_107 (by first | rfl | exact nb_bz _ | decide) (⟨by unfold bet ab; first | exact congrArg (fun z => some (iv z)) (bz_pos (by omega)).symm | exact congrArg (fun z => some (iv z)) (bz_neg (by omega)).symm, rfl⟩)
      · refine a_iload (pc := 64) ok dX7_isBetter_64 rfl ?_
        refine a_ineg (pc := 66) ok dX7_isBetter_66 ?_
        refine a_goto (pc := 67) (tgt := 72) ok dX7_isBetter_67 (by decide) ?_
        refine a_isub (pc := 72) ok dX7_isBetter_72 ?_
        refine a_goto (pc := 73) (tgt := 78) ok dX7_isBetter_73 (by decide) ?_
        refine a_istore (pc := 78) ok dX7_isBetter_78 rfl (by rw [hN]; decide) ?_
        refine a_iload (pc := 80) ok dX7_isBetter_80 rfl ?_
        refine a_if_ne (pc := 82) (tgt := 93) ok dX7_isBetter_82 (by decide) (by first | omega | (unfold rg; omega) | (simp only [rg] at *; omega) | exact bz_rg _ | grind [rg]) (fun c82 => ?_) (fun c82 => ?_)
        · refine a_iload (pc := 93) ok dX7_isBetter_93 rfl ?_
          refine a_istore (pc := 95) ok dX7_isBetter_95 rfl (by rw [hN]; decide) ?_
          refine a_iload (pc := 97) ok dX7_isBetter_97 rfl ?_
          refine a_if_le (pc := 99) (tgt := 106) ok dX7_isBetter_99 (by decide) (by first | omega | (unfold rg; omega) | (simp only [rg] at *; omega) | exact bz_rg _ | grind [rg]) (fun c99 => ?_) (fun c99 => ?_)
          · refine a_iconst (pc := 106) ok dX7_isBetter_106 ?_
            exact a_zret (pc := 107) ok dX7_isBetter_107 (by first | rfl | exact nb_bz _ | decide) (⟨by unfold bet ab; first | exact congrArg (fun z => some (iv z)) (bz_pos (by omega)).symm | exact congrArg (fun z => some (iv z)) (bz_neg (by omega)).symm, rfl⟩)
          · refine a_iconst (pc := 102) ok dX7_isBetter_102 ?_
            refine a_goto (pc := 103) (tgt := 107) ok dX7_isBetter_103 (by decide) ?_
            exact a_zret (pc := 107) ok dX7_isBetter_107 (by first | rfl | exact nb_bz _ | decide) (⟨by unfold bet ab; first | exact congrArg (fun z => some (iv z)) (bz_pos (by omega)).symm | exact congrArg (fun z => some (iv z)) (bz_neg (by omega)).symm, rfl⟩)
        · refine a_iload (pc := 85) ok dX7_isBetter_85 rfl ?_
          refine a_iload (pc := 87) ok dX7_isBetter_87 rfl ?_
          refine a_isub (pc := 89) ok dX7_isBetter_89 ?_
          refine a_goto (pc := 90) (tgt := 95) ok dX7_isBetter_90 (by decide) ?_
          refine a_istore (pc := 95) ok dX7_isBetter_95 rfl (by rw [hN]; decide) ?_
          refine a_iload (pc := 97) ok dX7_isBetter_97 rfl ?_
          refine a_if_le (pc := 99) (tgt := 106) ok dX7_isBetter_99 (by decide) (by first | omega | (unfold rg; omega) | (simp only [rg] at *; omega) | exact bz_rg _ | grind [rg]) (fun c99 => ?_) (fun c99 => ?_)
          · refine a_iconst (pc := 106) ok dX7_isBetter_106 ?_
            exact a_zret (pc := 107) ok dX7_isBetter_107 (by first | rfl | exact nb_bz _ | decide) (⟨by unfold bet ab; first | exact congrArg (fun z => some (iv z)) (bz_pos (by omega)).symm | exact congrArg (fun z => some (iv z)) (bz_neg (by omega)).symm, rfl⟩)
          · refine a_iconst (pc := 102) ok dX7_isBetter_102 ?_
            refine a_goto (pc := 103) (tgt := 107) ok dX7_isBetter_103 (by decide) ?_
            exact a_zret (pc := 107) ok dX7_isBetter_107 (by first | rfl | exact nb_bz _ | decide) (⟨by unfold bet ab; first | exact congrArg (fun z => some (iv z)) (bz_pos (by omega)).symm | exact congrArg (fun z => some (iv z)) (bz_neg (by omega)).symm, rfl⟩)
/-- the number of a first cell; none -/
noncomputable def nrk (c r : Int) (b : Int → Int) (x : Int) : Int := if x = -1 then -1 else rk c r b x
noncomputable def smN (c r : Int) (b : Int → Int) (le : Int) : Nat → Int
  | 0 => -1
  | i + 1 => if siz c r b (fo c r b i) < le ∧ (smN c r b le i = -1 ∨ siz c r b (fo c r b i) < siz c r b (fo c r b (smN c r b le i))) then i else smN c r b le i
theorem smN_rg (le : Int) : ∀ i : Nat, smN c r b le i = -1 ∨ (0 ≤ smN c r b le i ∧ smN c r b le i < i)
  | 0 => Or.inl rfl
  | i + 1 => by have := smN_rg le i; simp only [smN]; split <;> omega
theorem rk_s {k : Nat} (h : lw c r b k = k) : (rk c r b ((k + 1 : Nat) : Int)).toNat = (rk c r b k).toNat + 1 := by
  have a := cntK_t (p := fun j => decide (lw c r b j = j)) (decide_eq_true h)
  have d := rk_rg (c := c) (r := r) (B := b) k
  have e : rk c r b ((k + 1 : Nat) : Int) = rk c r b k + 1 := a
  omega
theorem rk_n {k : Nat} (h : lw c r b k ≠ k) : rk c r b ((k + 1 : Nat) : Int) = rk c r b k := cntK_f (p := fun j => decide (lw c r b j = j)) (decide_eq_false h)
theorem fo_nrk (hd : dim c r) {x : Int} (h : x ≠ -1) (h0 : cel c r x) (hl : lw c r b x = x) : fo c r b (nrk c r b x) = x := by unfold nrk; rw [if_neg h]; exact fo_rk hd h0 hl
theorem nrk_n {x : Int} : nrk c r b x = -1 ↔ x = -1 := by
  have := rk_rg (c := c) (r := r) (B := b) x
  unfold nrk; split <;> omega
theorem smN_K (hd : dim c r) (le : Int) : ∀ k : Nat, (k : Int) ≤ c * r → smN c r b le (rk c r b k).toNat = nrk c r b (smK c r b le k)
  | 0, _ => by
    have : rk c r b ((0 : Nat) : Int) = 0 := rfl
    rw [this]; rfl
  | k + 1, h => by
    have ih := smN_K hd le k (by omega)
    have hk : cel c r k := ⟨by omega, by omega⟩
    have hr := rk_rg (c := c) (r := r) (B := b) k
    by_cases z : lw c r b k = k
    · have hf := fo_rk hd hk z
      have er : (((rk c r b k).toNat : Nat) : Int) = rk c r b k := Int.toNat_of_nonneg hr.1
      rw [rk_s z]
      simp only [smN, smK]
      rw [ih, er, hf]
      have hn : nrk c r b (smK c r b le k) = -1 ↔ smK c r b le k = -1 := nrk_n
      rcases smK_ok (c := c) (r := r) (B := b) (le := le) k with y | y
      · have y2 := hn.mpr y
        by_cases w : siz c r b k < le
        · rw [if_pos ⟨w, Or.inl y2⟩, if_pos ⟨z, w, Or.inl y⟩]; unfold nrk; rw [if_neg (by omega)]
        · rw [if_neg (fun q => w q.1), if_neg (fun q => w q.2.1)]
      · have hc2 : cel c r (smK c r b le k) := ⟨y.1, by omega⟩
        have e2 := fo_nrk hd (by omega) hc2 y.2.2.1
        have y2 : nrk c r b (smK c r b le k) ≠ -1 := fun q => by have := hn.mp q; omega
        rw [e2]
        by_cases w : siz c r b k < le ∧ siz c r b k < siz c r b (smK c r b le k)
        · rw [if_pos ⟨w.1, Or.inr w.2⟩, if_pos ⟨z, w.1, Or.inr w.2⟩]; unfold nrk; rw [if_neg (by omega)]
        · rw [if_neg (fun q => w ⟨q.1, q.2.elim (fun e => absurd e y2) id⟩), if_neg (fun q => w ⟨q.2.1, q.2.2.elim (fun e => by omega) id⟩)]
    · rw [rk_n z, ih]
      simp only [smK]
      rw [if_neg (fun q => z q.1)]
theorem smN_L (hd : dim c r) (le : Int) : smN c r b le (mny c r b).toNat = nrk c r b (smL c r b le) := by
  have hc := dim_cells hd
  have := smN_K (b := b) hd le (c * r).toNat (by omega)
  rw [show (((c * r).toNat : Nat) : Int) = c * r by omega] at this
  exact this
/-- what the Model finds as the smallest -/
noncomputable def smM (c r : Int) (b : Int → Int) (le : Int) : Int := if 1 < mny c r b then nrk c r b (smL c r b le) else -1
theorem dX7_smallest_0 : decode cX7_smallest 0 = .ok (.iconst (-1), 1) := by decide +kernel
theorem dX7_smallest_1 : decode cX7_smallest 1 = .ok (.istore_n 2, 1) := by decide +kernel
theorem dX7_smallest_2 : decode cX7_smallest 2 = .ok (.iconst 0, 1) := by decide +kernel
theorem dX7_smallest_3 : decode cX7_smallest 3 = .ok (.istore_n 3, 1) := by decide +kernel
theorem dX7_smallest_4 : decode cX7_smallest 4 = .ok (.iload_n 3, 1) := by decide +kernel
theorem dX7_smallest_5 : decode cX7_smallest 5 = .ok (.aload_n 0, 1) := by decide +kernel
theorem dX7_smallest_6 : decode cX7_smallest 6 = .ok (.getfield 78, 3) := by decide +kernel
theorem dX7_smallest_9 : decode cX7_smallest 9 = .ok (.if_icmp .ge 53, 3) := by decide +kernel
theorem dX7_smallest_12 : decode cX7_smallest 12 = .ok (.aload_n 0, 1) := by decide +kernel
theorem dX7_smallest_13 : decode cX7_smallest 13 = .ok (.getfield 78, 3) := by decide +kernel
theorem dX7_smallest_16 : decode cX7_smallest 16 = .ok (.iconst 1, 1) := by decide +kernel
theorem dX7_smallest_17 : decode cX7_smallest 17 = .ok (.if_icmp .le 45, 3) := by decide +kernel
theorem dX7_smallest_20 : decode cX7_smallest 20 = .ok (.aload_n 0, 1) := by decide +kernel
theorem dX7_smallest_21 : decode cX7_smallest 21 = .ok (.getfield 38, 3) := by decide +kernel
theorem dX7_smallest_24 : decode cX7_smallest 24 = .ok (.iload_n 3, 1) := by decide +kernel
theorem dX7_smallest_25 : decode cX7_smallest 25 = .ok (.iaload, 1) := by decide +kernel
theorem dX7_smallest_26 : decode cX7_smallest 26 = .ok (.iload_n 1, 1) := by decide +kernel
theorem dX7_smallest_27 : decode cX7_smallest 27 = .ok (.if_icmp .ge 27, 3) := by decide +kernel
theorem dX7_smallest_30 : decode cX7_smallest 30 = .ok (.iload_n 2, 1) := by decide +kernel
theorem dX7_smallest_31 : decode cX7_smallest 31 = .ok (.iconst (-1), 1) := by decide +kernel
theorem dX7_smallest_32 : decode cX7_smallest 32 = .ok (.if_icmp .eq 18, 3) := by decide +kernel
theorem dX7_smallest_35 : decode cX7_smallest 35 = .ok (.aload_n 0, 1) := by decide +kernel
theorem dX7_smallest_36 : decode cX7_smallest 36 = .ok (.getfield 38, 3) := by decide +kernel
theorem dX7_smallest_39 : decode cX7_smallest 39 = .ok (.iload_n 3, 1) := by decide +kernel
theorem dX7_smallest_40 : decode cX7_smallest 40 = .ok (.iaload, 1) := by decide +kernel
theorem dX7_smallest_41 : decode cX7_smallest 41 = .ok (.aload_n 0, 1) := by decide +kernel
theorem dX7_smallest_42 : decode cX7_smallest 42 = .ok (.getfield 38, 3) := by decide +kernel
theorem dX7_smallest_45 : decode cX7_smallest 45 = .ok (.iload_n 2, 1) := by decide +kernel
theorem dX7_smallest_46 : decode cX7_smallest 46 = .ok (.iaload, 1) := by decide +kernel
theorem dX7_smallest_47 : decode cX7_smallest 47 = .ok (.if_icmp .ge 7, 3) := by decide +kernel
theorem dX7_smallest_50 : decode cX7_smallest 50 = .ok (.iload_n 3, 1) := by decide +kernel
theorem dX7_smallest_51 : decode cX7_smallest 51 = .ok (.goto 4, 3) := by decide +kernel
theorem dX7_smallest_54 : decode cX7_smallest 54 = .ok (.iload_n 2, 1) := by decide +kernel
theorem dX7_smallest_55 : decode cX7_smallest 55 = .ok (.istore_n 2, 1) := by decide +kernel
theorem dX7_smallest_56 : decode cX7_smallest 56 = .ok (.iinc 3 1, 3) := by decide +kernel
theorem dX7_smallest_59 : decode cX7_smallest 59 = .ok (.goto (-55), 3) := by decide +kernel
theorem dX7_smallest_62 : decode cX7_smallest 62 = .ok (.iload_n 2, 1) := by decide +kernel
theorem dX7_smallest_63 : decode cX7_smallest 63 = .ok (.ireturn, 1) := by decide +kernel
theorem c_smallest {n le2 : Int} (hd : dim c r) (hl : rg le2) (hJ : JW c r b B I m Fi Co) : Cd l yX7_smallest cX7_smallest 4 (some .int) rmX7_smallest [.ref 0, iv le2] (mdM rf sz c r G T n le Hh li ac B I m Fi Co Br Wt mk gy sd rt lf wy sp ou) (some (iv (smM c r b le2))) (mdM rf sz c r G T n le Hh li ac B I m Fi Co Br Wt mk gy sd rt lf wy sp ou) := by
  refine Ct.of miX7_smallest (Nat.le_of_ble_eq_true rfl) ?_
  intro X hXl hN ok
  refine AW.cast (L2 := [some (.ref 0), some (iv le2), none, none]) ?_ rfl rfl rfl
  obtain ⟨j1, j2, j3, j4, j5, j6⟩ := hJ
  have hm := mny_1 (B := b) hd
  subst j5
  have hz : ∀ i : Int, 0 ≤ i → i < mny c r b → Co i = siz c r b (fo c r b i) := fun i a1 a2 => by
    have f := fo_ok (b := b) hd a1 a2
    have := (j6 _ f.1 f.2.1).2
    rw [f.2.2] at this; exact this
  by_cases h1 : 1 < mny c r b
  · have loop : ∀ k : Nat, (k : Int) ≤ mny c r b → AW X 0 0 4 [some (.ref 0), some (iv le2), some (iv (smN c r b le2 k)), some (iv k)] [] (mdM rf sz c r G T n le Hh li ac B I (mny c r b) Fi Co Br Wt mk gy sd rt lf wy sp ou) := by
      refine wfl (fun k : Nat => 145 - k) _ _ ?_
      intro k hk ih
      have hs := smN_rg (c := c) (r := r) (b := b) le2 k
      have z1 := siz_rg (B := b) hd (fo c r b k)
      have z2 := siz_rg (B := b) hd (fo c r b (smN c r b le2 k))
      have e1 : siz c r b (fo c r b k) < le2 ∧ (smN c r b le2 k = -1 ∨ siz c r b (fo c r b k) < siz c r b (fo c r b (smN c r b le2 k))) → smN c r b le2 (k + 1) = k := fun h => by simp only [smN]; exact if_pos h
      have e2 : ¬ (siz c r b (fo c r b k) < le2 ∧ (smN c r b le2 k = -1 ∨ siz c r b (fo c r b k) < siz c r b (fo c r b (smN c r b le2 k)))) → smN c r b le2 (k + 1) = smN c r b le2 k := fun h => by simp only [smN]; exact if_neg h
      by_cases hk2 : (k : Int) < mny c r b
      · have q1 := hz k (by omega) hk2
        have q2 := fun h : smN c r b le2 k ≠ -1 => hz (smN c r b le2 k) (by omega) (by omega)
        refine a_iload_n (pc := 4) ok dX7_smallest_4 rfl ?_
        refine a_aload_n (pc := 5) ok dX7_smallest_5 rfl ?_
        refine a_getf (pc := 6) ok dX7_smallest_6 fl7_78 rfl rfl ?_
        refine a_icmp_ge (pc := 9) (tgt := 62) ok dX7_smallest_9 (by decide) (by first | omega | (unfold rg; omega) | (simp only [rg] at *; omega) | exact bz_rg _ | grind [rg]) (by first | omega | (unfold rg; omega) | (simp only [rg] at *; omega) | exact bz_rg _ | grind [rg]) (fun c9 => ?_) (fun c9 => ?_)
        · exfalso; first | omega | grind
        · refine a_aload_n (pc := 12) ok dX7_smallest_12 rfl ?_
          refine a_getf (pc := 13) ok dX7_smallest_13 fl7_78 rfl rfl ?_
          refine a_iconst (pc := 16) ok dX7_smallest_16 ?_
          refine a_icmp_le (pc := 17) (tgt := 62) ok dX7_smallest_17 (by decide) (by first | omega | (unfold rg; omega) | (simp only [rg] at *; omega) | exact bz_rg _ | grind [rg]) (by first | omega | (unfold rg; omega) | (simp only [rg] at *; omega) | exact bz_rg _ | grind [rg]) (fun c17 => ?_) (fun c17 => ?_)
          · exfalso; first | omega | grind
          · refine a_aload_n (pc := 20) ok dX7_smallest_20 rfl ?_
            refine a_getf (pc := 21) ok dX7_smallest_21 fl7_38 rfl rfl ?_
            refine a_iload_n (pc := 24) ok dX7_smallest_24 rfl ?_
            refine a_iald (pc := 25) ok dX7_smallest_25 rfl (by first | decide | omega) (by first | omega | (unfold rg; omega) | (simp only [rg] at *; omega) | exact bz_rg _ | grind [rg]) ?_
            rw [q1]
            refine a_iload_n (pc := 26) ok dX7_smallest_26 rfl ?_
            refine a_icmp_ge (pc := 27) (tgt := 54) ok dX7_smallest_27 (by decide) (by first | omega | (unfold rg; omega) | (simp only [rg] at *; omega) | exact bz_rg _ | grind [rg]) (by first | omega | (unfold rg; omega) | (simp only [rg] at *; omega) | exact bz_rg _ | grind [rg]) (fun c27 => ?_) (fun c27 => ?_)
            · refine a_iload_n (pc := 54) ok dX7_smallest_54 rfl ?_
              refine a_istore_n (pc := 55) ok dX7_smallest_55 rfl (by rw [hN]; decide) ?_
              refine a_iinc (pc := 56) ok dX7_smallest_56 rfl rfl (by rw [hN]; decide) ?_
              refine a_goto (pc := 59) (tgt := 4) ok dX7_smallest_59 (by decide) ?_
              exact AW.cast (ih (k + 1) (by omega) (by omega)) (by rw [e2 (by omega)]; rfl) rfl rfl
            · refine a_iload_n (pc := 30) ok dX7_smallest_30 rfl ?_
              refine a_iconst (pc := 31) ok dX7_smallest_31 ?_
              refine a_icmp_eq (pc := 32) (tgt := 50) ok dX7_smallest_32 (by decide) (by first | omega | (unfold rg; omega) | (simp only [rg] at *; omega) | exact bz_rg _ | grind [rg]) (by first | omega | (unfold rg; omega) | (simp only [rg] at *; omega) | exact bz_rg _ | grind [rg]) (fun c32 => ?_) (fun c32 => ?_)
              · refine a_iload_n (pc := 50) ok dX7_smallest_50 rfl ?_
                refine a_goto (pc := 51) (tgt := 55) ok dX7_smallest_51 (by decide) ?_
                refine a_istore_n (pc := 55) ok dX7_smallest_55 rfl (by rw [hN]; decide) ?_
                refine a_iinc (pc := 56) ok dX7_smallest_56 rfl rfl (by rw [hN]; decide) ?_
                refine a_goto (pc := 59) (tgt := 4) ok dX7_smallest_59 (by decide) ?_
                exact AW.cast (ih (k + 1) (by omega) (by omega)) (by rw [e1 (by omega)]; rfl) rfl rfl
              · refine a_aload_n (pc := 35) ok dX7_smallest_35 rfl ?_
                refine a_getf (pc := 36) ok dX7_smallest_36 fl7_38 rfl rfl ?_
                refine a_iload_n (pc := 39) ok dX7_smallest_39 rfl ?_
                refine a_iald (pc := 40) ok dX7_smallest_40 rfl (by first | decide | omega) (by first | omega | (unfold rg; omega) | (simp only [rg] at *; omega) | exact bz_rg _ | grind [rg]) ?_
                rw [q1]
                refine a_aload_n (pc := 41) ok dX7_smallest_41 rfl ?_
                refine a_getf (pc := 42) ok dX7_smallest_42 fl7_38 rfl rfl ?_
                refine a_iload_n (pc := 45) ok dX7_smallest_45 rfl ?_
                refine a_iald (pc := 46) ok dX7_smallest_46 rfl (by first | decide | omega) (by first | omega | (unfold rg; omega) | (simp only [rg] at *; omega) | exact bz_rg _ | grind [rg]) ?_
                rw [q2 c32]
                refine a_icmp_ge (pc := 47) (tgt := 54) ok dX7_smallest_47 (by decide) (by first | omega | (unfold rg; omega) | (simp only [rg] at *; omega) | exact bz_rg _ | grind [rg]) (by first | omega | (unfold rg; omega) | (simp only [rg] at *; omega) | exact bz_rg _ | grind [rg]) (fun c47 => ?_) (fun c47 => ?_)
                · refine a_iload_n (pc := 54) ok dX7_smallest_54 rfl ?_
                  refine a_istore_n (pc := 55) ok dX7_smallest_55 rfl (by rw [hN]; decide) ?_
                  refine a_iinc (pc := 56) ok dX7_smallest_56 rfl rfl (by rw [hN]; decide) ?_
                  refine a_goto (pc := 59) (tgt := 4) ok dX7_smallest_59 (by decide) ?_
                  exact AW.cast (ih (k + 1) (by omega) (by omega)) (by rw [e2 (by omega)]; rfl) rfl rfl
                · refine a_iload_n (pc := 50) ok dX7_smallest_50 rfl ?_
                  refine a_goto (pc := 51) (tgt := 55) ok dX7_smallest_51 (by decide) ?_
                  refine a_istore_n (pc := 55) ok dX7_smallest_55 rfl (by rw [hN]; decide) ?_
                  refine a_iinc (pc := 56) ok dX7_smallest_56 rfl rfl (by rw [hN]; decide) ?_
                  refine a_goto (pc := 59) (tgt := 4) ok dX7_smallest_59 (by decide) ?_
                  exact AW.cast (ih (k + 1) (by omega) (by omega)) (by rw [e1 (by omega)]; rfl) rfl rfl
      · have ek : k = (mny c r b).toNat := by omega
        refine a_iload_n (pc := 4) ok dX7_smallest_4 rfl ?_
        refine a_aload_n (pc := 5) ok dX7_smallest_5 rfl ?_
        refine a_getf (pc := 6) ok dX7_smallest_6 fl7_78 rfl rfl ?_
        refine a_icmp_ge (pc := 9) (tgt := 62) ok dX7_smallest_9 (by decide) (by first | omega | (unfold rg; omega) | (simp only [rg] at *; omega) | exact bz_rg _ | grind [rg]) (by first | omega | (unfold rg; omega) | (simp only [rg] at *; omega) | exact bz_rg _ | grind [rg]) (fun c9 => ?_) (fun c9 => ?_)
        · refine a_iload_n (pc := 62) ok dX7_smallest_62 rfl ?_
          exact a_iret (pc := 63) ok dX7_smallest_63 (⟨by unfold smM; rw [if_pos h1, ← smN_L hd, ek], rfl⟩)
        · exfalso; first | omega | grind
    refine a_iconst (pc := 0) ok dX7_smallest_0 ?_
    refine a_istore_n (pc := 1) ok dX7_smallest_1 rfl (by rw [hN]; decide) ?_
    refine a_iconst (pc := 2) ok dX7_smallest_2 ?_
    refine a_istore_n (pc := 3) ok dX7_smallest_3 rfl (by rw [hN]; decide) ?_
    exact AW.cast (loop 0 (by omega)) rfl rfl rfl
  · have e0 : smM c r b le2 = -1 := if_neg h1
    refine a_iconst (pc := 0) ok dX7_smallest_0 ?_
    refine a_istore_n (pc := 1) ok dX7_smallest_1 rfl (by rw [hN]; decide) ?_
    refine a_iconst (pc := 2) ok dX7_smallest_2 ?_
    refine a_istore_n (pc := 3) ok dX7_smallest_3 rfl (by rw [hN]; decide) ?_
    refine a_iload_n (pc := 4) ok dX7_smallest_4 rfl ?_
    refine a_aload_n (pc := 5) ok dX7_smallest_5 rfl ?_
    refine a_getf (pc := 6) ok dX7_smallest_6 fl7_78 rfl rfl ?_
    refine a_icmp_ge (pc := 9) (tgt := 62) ok dX7_smallest_9 (by decide) (by first | omega | (unfold rg; omega) | (simp only [rg] at *; omega) | exact bz_rg _ | grind [rg]) (by first | omega | (unfold rg; omega) | (simp only [rg] at *; omega) | exact bz_rg _ | grind [rg]) (fun c9 => ?_) (fun c9 => ?_)
    · refine a_iload_n (pc := 62) ok dX7_smallest_62 rfl ?_
      exact a_iret (pc := 63) ok dX7_smallest_63 (⟨by rw [e0], rfl⟩)
    · refine a_aload_n (pc := 12) ok dX7_smallest_12 rfl ?_
      refine a_getf (pc := 13) ok dX7_smallest_13 fl7_78 rfl rfl ?_
      refine a_iconst (pc := 16) ok dX7_smallest_16 ?_
      refine a_icmp_le (pc := 17) (tgt := 62) ok dX7_smallest_17 (by decide) (by first | omega | (unfold rg; omega) | (simp only [rg] at *; omega) | exact bz_rg _ | grind [rg]) (by first | omega | (unfold rg; omega) | (simp only [rg] at *; omega) | exact bz_rg _ | grind [rg]) (fun c17 => ?_) (fun c17 => ?_)
      · refine a_iload_n (pc := 62) ok dX7_smallest_62 rfl ?_
        exact a_iret (pc := 63) ok dX7_smallest_63 (⟨by rw [e0], rfl⟩)
      · exfalso; first | omega | grind
end MD5
