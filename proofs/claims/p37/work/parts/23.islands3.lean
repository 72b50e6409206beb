/-! ISLANDS: merging, numbers, a survey. -/
section IS3
variable {l : Launch} {c r ct : Int} {B F S Br Q Fo No : Int → Int}
theorem IV_step (hd : dim c r) (hI : IV c r ct B F S) {s t : Int} (hs : cel c r s) (hf : lw c r B s = s) :
    IV c r (ct - cntK (fun j => tr (con (EB c r (fun k => if lw c r B k = s then B t else B k)) s j ∧ F j = j)) (c * r).toNat + 1) (fun k => if lw c r B k = s then B t else B k) (mkF F (con (EB c r (fun k => if lw c r B k = s then B t else B k)) s) (lw c r (fun k => if lw c r B k = s then B t else B k) s)) (up S (lw c r (fun k => if lw c r B k = s then B t else B k) s) (cntK (fun j => tr (con (EB c r (fun k => if lw c r B k = s then B t else B k)) s j)) (c * r).toNat)) := by
  obtain ⟨h1, h2, h3, h4, h5, h6⟩ := hI
  have hc := dim_cells hd
  have hcr := cntK_rg (fun j => tr (con (EB c r (fun k => if lw c r B k = s then B t else B k)) s j)) (c * r).toNat
  refine ⟨fun i => ?_, fun i => ?_, up_rg h3 (by unfold rg; omega), fun k hk => ?_, fun L hL hl => ?_, ?_⟩
  · have := h1 t; have := h1 i; dsimp only; split <;> omega
  · by_cases z : con (EB c r (fun k => if lw c r B k = s then B t else B k)) s i
    · rw [mkF_t z]; have := lw_rg (B := fun k => if lw c r B k = s then B t else B k) hd s; unfold rg; omega
    · rw [mkF_f z]; exact h2 i
  · rw [mg_lw hd hs hf hk]
    by_cases z : con (EB c r (fun k => if lw c r B k = s then B t else B k)) s k
    · rw [mkF_t z, mkF_t z]
    · rw [mkF_f z, mkF_f z]; exact h4 k hk
  · unfold up
    by_cases e : L = lw c r (fun k => if lw c r B k = s then B t else B k) s
    · rw [if_pos e, e]; exact (siz_con hd hs).symm
    · rw [if_neg e]
      have hn : ¬ con (EB c r (fun k => if lw c r B k = s then B t else B k)) s L := fun z => e (by rw [lw_eq hd z, hl])
      have h7 := mg_lw (v := B t) hd hs hf hL
      rw [mkF_f hn, hl] at h7
      rw [mg_siz hd hs hf hL hn h7.symm]
      exact h5 L hL h7.symm
  · have e9 : cntK (fun j => tr (con (EB c r (fun k => if lw c r B k = s then B t else B k)) s j ∧ F j = j)) (c * r).toNat = cntK (fun j => tr (con (EB c r (fun k => if lw c r B k = s then B t else B k)) s j ∧ lw c r B j = j)) (c * r).toNat := cntK_congr _ fun j hj => tr_iff (by rw [h4 j ⟨by omega, by omega⟩])
    rw [mg_mny hd hs hf, h6, e9]
theorem mrg_t {le : Int} {n : Nat} (h1 : 1 < mny c r B) (h2 : smL c r B le ≠ -1) : mrg c r le (n + 1) B = mrg c r le n (mstp c r B (smL c r B le)) := by
  simp only [mrg]; rw [if_pos ⟨h1, h2⟩]
theorem mrg_f {le : Int} (n : Nat) (h : ¬ (1 < mny c r B ∧ smL c r B le ≠ -1)) : mrg c r le n B = B := by
  cases n with
  | zero => rfl
  | succ n => simp only [mrg]; rw [if_neg h]
theorem dX0_mergeBelow_0 : decode cX0_mergeBelow 0 = .ok (.iconst 0, 1) := by decide +kernel
theorem dX0_mergeBelow_1 : decode cX0_mergeBelow 1 = .ok (.istore_n 2, 1) := by decide +kernel
theorem dX0_mergeBelow_2 : decode cX0_mergeBelow 2 = .ok (.iload_n 2, 1) := by decide +kernel
theorem dX0_mergeBelow_3 : decode cX0_mergeBelow 3 = .ok (.sipush 144, 3) := by decide +kernel
theorem dX0_mergeBelow_6 : decode cX0_mergeBelow 6 = .ok (.if_icmp .ge 98, 3) := by decide +kernel
theorem dX0_mergeBelow_9 : decode cX0_mergeBelow 9 = .ok (.aload_n 0, 1) := by decide +kernel
theorem dX0_mergeBelow_10 : decode cX0_mergeBelow 10 = .ok (.getfield 21, 3) := by decide +kernel
theorem dX0_mergeBelow_13 : decode cX0_mergeBelow 13 = .ok (.iconst 1, 1) := by decide +kernel
theorem dX0_mergeBelow_14 : decode cX0_mergeBelow 14 = .ok (.if_icmp .le 90, 3) := by decide +kernel
theorem dX0_mergeBelow_17 : decode cX0_mergeBelow 17 = .ok (.aload_n 0, 1) := by decide +kernel
theorem dX0_mergeBelow_18 : decode cX0_mergeBelow 18 = .ok (.iload_n 1, 1) := by decide +kernel
theorem dX0_mergeBelow_19 : decode cX0_mergeBelow 19 = .ok (.invokevirtual 71, 3) := by decide +kernel
theorem dX0_mergeBelow_22 : decode cX0_mergeBelow 22 = .ok (.istore_n 3, 1) := by decide +kernel
theorem dX0_mergeBelow_23 : decode cX0_mergeBelow 23 = .ok (.iload_n 3, 1) := by decide +kernel
theorem dX0_mergeBelow_24 : decode cX0_mergeBelow 24 = .ok (.iconst (-1), 1) := by decide +kernel
theorem dX0_mergeBelow_25 : decode cX0_mergeBelow 25 = .ok (.if_icmp .ne 7, 3) := by decide +kernel
theorem dX0_mergeBelow_28 : decode cX0_mergeBelow 28 = .ok (.iconst (-1), 1) := by decide +kernel
theorem dX0_mergeBelow_29 : decode cX0_mergeBelow 29 = .ok (.goto 8, 3) := by decide +kernel
theorem dX0_mergeBelow_32 : decode cX0_mergeBelow 32 = .ok (.aload_n 0, 1) := by decide +kernel
theorem dX0_mergeBelow_33 : decode cX0_mergeBelow 33 = .ok (.iload_n 3, 1) := by decide +kernel
theorem dX0_mergeBelow_34 : decode cX0_mergeBelow 34 = .ok (.invokevirtual 74, 3) := by decide +kernel
theorem dX0_mergeBelow_37 : decode cX0_mergeBelow 37 = .ok (.istore 4, 2) := by decide +kernel
theorem dX0_mergeBelow_39 : decode cX0_mergeBelow 39 = .ok (.iload 4, 2) := by decide +kernel
theorem dX0_mergeBelow_41 : decode cX0_mergeBelow 41 = .ok (.iconst (-1), 1) := by decide +kernel
theorem dX0_mergeBelow_42 : decode cX0_mergeBelow 42 = .ok (.if_icmp .ne 4, 3) := by decide +kernel
theorem dX0_mergeBelow_45 : decode cX0_mergeBelow 45 = .ok (.return_, 1) := by decide +kernel
theorem dX0_mergeBelow_46 : decode cX0_mergeBelow 46 = .ok (.aload_n 0, 1) := by decide +kernel
theorem dX0_mergeBelow_47 : decode cX0_mergeBelow 47 = .ok (.getfield 24, 3) := by decide +kernel
theorem dX0_mergeBelow_50 : decode cX0_mergeBelow 50 = .ok (.iload 4, 2) := by decide +kernel
theorem dX0_mergeBelow_52 : decode cX0_mergeBelow 52 = .ok (.iaload, 1) := by decide +kernel
theorem dX0_mergeBelow_53 : decode cX0_mergeBelow 53 = .ok (.istore 5, 2) := by decide +kernel
theorem dX0_mergeBelow_55 : decode cX0_mergeBelow 55 = .ok (.iload_n 3, 1) := by decide +kernel
theorem dX0_mergeBelow_56 : decode cX0_mergeBelow 56 = .ok (.istore 6, 2) := by decide +kernel
theorem dX0_mergeBelow_58 : decode cX0_mergeBelow 58 = .ok (.iload 6, 2) := by decide +kernel
theorem dX0_mergeBelow_60 : decode cX0_mergeBelow 60 = .ok (.aload_n 0, 1) := by decide +kernel
theorem dX0_mergeBelow_61 : decode cX0_mergeBelow 61 = .ok (.getfield 18, 3) := by decide +kernel
theorem dX0_mergeBelow_64 : decode cX0_mergeBelow 64 = .ok (.if_icmp .ge 29, 3) := by decide +kernel
theorem dX0_mergeBelow_67 : decode cX0_mergeBelow 67 = .ok (.aload_n 0, 1) := by decide +kernel
theorem dX0_mergeBelow_68 : decode cX0_mergeBelow 68 = .ok (.getfield 28, 3) := by decide +kernel
theorem dX0_mergeBelow_71 : decode cX0_mergeBelow 71 = .ok (.iload 6, 2) := by decide +kernel
theorem dX0_mergeBelow_73 : decode cX0_mergeBelow 73 = .ok (.iaload, 1) := by decide +kernel
theorem dX0_mergeBelow_74 : decode cX0_mergeBelow 74 = .ok (.iload_n 3, 1) := by decide +kernel
theorem dX0_mergeBelow_75 : decode cX0_mergeBelow 75 = .ok (.if_icmp .ne 12, 3) := by decide +kernel
theorem dX0_mergeBelow_78 : decode cX0_mergeBelow 78 = .ok (.aload_n 0, 1) := by decide +kernel
theorem dX0_mergeBelow_79 : decode cX0_mergeBelow 79 = .ok (.getfield 24, 3) := by decide +kernel
theorem dX0_mergeBelow_82 : decode cX0_mergeBelow 82 = .ok (.iload 6, 2) := by decide +kernel
theorem dX0_mergeBelow_84 : decode cX0_mergeBelow 84 = .ok (.iload 5, 2) := by decide +kernel
theorem dX0_mergeBelow_86 : decode cX0_mergeBelow 86 = .ok (.iastore, 1) := by decide +kernel
theorem dX0_mergeBelow_87 : decode cX0_mergeBelow 87 = .ok (.iinc 6 1, 3) := by decide +kernel
theorem dX0_mergeBelow_90 : decode cX0_mergeBelow 90 = .ok (.goto (-32), 3) := by decide +kernel
theorem dX0_mergeBelow_93 : decode cX0_mergeBelow 93 = .ok (.aload_n 0, 1) := by decide +kernel
theorem dX0_mergeBelow_94 : decode cX0_mergeBelow 94 = .ok (.iload_n 3, 1) := by decide +kernel
theorem dX0_mergeBelow_95 : decode cX0_mergeBelow 95 = .ok (.invokevirtual 61, 3) := by decide +kernel
theorem dX0_mergeBelow_98 : decode cX0_mergeBelow 98 = .ok (.iinc 2 1, 3) := by decide +kernel
theorem dX0_mergeBelow_101 : decode cX0_mergeBelow 101 = .ok (.goto (-99), 3) := by decide +kernel
theorem dX0_mergeBelow_104 : decode cX0_mergeBelow 104 = .ok (.return_, 1) := by decide +kernel
theorem c_mergeBelow {le : Int} (hd : dim c r) (hle : rg le) (hI : IV c r ct B F S) : Ct l yX0_mergeBelow cX0_mergeBelow 7 none rmX0_mergeBelow [.ref 0, iv le] (isM c r (c * r) ct B F S Br Q Fo No)
    (fun v M => v = none ∧ ∃ F' S' Br' Q' : Int → Int, M = isM c r (c * r) (mny c r (mrg c r le 144 B)) (mrg c r le 144 B) F' S' Br' Q' Fo No ∧ IV c r (mny c r (mrg c r le 144 B)) (mrg c r le 144 B) F' S') := by
  refine Ct.of miX0_mergeBelow (Nat.le_of_ble_eq_true rfl) ?_
  intro X hXl hN ok
  refine AW.cast (L2 := [some (.ref 0), some (iv le), none, none, none, none, none]) ?_ rfl rfl rfl
  have hc := dim_cells hd
  have loop : ∀ q : Nat × (Int → Int) × (Int → Int) × (Int → Int) × (Int → Int) × (Int → Int), (q.1 ≤ 144 ∧ IV c r (mny c r q.2.1) q.2.1 q.2.2.1 q.2.2.2.1 ∧ mrg c r le (144 - q.1) q.2.1 = mrg c r le 144 B) →
      AW X 0 0 2 [some (.ref 0), some (iv le), some (iv q.1), none, none, none, none] [] (isM c r (c * r) (mny c r q.2.1) q.2.1 q.2.2.1 q.2.2.2.1 q.2.2.2.2.1 q.2.2.2.2.2 Fo No) := by
    refine wfl (fun q : Nat × (Int → Int) × (Int → Int) × (Int → Int) × (Int → Int) × (Int → Int) => 145 - q.1) _ _ ?_
    rintro ⟨n, B, F, S, Br, Q⟩ ⟨h1, h2, h3⟩ ih
    dsimp only at h1 h2 h3 ih ⊢
    have hm := mny_1 (B := B) hd
    have hsm := smK_ok (c := c) (r := r) (B := B) (le := le) (c * r).toNat
    have hs0 : smL c r B le ≠ -1 → cel c r (smL c r B le) ∧ lw c r B (smL c r B le) = smL c r B le := fun h => by
      rcases hsm with z | z
      · exact absurd z h
      · exact ⟨⟨z.1, by have := z.2.1; unfold smL; omega⟩, z.2.2.1⟩
    have hsr : -1 ≤ smL c r B le ∧ smL c r B le < 144 := by
      unfold smL; omega
    have htr : smL c r B le ≠ -1 → -1 ≤ tkL c r B (smL c r B le) ∧ tkL c r B (smL c r B le) < 144 := fun h => by
      have := (tkK_ok (c := c) (r := r) (B := B) (s := smL c r B le) (c * r).toNat).2
      unfold tkL; omega
    have stay : (144 ≤ n ∨ mny c r B ≤ 1 ∨ smL c r B le = -1) → mrg c r le 144 B = mrg c r le 144 B ∧ B = mrg c r le (144 - n) B := fun h => ⟨rfl, by
      rcases h with h | h | h
      · rw [show 144 - n = 0 by omega]; rfl
      · exact (mrg_f _ (fun z => by omega)).symm
      · exact (mrg_f _ (fun z => z.2 h)).symm⟩
    have fin : ∀ {F S Br Q : Int → Int}, IV c r (mny c r B) B F S → B = mrg c r le (144 - n) B → ∃ F' S' Br' Q' : Int → Int, isM c r (c * r) (mny c r B) B F S Br Q Fo No = isM c r (c * r) (mny c r (mrg c r le (144 - n) B)) (mrg c r le (144 - n) B) F' S' Br' Q' Fo No ∧ IV c r (mny c r (mrg c r le (144 - n) B)) (mrg c r le (144 - n) B) F' S' := fun {F S Br Q} hi he => ⟨F, S, Br, Q, by rw [← he], by rw [← he]; exact hi⟩
    rw [← h3] at ok
    have body : ∀ s t : Int, s = smL c r B le → smL c r B le ≠ -1 → t = tkL c r B s → 1 < mny c r B → n < 144 → AW X 0 0 46 [some (.ref 0), some (iv le), some (iv n), some (iv s), some (iv t), none, none] [] (isM c r (c * r) (mny c r B) B F S (fun L => brd c r B s L) Q Fo No) := by
      intro s t es hs1 et hm1 hn
      have hs := hs0 hs1
      rw [← es] at hs
      obtain ⟨hsc, hsl⟩ := hs
      have ht := tk_ex hd hsc hsl hm1
      rw [← et] at ht
      obtain ⟨htc, htb⟩ := ht
      have hs2 := hsc.1
      have hs3 := hsc.2
      have ht2 := htc.1
      have ht3 := htc.2
      have hst : mstp c r B s = fun k => if lw c r B k = s then B t else B k := by rw [et]; rfl
      have hI2 := IV_step (t := t) hd h2 hsc hsl
      obtain ⟨i1, i2, i3, i4, i5, i6⟩ := id h2
      have hgB : ∀ i, rg (if lw c r B i = s then B t else B i) := fun i => by have := i1 t; have := i1 i; unfold rg; split <;> omega
      have hF2 : ∀ j, cel c r j → F j ≠ -2 := fun j hj => by rw [i4 j hj]; have := (lw_rg (B := B) hd j).1; omega
      have inner : ∀ k : Nat, (k : Int) ≤ c * r → s ≤ k → AW X 0 0 58 [some (.ref 0), some (iv le), some (iv n), some (iv s), some (iv t), some (iv (B t)), some (iv k)] [] (isM c r (c * r) (mny c r B) (fun i => if lw c r B i = s ∧ i < k then B t else B i) F S (fun L => brd c r B s L) Q Fo No) := by
        have key : ∀ k : Nat, ((k : Int) ≤ c * r ∧ s ≤ k) → AW X 0 0 58 [some (.ref 0), some (iv le), some (iv n), some (iv s), some (iv t), some (iv (B t)), some (iv k)] [] (isM c r (c * r) (mny c r B) (fun i => if lw c r B i = s ∧ i < k then B t else B i) F S (fun L => brd c r B s L) Q Fo No) := by
          refine wfl (fun k : Nat => 145 - k) _ _ ?_
          rintro k ⟨hk1, hk2⟩ ih2
          have hFk : (k : Int) < c * r → F k = lw c r B k := fun h => i4 k ⟨by omega, h⟩
          have hlk := lw_rg (B := B) hd k
          have exA : lw c r B k = s → up (fun i => if lw c r B i = s ∧ i < (k : Int) then B t else B i) k (B t) = (fun i => if lw c r B i = s ∧ i < ((k + 1 : Nat) : Int) then B t else B i) := by
            intro e0
            funext i
            unfold up
            dsimp only
            by_cases e : i = k
            · rw [if_pos e, if_pos ⟨by rw [e]; exact e0, by omega⟩]
            · rw [if_neg e]
              by_cases z : lw c r B i = s ∧ i < k
              · rw [if_pos z, if_pos ⟨z.1, by omega⟩]
              · rw [if_neg z, if_neg (fun y => z ⟨y.1, by have := y.2; omega⟩)]
          have exB : lw c r B k ≠ s → (fun i => if lw c r B i = s ∧ i < (k : Int) then B t else B i) = (fun i => if lw c r B i = s ∧ i < ((k + 1 : Nat) : Int) then B t else B i) := by
            intro e0
            funext i
            by_cases z : lw c r B i = s ∧ i < k
            · rw [if_pos z, if_pos ⟨z.1, by omega⟩]
            · rw [if_neg z, if_neg (fun y => z ⟨y.1, by have a : i ≠ k := (fun e => e0 (by rw [← e]; exact y.1)); have b := y.2; omega⟩)]
          refine a_iload (pc := 58) ok dX0_mergeBelow_58 rfl ?_
          refine a_aload_n (pc := 60) ok dX0_mergeBelow_60 rfl ?_
          refine a_getf (pc := 61) ok dX0_mergeBelow_61 fl0_18 rfl rfl ?_
          refine a_icmp_ge (pc := 64) (tgt := 93) ok dX0_mergeBelow_64 (by decide) (by first | omega | (unfold rg; omega) | (simp only [rg] at *; omega) | exact bz_rg _ | grind [rg]) (by first | omega | (unfold rg; omega) | (simp only [rg] at *; omega) | exact bz_rg _ | grind [rg]) (fun c64 => ?_) (fun c64 => ?_)
          · have em : (fun i => if lw c r B i = s ∧ i < (k : Int) then B t else B i) = (fun k => if lw c r B k = s then B t else B k) := by
              funext i
              by_cases z : lw c r B i = s
              · have : cel c r i := Classical.byContradiction fun y => by rw [lw_out y] at z; omega
                rw [if_pos ⟨z, by have := this.2; omega⟩, if_pos z]
              · rw [if_neg z, if_neg (fun y => z y.1)]
            rw [em]
            refine a_aload_n (pc := 93) ok dX0_mergeBelow_93 rfl ?_
            refine a_iload_n (pc := 94) ok dX0_mergeBelow_94 rfl ?_
            refine a_callV (pc := 95) ok [0, 1, 2, 3, 4, 5, 6, 7] dX0_mergeBelow_95 mv0_61 miX0_gather (c_gather hd hsc hgB i2 hF2) ⟨by decide, by decide, rfl, rfl, Nat.zero_le _, Nat.zero_le _⟩ rfl rfl (Nat.le_of_ble_eq_true rfl) rfl (by decide) rfl rfl (fun v M' h => by obtain ⟨_, Q', h, _⟩ := h; rfl) ?_
            rintro v M' ⟨rfl, Q', rfl⟩
            rw [hI2.2.2.2.2.2]
            rw [hI2.2.2.2.2.2] at hI2
            refine AW.cast (M2 := isM c r (c * r) (mny c r (fun k => if lw c r B k = s then B t else B k)) (fun k => if lw c r B k = s then B t else B k) (mkF F (con (EB c r (fun k => if lw c r B k = s then B t else B k)) s) (lw c r (fun k => if lw c r B k = s then B t else B k) s)) (up S (lw c r (fun k => if lw c r B k = s then B t else B k) s) (cntK (fun j => tr (con (EB c r (fun k => if lw c r B k = s then B t else B k)) s j)) (c * r).toNat)) (fun L => brd c r B s L) Q' Fo No) ?_ rfl rfl rfl
            refine a_iinc (pc := 98) ok dX0_mergeBelow_98 rfl rfl (by rw [hN]; decide) ?_
            refine a_goto (pc := 101) (tgt := 2) ok dX0_mergeBelow_101 (by decide) ?_
            refine AW.forget (ih (n + 1, (fun k => if lw c r B k = s then B t else B k), _, _, _, Q') ⟨by dsimp only; omega, hI2, ?_⟩ (by dsimp only; omega)) (by repeat' (first | exact trivial | refine ⟨rfl, ?_⟩))
            dsimp only
            rw [← h3, show 144 - n = (144 - (n + 1)) + 1 by omega, mrg_t hm1 hs1, ← es, hst]
          · refine a_aload_n (pc := 67) ok dX0_mergeBelow_67 rfl ?_
            refine a_getf (pc := 68) ok dX0_mergeBelow_68 fl0_28 rfl rfl ?_
            refine a_iload (pc := 71) ok dX0_mergeBelow_71 rfl ?_
            refine a_iald (pc := 73) ok dX0_mergeBelow_73 rfl (by first | decide | omega) (by first | omega | (unfold rg; omega) | (simp only [rg] at *; omega) | exact bz_rg _ | grind [rg]) ?_
            refine a_iload_n (pc := 74) ok dX0_mergeBelow_74 rfl ?_
            refine a_icmp_ne (pc := 75) (tgt := 87) ok dX0_mergeBelow_75 (by decide) (by have := hFk (by omega); unfold rg; omega) (by have := hFk (by omega); unfold rg; omega) (fun c75 => ?_) (fun c75 => ?_)
            · refine a_iinc (pc := 87) ok dX0_mergeBelow_87 rfl rfl (by rw [hN]; decide) ?_
              refine a_goto (pc := 90) (tgt := 58) ok dX0_mergeBelow_90 (by decide) ?_
              refine AW.cast (ih2 (k + 1) ⟨by omega, by omega⟩ (by omega)) rfl rfl (congrArg (fun f => isM c r (c * r) (mny c r B) f F S (fun L => brd c r B s L) Q Fo No) ?_)
              first
              | exact exA (by have := hFk (by omega); omega)
              | exact exB (by have := hFk (by omega); omega)
            · refine a_aload_n (pc := 78) ok dX0_mergeBelow_78 rfl ?_
              refine a_getf (pc := 79) ok dX0_mergeBelow_79 fl0_24 rfl rfl ?_
              refine a_iload (pc := 82) ok dX0_mergeBelow_82 rfl ?_
              refine a_iload (pc := 84) ok dX0_mergeBelow_84 rfl ?_
              refine a_iast (pc := 86) ok dX0_mergeBelow_86 rfl (by first | decide | omega) (by first | omega | (unfold rg; omega) | (simp only [rg] at *; omega) | exact bz_rg _ | grind [rg]) ?_
              refine a_iinc (pc := 87) ok dX0_mergeBelow_87 rfl rfl (by rw [hN]; decide) ?_
              refine a_goto (pc := 90) (tgt := 58) ok dX0_mergeBelow_90 (by decide) ?_
              refine AW.cast (ih2 (k + 1) ⟨by omega, by omega⟩ (by omega)) rfl rfl (congrArg (fun f => isM c r (c * r) (mny c r B) f F S (fun L => brd c r B s L) Q Fo No) ?_)
              first
              | exact exA (by have := hFk (by omega); omega)
              | exact exB (by have := hFk (by omega); omega)
        exact fun k a b => key k ⟨a, b⟩
      have it := i1 t
      refine a_aload_n (pc := 46) ok dX0_mergeBelow_46 rfl ?_
      refine a_getf (pc := 47) ok dX0_mergeBelow_47 fl0_24 rfl rfl ?_
      refine a_iload (pc := 50) ok dX0_mergeBelow_50 rfl ?_
      refine a_iald (pc := 52) ok dX0_mergeBelow_52 rfl (by first | decide | omega) (by first | omega | (unfold rg; omega) | (simp only [rg] at *; omega) | exact bz_rg _ | grind [rg]) ?_
      refine a_istore (pc := 53) ok dX0_mergeBelow_53 rfl (by rw [hN]; decide) ?_
      refine a_iload_n (pc := 55) ok dX0_mergeBelow_55 rfl ?_
      refine a_istore (pc := 56) ok dX0_mergeBelow_56 rfl (by rw [hN]; decide) ?_
      refine AW.cast (inner s.toNat (by omega) (by omega)) (by rw [Int.toNat_of_nonneg hs2]; rfl) rfl (congrArg (fun f => isM c r (c * r) (mny c r B) f F S (fun L => brd c r B s L) Q Fo No) ?_)
      funext i
      rw [if_neg]
      rintro ⟨y1, y2⟩
      have hci : cel c r i := Classical.byContradiction fun y => by rw [lw_out y] at y1; omega
      have := (lw_ok (B := B) hd hci).2.1
      omega
    refine a_iload_n (pc := 2) ok dX0_mergeBelow_2 rfl ?_
    refine a_sipush (pc := 3) ok dX0_mergeBelow_3 (by decide) ?_
    refine a_icmp_ge (pc := 6) (tgt := 104) ok dX0_mergeBelow_6 (by decide) (by first | omega | (unfold rg; omega) | (simp only [rg] at *; omega) | exact bz_rg _ | grind [rg]) (by first | omega | (unfold rg; omega) | (simp only [rg] at *; omega) | exact bz_rg _ | grind [rg]) (fun c6 => ?_) (fun c6 => ?_)
    · exact a_vret (pc := 104) ok dX0_mergeBelow_104 (⟨rfl, fin h2 (stay (by omega)).2⟩)
    · refine a_aload_n (pc := 9) ok dX0_mergeBelow_9 rfl ?_
      refine a_getf (pc := 10) ok dX0_mergeBelow_10 fl0_21 rfl rfl ?_
      refine a_iconst (pc := 13) ok dX0_mergeBelow_13 ?_
      refine a_icmp_le (pc := 14) (tgt := 104) ok dX0_mergeBelow_14 (by decide) (by first | omega | (unfold rg; omega) | (simp only [rg] at *; omega) | exact bz_rg _ | grind [rg]) (by first | omega | (unfold rg; omega) | (simp only [rg] at *; omega) | exact bz_rg _ | grind [rg]) (fun c14 => ?_) (fun c14 => ?_)
      · exact a_vret (pc := 104) ok dX0_mergeBelow_104 (⟨rfl, fin h2 (stay (by omega)).2⟩)
      · refine a_aload_n (pc := 17) ok dX0_mergeBelow_17 rfl ?_
        refine a_iload_n (pc := 18) ok dX0_mergeBelow_18 rfl ?_
        refine a_callVp (pc := 19) ok [0, 1, 2, 3, 4, 5, 6, 7] dX0_mergeBelow_19 mv0_71 miX0_smallestBelow (c_smallestBelow hd hle h2) ⟨by decide, by decide, rfl, rfl, Nat.zero_le _, Nat.zero_le _⟩ rfl rfl (Nat.le_of_ble_eq_true rfl) rfl (by decide) rfl rfl ?_
        refine a_istore_n (pc := 22) ok dX0_mergeBelow_22 rfl (by rw [hN]; decide) ?_
        refine a_iload_n (pc := 23) ok dX0_mergeBelow_23 rfl ?_
        refine a_iconst (pc := 24) ok dX0_mergeBelow_24 ?_
        refine a_icmp_ne (pc := 25) (tgt := 32) ok dX0_mergeBelow_25 (by decide) (by first | omega | (unfold rg; omega) | (simp only [rg] at *; omega) | exact bz_rg _ | grind [rg]) (by first | omega | (unfold rg; omega) | (simp only [rg] at *; omega) | exact bz_rg _ | grind [rg]) (fun c25 => ?_) (fun c25 => ?_)
        · refine a_aload_n (pc := 32) ok dX0_mergeBelow_32 rfl ?_
          refine a_iload_n (pc := 33) ok dX0_mergeBelow_33 rfl ?_
          refine a_callVi (pc := 34) ok [0, 1, 2, 3, 4, 5, 6, 7] dX0_mergeBelow_34 mv0_74 miX0_takerOf (c_takerOf hd (hs0 c25).1 h2) ⟨by decide, by decide, rfl, rfl, Nat.zero_le _, Nat.zero_le _⟩ rfl rfl (Nat.le_of_ble_eq_true rfl) rfl (by decide) rfl rfl rfl ?_
          refine a_istore (pc := 37) ok dX0_mergeBelow_37 rfl (by rw [hN]; decide) ?_
          refine a_iload (pc := 39) ok dX0_mergeBelow_39 rfl ?_
          refine a_iconst (pc := 41) ok dX0_mergeBelow_41 ?_
          refine a_icmp_ne (pc := 42) (tgt := 46) ok dX0_mergeBelow_42 (by decide) (by first | (unfold rg; omega) | (have := htr c25; unfold rg; omega)) (by first | (unfold rg; omega) | (have := htr c25; unfold rg; omega)) (fun c42 => ?_) (fun c42 => ?_)
          · first
            | exact absurd rfl c42
            | exact AW.forget (body _ _ rfl c25 rfl (by omega) (by omega)) (by repeat' (first | exact trivial | refine ⟨rfl, ?_⟩))
          · exact a_vret (pc := 45) ok dX0_mergeBelow_45 (⟨rfl, by first | exact fin h2 (stay (by omega)).2 | (exfalso; have a := (tk_ex hd (hs0 c25).1 (hs0 c25).2 (by omega)).1.1; omega)⟩)
        · refine a_iconst (pc := 28) ok dX0_mergeBelow_28 ?_
          refine a_goto (pc := 29) (tgt := 37) ok dX0_mergeBelow_29 (by decide) ?_
          refine a_istore (pc := 37) ok dX0_mergeBelow_37 rfl (by rw [hN]; decide) ?_
          refine a_iload (pc := 39) ok dX0_mergeBelow_39 rfl ?_
          refine a_iconst (pc := 41) ok dX0_mergeBelow_41 ?_
          refine a_icmp_ne (pc := 42) (tgt := 46) ok dX0_mergeBelow_42 (by decide) (by first | (unfold rg; omega) | (have := htr c25; unfold rg; omega)) (by first | (unfold rg; omega) | (have := htr c25; unfold rg; omega)) (fun c42 => ?_) (fun c42 => ?_)
          · first
            | exact absurd rfl c42
            | exact AW.forget (body _ _ rfl c25 rfl (by omega) (by omega)) (by repeat' (first | exact trivial | refine ⟨rfl, ?_⟩))
          · exact a_vret (pc := 45) ok dX0_mergeBelow_45 (⟨rfl, by first | exact fin h2 (stay (by omega)).2 | (exfalso; have a := (tk_ex hd (hs0 c25).1 (hs0 c25).2 (by omega)).1.1; omega)⟩)
  have hI6 := hI.2.2.2.2.2
  subst hI6
  refine a_iconst (pc := 0) ok dX0_mergeBelow_0 ?_
  refine a_istore_n (pc := 1) ok dX0_mergeBelow_1 rfl (by rw [hN]; decide) ?_
  exact AW.cast (loop (0, B, F, S, Br, Q) ⟨by dsimp only; omega, hI, rfl⟩) rfl rfl rfl
end IS3
