/-! NEST: explored. -/
section NK
variable {l : Launch} {c r ct L : Int} {B F S Br Q Fo No b Ho Mo In Sn Qn : Int → Int}
/-- what is held of Nest's rows -/
def NI (c r : Int) (b Ho Mo In : Int → Int) : Prop := (∀ i, 0 ≤ i → i < mny c r b → Ho i = hoF c r b (fo c r b i) ∧ In i = inF c r b (fo c r b i)) ∧ (∀ i, mny c r b ≤ i → Ho i = 0) ∧ ∀ x, cel c r x → lw c r b x = x → Mo (rk c r b x) = moN c r b x (mny c r b).toNat
theorem small_ho (hd : dim c r) (h : siz c r b L < 8) : hoF c r b L = 0 ∧ inF c r b L = 0 ∧ ∀ x, cel c r x → lw c r b x = x → ¬ (x ≠ L ∧ inr c r b L x) := by
  have hc := dim_cells hd
  have key : ∀ j, cel c r j → lw c r b j ≠ L → ¬ inr c r b L j := fun j h1 h2 h3 => by have := siz_8 hd h1 h2 h3; omega
  refine ⟨cntK_none fun j hj => tr_f.mpr fun z => key j ⟨by omega, by omega⟩ z.1 z.2.2, cntK_none fun j hj => tr_f.mpr fun z => key j (rk_first z.1 (by omega)) (by rw [z.1]; exact z.2.1) z.2.2, fun x h1 h2 z => key x h1 (by rw [h2]; exact z.1) z.2⟩
theorem moN_t {x : Int} {i : Nat} (h : (fo c r b i ≠ x ∧ inr c r b (fo c r b i) x) ∧ (moN c r b x i = -1 ∨ siz c r b (fo c r b i) < siz c r b (fo c r b (moN c r b x i)))) : moN c r b x (i + 1) = i := by simp only [moN]; rw [if_pos (tr_t.mpr h)]
theorem moN_f {x : Int} {i : Nat} (h : ¬ ((fo c r b i ≠ x ∧ inr c r b (fo c r b i) x) ∧ (moN c r b x i = -1 ∨ siz c r b (fo c r b i) < siz c r b (fo c r b (moN c r b x i))))) : moN c r b x (i + 1) = moN c r b x i := by simp only [moN]; rw [if_neg (fun z => h (tr_t.mp z))]
theorem moN_upm {x : Int} {i : Nat} (hr : rk c r b (fo c r b i) = i) (h : x ≠ fo c r b i ∧ inr c r b (fo c r b i) x) : moN c r b x (i + 1) = upm c r b (fo c r b i) (moN c r b x i) := by
  unfold upm
  by_cases z : moN c r b x i = -1 ∨ siz c r b (fo c r b i) < siz c r b (fo c r b (moN c r b x i))
  · rw [if_pos z, moN_t ⟨⟨fun e => h.1 e.symm, h.2⟩, z⟩, hr]
  · rw [if_neg z, moN_f (fun y => z y.2)]
theorem dX2_explore_0 : decode cX2_explore 0 = .ok (.aload_n 0, 1) := by decide +kernel
theorem dX2_explore_1 : decode cX2_explore 1 = .ok (.getfield 9, 3) := by decide +kernel
theorem dX2_explore_4 : decode cX2_explore 4 = .ok (.iconst 0, 1) := by decide +kernel
theorem dX2_explore_5 : decode cX2_explore 5 = .ok (.invokestatic 27, 3) := by decide +kernel
theorem dX2_explore_8 : decode cX2_explore 8 = .ok (.aload_n 0, 1) := by decide +kernel
theorem dX2_explore_9 : decode cX2_explore 9 = .ok (.getfield 15, 3) := by decide +kernel
theorem dX2_explore_12 : decode cX2_explore 12 = .ok (.iconst (-1), 1) := by decide +kernel
theorem dX2_explore_13 : decode cX2_explore 13 = .ok (.invokestatic 27, 3) := by decide +kernel
theorem dX2_explore_16 : decode cX2_explore 16 = .ok (.aload_n 0, 1) := by decide +kernel
theorem dX2_explore_17 : decode cX2_explore 17 = .ok (.getfield 18, 3) := by decide +kernel
theorem dX2_explore_20 : decode cX2_explore 20 = .ok (.iconst 0, 1) := by decide +kernel
theorem dX2_explore_21 : decode cX2_explore 21 = .ok (.invokestatic 27, 3) := by decide +kernel
theorem dX2_explore_24 : decode cX2_explore 24 = .ok (.iconst 0, 1) := by decide +kernel
theorem dX2_explore_25 : decode cX2_explore 25 = .ok (.istore_n 2, 1) := by decide +kernel
theorem dX2_explore_26 : decode cX2_explore 26 = .ok (.iload_n 2, 1) := by decide +kernel
theorem dX2_explore_27 : decode cX2_explore 27 = .ok (.aload_n 1, 1) := by decide +kernel
theorem dX2_explore_28 : decode cX2_explore 28 = .ok (.getfield 33, 3) := by decide +kernel
theorem dX2_explore_31 : decode cX2_explore 31 = .ok (.if_icmp .ge 25, 3) := by decide +kernel
theorem dX2_explore_34 : decode cX2_explore 34 = .ok (.aload_n 1, 1) := by decide +kernel
theorem dX2_explore_35 : decode cX2_explore 35 = .ok (.iload_n 2, 1) := by decide +kernel
theorem dX2_explore_36 : decode cX2_explore 36 = .ok (.invokevirtual 39, 3) := by decide +kernel
theorem dX2_explore_39 : decode cX2_explore 39 = .ok (.bipush 8, 2) := by decide +kernel
theorem dX2_explore_41 : decode cX2_explore 41 = .ok (.if_icmp .lt 9, 3) := by decide +kernel
theorem dX2_explore_44 : decode cX2_explore 44 = .ok (.aload_n 0, 1) := by decide +kernel
theorem dX2_explore_45 : decode cX2_explore 45 = .ok (.aload_n 1, 1) := by decide +kernel
theorem dX2_explore_46 : decode cX2_explore 46 = .ok (.iload_n 2, 1) := by decide +kernel
theorem dX2_explore_47 : decode cX2_explore 47 = .ok (.invokevirtual 43, 3) := by decide +kernel
theorem dX2_explore_50 : decode cX2_explore 50 = .ok (.iinc 2 1, 3) := by decide +kernel
theorem dX2_explore_53 : decode cX2_explore 53 = .ok (.goto (-27), 3) := by decide +kernel
theorem dX2_explore_56 : decode cX2_explore 56 = .ok (.return_, 1) := by decide +kernel
theorem c_explore (hd : dim c r) (hI : IW c r b ct B F S Fo No) : Ct l yX2_explore cX2_explore 3 none rmX2_explore [.ref 0, .ref 6] (nsM Ho Mo In Sn Qn ++ isA 6 c r (c * r) ct B F S Br Q Fo No)
    (fun v M => v = none ∧ ∃ Ho' Mo' In' Sn' Qn' : Int → Int, M = nsM Ho' Mo' In' Sn' Qn' ++ isA 6 c r (c * r) ct B F S Br Q Fo No ∧ NI c r b Ho' Mo' In') := by
  refine Ct.of miX2_explore (Nat.le_of_ble_eq_true rfl) ?_
  intro X hXl hN ok
  refine AW.cast (L2 := [some (.ref 0), some (.ref 6), none]) ?_ rfl rfl rfl
  have hct := hI.2.2.2.2.2.2.1
  have hm := mny_1 (B := b) hd
  have loop : ∀ q : Nat × (Int → Int) × (Int → Int) × (Int → Int) × (Int → Int) × (Int → Int), ((q.1 : Int) ≤ mny c r b ∧ (∀ i : Int, 0 ≤ i → i < q.1 → q.2.1 i = hoF c r b (fo c r b i) ∧ q.2.2.2.1 i = inF c r b (fo c r b i)) ∧ (∀ i : Int, (q.1 : Int) ≤ i → q.2.1 i = 0 ∧ q.2.2.2.1 i = 0) ∧ ∀ x, cel c r x → lw c r b x = x → q.2.2.1 (rk c r b x) = moN c r b x q.1) →
      AW X 0 0 26 [some (.ref 0), some (.ref 6), some (iv q.1)] [] (nsM q.2.1 q.2.2.1 q.2.2.2.1 q.2.2.2.2.1 q.2.2.2.2.2 ++ isA 6 c r (c * r) ct B F S Br Q Fo No) := by
    refine wfl (fun q : Nat × (Int → Int) × (Int → Int) × (Int → Int) × (Int → Int) × (Int → Int) => 145 - q.1) _ _ ?_
    rintro ⟨k, Ho, Mo, In, Sn, Qn⟩ ⟨h1, h2, h3, h4⟩ ih
    dsimp only at h1 h2 h3 h4 ih ⊢
    by_cases hk : (k : Int) < mny c r b
    · obtain ⟨f1, f2, f3⟩ := fo_ok (b := b) hd (show (0 : Int) ≤ k by omega) hk
      have ek : ((k + 1 : Nat) : Int) = (k : Int) + 1 := by omega
      have hsz := siz_rg (B := b) hd (fo c r b k)
      have csz := c_size (l := X.1.2.1) (Br := Br) (Q := Q) hd f1 f2 hI
      have hMo : moOk c r b Mo := fun x a1 a2 => by rw [h4 x a1 a2]; have := moN_rg (c := c) (r := r) (b := b) x k; omega
      have cfh := c_findHoles (l := X.1.2.1) (Br := Br) (Q := Q) (Ho := Ho) (In := In) (Sn := Sn) (Qn := Qn) hd f1 f2 hI hMo
      rw [f3] at csz cfh
      have h3k := h3 k (by omega)
      have tk : ∀ Mo2 Sn2 Qn2 : Int → Int, (∀ x, cel c r x → lw c r b x = x → (x ≠ fo c r b k ∧ inr c r b (fo c r b k) x → Mo2 (rk c r b x) = upm c r b (fo c r b k) (Mo (rk c r b x))) ∧ (¬ (x ≠ fo c r b k ∧ inr c r b (fo c r b k) x) → Mo2 (rk c r b x) = Mo (rk c r b x))) → AW X 0 0 26 [some (.ref 0), some (.ref 6), some (iv (k + 1))] [] (nsM (up Ho k (hoF c r b (fo c r b k))) Mo2 (up In k (inF c r b (fo c r b k))) Sn2 Qn2 ++ isA 6 c r (c * r) ct B F S Br Q Fo No) := by
        intro Mo2 Sn2 Qn2 hMo2
        refine ih (k + 1, up Ho k (hoF c r b (fo c r b k)), Mo2, up In k (inF c r b (fo c r b k)), Sn2, Qn2) ⟨by dsimp only; omega, fun i a1 a2 => ?_, fun i a1 => ?_, fun x a1 a2 => ?_⟩ (by dsimp only; omega)
        · dsimp only at a2 ⊢
          by_cases e : i = k
          · subst e; rw [up_at, up_at]; exact ⟨rfl, rfl⟩
          · rw [up_ne e, up_ne e]; exact h2 i a1 (by omega)
        · dsimp only at a1 ⊢
          rw [up_ne (by omega), up_ne (by omega)]; exact h3 i (by omega)
        · dsimp only
          have hh := hMo2 x a1 a2
          by_cases z : x ≠ fo c r b k ∧ inr c r b (fo c r b k) x
          · rw [hh.1 z, h4 x a1 a2, moN_upm f3 z]
          · rw [hh.2 z, h4 x a1 a2, moN_f (fun y => z ⟨fun e => y.1.1 e.symm, y.1.2⟩)]
      have sk : siz c r b (fo c r b k) < 8 → AW X 0 0 26 [some (.ref 0), some (.ref 6), some (iv (k + 1))] [] (nsM Ho Mo In Sn Qn ++ isA 6 c r (c * r) ct B F S Br Q Fo No) := by
        intro hlt
        have hsm := small_ho hd hlt
        refine ih (k + 1, Ho, Mo, In, Sn, Qn) ⟨by dsimp only; omega, fun i a1 a2 => ?_, fun i a1 => ?_, fun x a1 a2 => ?_⟩ (by dsimp only; omega)
        · dsimp only at a2 ⊢
          by_cases e : i = k
          · subst e; rw [hsm.1, hsm.2.1]; exact h3k
          · exact h2 i a1 (by omega)
        · exact h3 i (by dsimp only at a1; omega)
        · dsimp only
          rw [h4 x a1 a2, moN_f (fun y => hsm.2.2 x a1 a2 ⟨fun e => y.1.1 e.symm, y.1.2⟩)]
      refine a_iload_n (pc := 26) ok dX2_explore_26 rfl ?_
      refine a_aload_n (pc := 27) ok dX2_explore_27 rfl ?_
      refine a_getf (pc := 28) ok dX2_explore_28 fl2_33 rfl rfl ?_
      refine a_icmp_ge (pc := 31) (tgt := 56) ok dX2_explore_31 (by decide) (by first | omega | (unfold rg; omega) | (simp only [rg] at *; omega) | exact bz_rg _ | grind [rg]) (by first | omega | (unfold rg; omega) | (simp only [rg] at *; omega) | exact bz_rg _ | grind [rg]) (fun c31 => ?_) (fun c31 => ?_)
      · exfalso; first | omega | grind
      · refine a_aload_n (pc := 34) ok dX2_explore_34 rfl ?_
        refine a_iload_n (pc := 35) ok dX2_explore_35 rfl ?_
        refine a_callVp (pc := 36) ok [6, 7, 8, 9, 10, 11, 12, 13] dX2_explore_36 mv2_39 miX0_size (csz) ⟨by decide, by decide, rfl, rfl, Nat.zero_le _, Nat.zero_le _⟩ rfl rfl (Nat.le_of_ble_eq_true rfl) rfl (by decide) rfl rfl ?_
        refine a_bipush (pc := 39) ok dX2_explore_39 (by decide) ?_
        refine a_icmp_lt (pc := 41) (tgt := 50) ok dX2_explore_41 (by decide) (by first | omega | (unfold rg; omega) | (simp only [rg] at *; omega) | exact bz_rg _ | grind [rg]) (by first | omega | (unfold rg; omega) | (simp only [rg] at *; omega) | exact bz_rg _ | grind [rg]) (fun c41 => ?_) (fun c41 => ?_)
        · refine a_iinc (pc := 50) ok dX2_explore_50 rfl rfl (by rw [hN]; decide) ?_
          refine a_goto (pc := 53) (tgt := 26) ok dX2_explore_53 (by decide) ?_
          first
          | exact sk c41
          | exact tk Mo2 Sn2 Qn2 hMo2
        · refine a_aload_n (pc := 44) ok dX2_explore_44 rfl ?_
          refine a_aload_n (pc := 45) ok dX2_explore_45 rfl ?_
          refine a_iload_n (pc := 46) ok dX2_explore_46 rfl ?_
          refine a_callV (pc := 47) ok [0, 1, 2, 3, 4, 5, 6, 7, 8, 9, 10, 11, 12, 13] dX2_explore_47 mv2_43 miX2_findHoles (cfh) ⟨by decide, by decide, rfl, rfl, Nat.zero_le _, Nat.zero_le _⟩ rfl rfl (Nat.le_of_ble_eq_true rfl) rfl (by decide) rfl rfl (fun v M' h => by obtain ⟨_, _, _, _, h, _⟩ := h; rw [h]; rfl) ?_
          rintro v M' ⟨rfl, Mo2, Sn2, Qn2, rfl, hMo2⟩
          rw [h3k.1, h3k.2, Int.zero_add, Int.zero_add]
          refine AW.cast (st2 := []) (M2 := nsM (up Ho k (hoF c r b (fo c r b k))) Mo2 (up In k (inF c r b (fo c r b k))) Sn2 Qn2 ++ isA 6 c r (c * r) ct B F S Br Q Fo No) ?_ rfl rfl rfl
          refine a_iinc (pc := 50) ok dX2_explore_50 rfl rfl (by rw [hN]; decide) ?_
          refine a_goto (pc := 53) (tgt := 26) ok dX2_explore_53 (by decide) ?_
          first
          | exact sk c41
          | exact tk Mo2 Sn2 Qn2 hMo2
    · have e : (k : Int) = mny c r b := by omega
      refine a_iload_n (pc := 26) ok dX2_explore_26 rfl ?_
      refine a_aload_n (pc := 27) ok dX2_explore_27 rfl ?_
      refine a_getf (pc := 28) ok dX2_explore_28 fl2_33 rfl rfl ?_
      refine a_icmp_ge (pc := 31) (tgt := 56) ok dX2_explore_31 (by decide) (by first | omega | (unfold rg; omega) | (simp only [rg] at *; omega) | exact bz_rg _ | grind [rg]) (by first | omega | (unfold rg; omega) | (simp only [rg] at *; omega) | exact bz_rg _ | grind [rg]) (fun c31 => ?_) (fun c31 => ?_)
      · exact a_vret (pc := 56) ok dX2_explore_56 (⟨rfl, Ho, Mo, In, Sn, Qn, rfl, fun i a1 a2 => h2 i a1 (by omega), fun i a1 => (h3 i (by omega)).1, fun x a1 a2 => by rw [h4 x a1 a2, ← e, Int.toNat_natCast]⟩)
      · exfalso; first | omega | grind
  refine a_aload_n (pc := 0) ok dX2_explore_0 rfl ?_
  refine a_getf (pc := 1) ok dX2_explore_1 fl2_9 rfl rfl ?_
  refine a_iconst (pc := 4) ok dX2_explore_4 ?_
  refine a_callSv (pc := 5) ok [1] dX2_explore_5 mv2_27 miAF_fill (c_fill (by omega)) ⟨by decide, by decide, rfl, rfl, Nat.zero_le _, Nat.zero_le _⟩ rfl rfl (Nat.le_of_ble_eq_true rfl) rfl (by decide) rfl ?_
  refine a_aload_n (pc := 8) ok dX2_explore_8 rfl ?_
  refine a_getf (pc := 9) ok dX2_explore_9 fl2_15 rfl rfl ?_
  refine a_iconst (pc := 12) ok dX2_explore_12 ?_
  refine a_callSv (pc := 13) ok [2] dX2_explore_13 mv2_27 miAF_fill (c_fill (by omega)) ⟨by decide, by decide, rfl, rfl, Nat.zero_le _, Nat.zero_le _⟩ rfl rfl (Nat.le_of_ble_eq_true rfl) rfl (by decide) rfl ?_
  refine a_aload_n (pc := 16) ok dX2_explore_16 rfl ?_
  refine a_getf (pc := 17) ok dX2_explore_17 fl2_18 rfl rfl ?_
  refine a_iconst (pc := 20) ok dX2_explore_20 ?_
  refine a_callSv (pc := 21) ok [3] dX2_explore_21 mv2_27 miAF_fill (c_fill (by omega)) ⟨by decide, by decide, rfl, rfl, Nat.zero_le _, Nat.zero_le _⟩ rfl rfl (Nat.le_of_ble_eq_true rfl) rfl (by decide) rfl ?_
  refine a_iconst (pc := 24) ok dX2_explore_24 ?_
  refine a_istore_n (pc := 25) ok dX2_explore_25 rfl (by rw [hN]; decide) ?_
  exact AW.cast (loop (0, (fun _ => 0), (fun _ => -1), (fun _ => 0), Sn, Qn) ⟨by dsimp only; omega, fun i a1 a2 => by dsimp only at a2; omega, fun i _ => ⟨rfl, rfl⟩, fun x _ _ => rfl⟩) rfl rfl rfl
/-- all holes -/
noncomputable def ahF (c r : Int) (b : Int → Int) : Int := sumK (fun i => hoF c r b (fo c r b i)) (mny c r b).toNat
theorem hoF_rg (hd : dim c r) (L : Int) : 0 ≤ hoF c r b L ∧ hoF c r b L ≤ 144 := by
  have hc := dim_cells hd
  have := cntK_rg (fun j => tr (lw c r b j ≠ L ∧ hlw c r b L j = j ∧ inr c r b L j)) (c * r).toNat
  unfold hoF hoK; omega
theorem ahF_all (hd : dim c r) (hNI : NI c r b Ho Mo In) : ∀ k : Nat, (mny c r b).toNat ≤ k → sumK Ho k = ahF c r b := by
  have hm := mny_1 (B := b) hd
  intro k hk
  induction k with
  | zero => omega
  | succ k ih =>
    by_cases e : (mny c r b).toNat = k + 1
    · unfold ahF; rw [e]; exact sumK_congr _ fun j hj => (hNI.1 j (by omega) (by omega)).1
    · simp only [sumK]; rw [ih (by omega), hNI.2.1 k (by omega), Int.add_zero]
theorem dX2_allHoles_0 : decode cX2_allHoles 0 = .ok (.iconst 0, 1) := by decide +kernel
theorem dX2_allHoles_1 : decode cX2_allHoles 1 = .ok (.istore_n 1, 1) := by decide +kernel
theorem dX2_allHoles_2 : decode cX2_allHoles 2 = .ok (.iconst 0, 1) := by decide +kernel
theorem dX2_allHoles_3 : decode cX2_allHoles 3 = .ok (.istore_n 2, 1) := by decide +kernel
theorem dX2_allHoles_4 : decode cX2_allHoles 4 = .ok (.iload_n 2, 1) := by decide +kernel
theorem dX2_allHoles_5 : decode cX2_allHoles 5 = .ok (.sipush 144, 3) := by decide +kernel
theorem dX2_allHoles_8 : decode cX2_allHoles 8 = .ok (.if_icmp .ge 18, 3) := by decide +kernel
theorem dX2_allHoles_11 : decode cX2_allHoles 11 = .ok (.iload_n 1, 1) := by decide +kernel
theorem dX2_allHoles_12 : decode cX2_allHoles 12 = .ok (.aload_n 0, 1) := by decide +kernel
theorem dX2_allHoles_13 : decode cX2_allHoles 13 = .ok (.getfield 9, 3) := by decide +kernel
theorem dX2_allHoles_16 : decode cX2_allHoles 16 = .ok (.iload_n 2, 1) := by decide +kernel
theorem dX2_allHoles_17 : decode cX2_allHoles 17 = .ok (.iaload, 1) := by decide +kernel
theorem dX2_allHoles_18 : decode cX2_allHoles 18 = .ok (.iadd, 1) := by decide +kernel
theorem dX2_allHoles_19 : decode cX2_allHoles 19 = .ok (.istore_n 1, 1) := by decide +kernel
theorem dX2_allHoles_20 : decode cX2_allHoles 20 = .ok (.iinc 2 1, 3) := by decide +kernel
theorem dX2_allHoles_23 : decode cX2_allHoles 23 = .ok (.goto (-19), 3) := by decide +kernel
theorem dX2_allHoles_26 : decode cX2_allHoles 26 = .ok (.iload_n 1, 1) := by decide +kernel
theorem dX2_allHoles_27 : decode cX2_allHoles 27 = .ok (.ireturn, 1) := by decide +kernel
theorem c_allHoles (hd : dim c r) (hNI : NI c r b Ho Mo In) : Cd l yX2_allHoles cX2_allHoles 3 (some .int) rmX2_allHoles [.ref 0] (nsM Ho Mo In Sn Qn) (some (iv (ahF c r b))) (nsM Ho Mo In Sn Qn) := by
  refine Ct.of miX2_allHoles (Nat.le_of_ble_eq_true rfl) ?_
  intro X hXl hN ok
  refine AW.cast (L2 := [some (.ref 0), none, none]) ?_ rfl rfl rfl
  have hm := mny_1 (B := b) hd
  have loop : ∀ k : Nat, k ≤ 144 → AW X 0 0 4 [some (.ref 0), some (iv (sumK Ho k)), some (iv k)] [] (nsM Ho Mo In Sn Qn) := by
    refine wfl (fun k : Nat => 145 - k) _ _ ?_
    intro k hk ih
    refine a_iload_n (pc := 4) ok dX2_allHoles_4 rfl ?_
    refine a_sipush (pc := 5) ok dX2_allHoles_5 (by decide) ?_
    refine a_icmp_ge (pc := 8) (tgt := 26) ok dX2_allHoles_8 (by decide) (by first | omega | (unfold rg; omega) | (simp only [rg] at *; omega) | exact bz_rg _ | grind [rg]) (by first | omega | (unfold rg; omega) | (simp only [rg] at *; omega) | exact bz_rg _ | grind [rg]) (fun c8 => ?_) (fun c8 => ?_)
    · refine a_iload_n (pc := 26) ok dX2_allHoles_26 rfl ?_
      exact a_iret (pc := 27) ok dX2_allHoles_27 (⟨by rw [ahF_all hd hNI k (by omega)], rfl⟩)
    · refine a_iload_n (pc := 11) ok dX2_allHoles_11 rfl ?_
      refine a_aload_n (pc := 12) ok dX2_allHoles_12 rfl ?_
      refine a_getf (pc := 13) ok dX2_allHoles_13 fl2_9 rfl rfl ?_
      refine a_iload_n (pc := 16) ok dX2_allHoles_16 rfl ?_
      refine a_iald (pc := 17) ok dX2_allHoles_17 rfl (by first | decide | omega) (by first | omega | (unfold rg; omega) | (simp only [rg] at *; omega) | exact bz_rg _ | grind [rg]) ?_
      refine a_iadd (pc := 18) ok dX2_allHoles_18 ?_
      refine a_istore_n (pc := 19) ok dX2_allHoles_19 rfl (by rw [hN]; decide) ?_
      refine a_iinc (pc := 20) ok dX2_allHoles_20 rfl rfl (by rw [hN]; decide) ?_
      refine a_goto (pc := 23) (tgt := 4) ok dX2_allHoles_23 (by decide) ?_
      exact AW.cast (ih (k + 1) (by omega) (by omega)) rfl rfl rfl
  refine a_iconst (pc := 0) ok dX2_allHoles_0 ?_
  refine a_istore_n (pc := 1) ok dX2_allHoles_1 rfl (by rw [hN]; decide) ?_
  refine a_iconst (pc := 2) ok dX2_allHoles_2 ?_
  refine a_istore_n (pc := 3) ok dX2_allHoles_3 rfl (by rw [hN]; decide) ?_
  exact AW.cast (loop 0 (by omega)) rfl rfl rfl
end NK
