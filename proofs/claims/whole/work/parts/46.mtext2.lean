/-! MODEL's text: a cell, a box, commands, the whole. -/
section TM2
variable {l : Launch} {rf sz : Int} {S : St} {ac : Int} {B I : Int → Int} {m : Int} {Fi Co Br Wt mk gy : Int → Int} {sd rt lf wy sp ou : Int} {tx : Int → Int}
theorem c_figuresR {k p a lo hi v s2 : Int} {i : Nat} (hn : 0 ≤ sz ∧ sz ≤ 120) (ht : ∀ j, 0 ≤ tx j ∧ tx j ≤ 255) (hsp : 0 ≤ sp ∧ sp ≤ 300) (hq : fq tx sz k p i = (a, sp)) (hr : fq tx sz k p (i + 1) = (v, s2)) (hlo : lo = loO k) (hhi : hi = hiO k i) (ha : rg a) : Cd l yX7_figures cX7_figures 8 (some .int) rmX7_figures [.ref 0, iv a, iv lo, iv hi] (mtM rf sz S ac B I m Fi Co Br Wt mk gy sd rt lf wy sp ou tx) (some (iv v)) (mtM rf sz S ac B I m Fi Co Br Wt mk gy sd rt lf wy (s2) ou tx) := by
  have h := c_figures (l := l) (rf := rf) (sz := sz) (S := S) (ac := ac) (B := B) (I := I) (m := m) (Fi := Fi) (Co := Co) (Br := Br) (Wt := Wt) (mk := mk) (gy := gy) (sd := sd) (rt := rt) (lf := lf) (wy := wy) (sp := sp) (ou := ou) (tx := tx) hn ht hsp hq hlo hhi ha
  rw [hr] at h
  exact h
section
variable {t : Int → Int} {n k p : Int}
theorem dBad_le {i : Nat} (h : dBad t n k p (i + 1) = -1) : dBad t n k p i = -1 := by
  rw [dBad_s] at h
  by_cases z : dBad t n k p i = -1
  · exact z
  · rw [if_neg z] at h; exact h
theorem dBad_mono {i j : Nat} (hij : i ≤ j) (h : dBad t n k p j = -1) : dBad t n k p i = -1 := by
  induction j with
  | zero => rw [show i = 0 by omega]; exact h
  | succ j ih =>
    by_cases e : i = j + 1
    · rw [e]; exact h
    · exact ih (by omega) (dBad_le h)
theorem dBad_rg (m : Nat) : -1 ≤ dBad t n k p m ∧ dBad t n k p m < 2 * m := by
  have := fstK_rg (fun j => tr (¬ dOk t n k p j)) (2 * m)
  unfold dBad; omega
theorem fq_good (hn : n ≤ 120) (hp : 0 ≤ p) {m : Nat} (h : dBad t n k p m = -1) (i : Nat) (hi : i < m) (q : Int) (hq : q = p + 1 + 2 * i) : fq t n k p (i + 1) = (nmA t n q, q + 2) ∧ loO k ≤ nmA t n q ∧ nmA t n q ≤ hiO k i := by
  have h1 := (fq_spec (t := t) (k := k) hn hp (i + 1)).1 (dBad_mono (by omega) h)
  subst hq
  exact ⟨Prod.ext (h1.2.2.2 i (by omega)) (by rw [h1.1]; omega), h1.2.2.1 i (by omega)⟩
theorem fq_rg (i : Nat) : -1 ≤ (fq t n k p i).1 ∧ (fq t n k p i).1 ≤ 99 ∧ p + 1 ≤ (fq t n k p i).2 ∧ (fq t n k p i).2 ≤ p + 1 + 2 * i := by
  induction i with
  | zero => show -1 ≤ (0 : Int) ∧ (0 : Int) ≤ 99 ∧ p + 1 ≤ p + 1 ∧ p + 1 ≤ p + 1 + 2 * ((0 : Nat) : Int); omega
  | succ i ih =>
    simp only [fq]
    split
    · omega
    · have hl := loO_rg k
      have hh := hiO_rg k i
      have hv : -1 ≤ fV t n (fq t n k p i).2 (loO k) (hiO k i) ∧ fV t n (fq t n k p i).2 (loO k) (hiO k i) ≤ 99 := by
        unfold fV
        split
        · rename_i z; have := z.2.2.2; omega
        · omega
      have hP : (fq t n k p i).2 ≤ fP t n (fq t n k p i).2 (loO k) (hiO k i) ∧ fP t n (fq t n k p i).2 (loO k) (hiO k i) ≤ (fq t n k p i).2 + 2 := by
        unfold fP; repeat' split
        all_goals omega
      dsimp only; omega
theorem fq_bad (hn : n ≤ 120) (hp : 0 ≤ p) {m : Nat} (h : dBad t n k p m ≠ -1) : fq t n k p m = (-1, p + 1 + dBad t n k p m) := by
  have h1 := (fq_spec (t := t) (k := k) hn hp m).2 h
  exact Prod.ext h1.1 h1.2
/-- what a word does, and whether it would throw nothing -/
def exW (t : Int → Int) (n p : Int) (S : St) : St :=
  if sg t n p = 112 then stP S (nmA t n (p + 1)) (nmA t n (p + 3)) (nmA t n (p + 5))
  else if sg t n p = 98 then stB S (nmA t n (p + 1)) (nmA t n (p + 3)) (nmA t n (p + 5)) (nmA t n (p + 7)) (nmA t n (p + 9))
  else if sg t n p = 116 then stT S (nmA t n (p + 1)) 1
  else if sg t n p = 107 then stT S (nmA t n (p + 1)) 0
  else if sg t n p = 109 then stL S (nmA t n (p + 1))
  else if sg t n p = 115 then stQ S (nmA t n (p + 1))
  else if sg t n p = 117 then gU S else gI S
def okZ (t : Int → Int) (n p : Int) (S : St) : Int :=
  if sg t n p = 112 then bz (kP S (nmA t n (p + 1)) (nmA t n (p + 3)) (nmA t n (p + 5)))
  else if sg t n p = 98 then bz (kB S (nmA t n (p + 1)) (nmA t n (p + 3)) (nmA t n (p + 5)) (nmA t n (p + 7)) (nmA t n (p + 9)))
  else if sg t n p = 116 then bz (kT S (nmA t n (p + 1)) 1)
  else if sg t n p = 107 then bz (kT S (nmA t n (p + 1)) 0)
  else if sg t n p = 109 then bz (1 ≤ nmA t n (p + 1) ∧ nmA t n (p + 1) ≤ 30)
  else if sg t n p = 115 then bz (1 ≤ nmA t n (p + 1) ∧ nmA t n (p + 1) ≤ 49)
  else 1
theorem SV_exW (h : SV S) : SV (exW t n p S) := by
  unfold exW
  repeat' split
  all_goals first | exact SV_stP h | exact SV_stB h | exact SV_stT h | exact SV_stL h | exact SV_stQ h | exact SV_gU h | exact SV_gI h
theorem bz_01 (q : Prop) [Decidable q] : bz q = 0 ∨ bz q = 1 := by unfold bz; split <;> simp
theorem okZ_01 : okZ t n p S = 0 ∨ okZ t n p S = 1 := by
  unfold okZ
  repeat' split
  all_goals first | exact bz_01 _ | exact Or.inr rfl
end
theorem dX7_readCell_0 : decode cX7_readCell 0 = .ok (.aload_n 0, 1) := by decide +kernel
theorem dX7_readCell_1 : decode cX7_readCell 1 = .ok (.iconst 0, 1) := by decide +kernel
theorem dX7_readCell_2 : decode cX7_readCell 2 = .ok (.iconst 0, 1) := by decide +kernel
theorem dX7_readCell_3 : decode cX7_readCell 3 = .ok (.bipush 11, 2) := by decide +kernel
theorem dX7_readCell_5 : decode cX7_readCell 5 = .ok (.invokevirtual 204, 3) := by decide +kernel
theorem dX7_readCell_8 : decode cX7_readCell 8 = .ok (.istore_n 2, 1) := by decide +kernel
theorem dX7_readCell_9 : decode cX7_readCell 9 = .ok (.aload_n 0, 1) := by decide +kernel
theorem dX7_readCell_10 : decode cX7_readCell 10 = .ok (.iload_n 2, 1) := by decide +kernel
theorem dX7_readCell_11 : decode cX7_readCell 11 = .ok (.iconst 0, 1) := by decide +kernel
theorem dX7_readCell_12 : decode cX7_readCell 12 = .ok (.bipush 11, 2) := by decide +kernel
theorem dX7_readCell_14 : decode cX7_readCell 14 = .ok (.invokevirtual 204, 3) := by decide +kernel
theorem dX7_readCell_17 : decode cX7_readCell 17 = .ok (.istore_n 3, 1) := by decide +kernel
theorem dX7_readCell_18 : decode cX7_readCell 18 = .ok (.aload_n 0, 1) := by decide +kernel
theorem dX7_readCell_19 : decode cX7_readCell 19 = .ok (.iload_n 3, 1) := by decide +kernel
theorem dX7_readCell_20 : decode cX7_readCell 20 = .ok (.iconst 0, 1) := by decide +kernel
theorem dX7_readCell_21 : decode cX7_readCell 21 = .ok (.bipush 99, 2) := by decide +kernel
theorem dX7_readCell_23 : decode cX7_readCell 23 = .ok (.invokevirtual 204, 3) := by decide +kernel
theorem dX7_readCell_26 : decode cX7_readCell 26 = .ok (.istore 4, 2) := by decide +kernel
theorem dX7_readCell_28 : decode cX7_readCell 28 = .ok (.iload 4, 2) := by decide +kernel
theorem dX7_readCell_30 : decode cX7_readCell 30 = .ok (.iconst (-1), 1) := by decide +kernel
theorem dX7_readCell_31 : decode cX7_readCell 31 = .ok (.if_icmp .eq 50, 3) := by decide +kernel
theorem dX7_readCell_34 : decode cX7_readCell 34 = .ok (.aload_n 0, 1) := by decide +kernel
theorem dX7_readCell_35 : decode cX7_readCell 35 = .ok (.aload_n 1, 1) := by decide +kernel
theorem dX7_readCell_36 : decode cX7_readCell 36 = .ok (.iload_n 2, 1) := by decide +kernel
theorem dX7_readCell_37 : decode cX7_readCell 37 = .ok (.invokestatic 122, 3) := by decide +kernel
theorem dX7_readCell_40 : decode cX7_readCell 40 = .ok (.ifCond .eq 30, 3) := by decide +kernel
theorem dX7_readCell_43 : decode cX7_readCell 43 = .ok (.aload_n 1, 1) := by decide +kernel
theorem dX7_readCell_44 : decode cX7_readCell 44 = .ok (.iload_n 3, 1) := by decide +kernel
theorem dX7_readCell_45 : decode cX7_readCell 45 = .ok (.invokestatic 126, 3) := by decide +kernel
theorem dX7_readCell_48 : decode cX7_readCell 48 = .ok (.ifCond .eq 22, 3) := by decide +kernel
theorem dX7_readCell_51 : decode cX7_readCell 51 = .ok (.aload_n 1, 1) := by decide +kernel
theorem dX7_readCell_52 : decode cX7_readCell 52 = .ok (.aload_n 1, 1) := by decide +kernel
theorem dX7_readCell_53 : decode cX7_readCell 53 = .ok (.iload_n 2, 1) := by decide +kernel
theorem dX7_readCell_54 : decode cX7_readCell 54 = .ok (.iload_n 3, 1) := by decide +kernel
theorem dX7_readCell_55 : decode cX7_readCell 55 = .ok (.invokestatic 129, 3) := by decide +kernel
theorem dX7_readCell_58 : decode cX7_readCell 58 = .ok (.iload 4, 2) := by decide +kernel
theorem dX7_readCell_60 : decode cX7_readCell 60 = .ok (.invokestatic 158, 3) := by decide +kernel
theorem dX7_readCell_63 : decode cX7_readCell 63 = .ok (.ifCond .lt 7, 3) := by decide +kernel
theorem dX7_readCell_66 : decode cX7_readCell 66 = .ok (.iconst 1, 1) := by decide +kernel
theorem dX7_readCell_67 : decode cX7_readCell 67 = .ok (.goto 4, 3) := by decide +kernel
theorem dX7_readCell_70 : decode cX7_readCell 70 = .ok (.iconst 0, 1) := by decide +kernel
theorem dX7_readCell_71 : decode cX7_readCell 71 = .ok (.invokevirtual 216, 3) := by decide +kernel
theorem dX7_readCell_74 : decode cX7_readCell 74 = .ok (.ifCond .eq 7, 3) := by decide +kernel
theorem dX7_readCell_77 : decode cX7_readCell 77 = .ok (.iconst 1, 1) := by decide +kernel
theorem dX7_readCell_78 : decode cX7_readCell 78 = .ok (.goto 4, 3) := by decide +kernel
theorem dX7_readCell_81 : decode cX7_readCell 81 = .ok (.iconst 0, 1) := by decide +kernel
theorem dX7_readCell_82 : decode cX7_readCell 82 = .ok (.ireturn, 1) := by decide +kernel
theorem c_readCell {p : Int} (hn : 0 ≤ sz ∧ sz ≤ 120) (ht : ∀ j, 0 ≤ tx j ∧ tx j ≤ 255) (hp : 0 ≤ p ∧ p < sz) (hS : SV S) : Cd l yX7_readCell cX7_readCell 5 (some .boolean) rmX7_readCell [.ref 0, .ref 1] (mtM rf sz S ac B I m Fi Co Br Wt mk gy sd rt lf wy (p + 1) ou tx) (some (iv (bz (dBad tx sz 112 p 3 = -1))))
    (mtM rf sz (if dBad tx sz 112 p 3 = -1 then stP S (nmA tx sz (p + 1)) (nmA tx sz (p + 3)) (nmA tx sz (p + 5)) else S) ac B I m Fi Co Br Wt mk gy sd rt lf wy (if dBad tx sz 112 p 3 = -1 then p + 7 else p + 1 + dBad tx sz 112 p 3) (if dBad tx sz 112 p 3 = -1 then ou + (1 - bz (kP S (nmA tx sz (p + 1)) (nmA tx sz (p + 3)) (nmA tx sz (p + 5)))) else ou) tx) := by
  refine Ct.of miX7_readCell (Nat.le_of_ble_eq_true rfl) ?_
  intro X hXl hN ok
  refine AW.cast (L2 := [some (.ref 0), some (.ref 1), none, none, none]) ?_ rfl rfl rfl
  obtain ⟨hd, hG, hT, hs, hnn, hle⟩ := id hS
  by_cases hb : dBad tx sz 112 p 3 = -1
  · rw [if_pos hb, if_pos hb, if_pos hb, bz_pos hb] at ok
    have g0 := fq_good hn.2 hp.1 hb 0 (by omega) (p + 1) (by omega)
    have g1 := fq_good hn.2 hp.1 hb 1 (by omega) (p + 3) (by omega)
    have g2 := fq_good hn.2 hp.1 hb 2 (by omega) (p + 5) (by omega)
    obtain ⟨x, ex⟩ : ∃ x, x = nmA tx sz (p + 1) := ⟨_, rfl⟩
    obtain ⟨y, ey⟩ : ∃ x, x = nmA tx sz (p + 3) := ⟨_, rfl⟩
    obtain ⟨g, eg⟩ : ∃ x, x = nmA tx sz (p + 5) := ⟨_, rfl⟩
    rw [← ex] at g0 ok
    rw [← ey] at g1 ok
    rw [← eg] at g2 ok
    have l0 : loO 112 = 0 := rfl
    have h0 : hiO 112 ((0 : Nat) : Int) = 11 := rfl
    have h1 : hiO 112 ((1 : Nat) : Int) = 11 := rfl
    have h2 : hiO 112 ((2 : Nat) : Int) = 99 := rfl
    have k0 := g0.2
    have k1 := g1.2
    have k2 := g2.2
    rw [l0, h0] at k0
    rw [l0, h1] at k1
    rw [l0, h2] at k2
    have hc := dim_cells hd
    have hGk := hG (y * sC S + x)
    have fin : ∀ z : Int, z = bz (kP S x y g) → ∀ u v w : Option Value, AW X 0 0 71 [some (.ref 0), some (.ref 1), u, v, w] [iv z, .ref 0] (mtM rf sz (stP S x y g) ac B I m Fi Co Br Wt mk gy sd rt lf wy (p + 7) ou tx) := by
      intro z hz u v w
      subst hz
      refine x_callVi (pc := 71) ok [0, 1, 2, 3, 4, 5, 6, 7, 8, 9, 10, 11, 12, 13, 14, 15, 16] 11 dX7_readCell_71 mv7_216 miX7_done (c_done (bz_01 _)) ⟨by decide, by decide, rfl, rfl, Nat.zero_le _, Nat.zero_le _⟩ rfl rfl (Nat.le_of_ble_eq_true rfl) rfl rfl (by decide) rfl rfl rfl ?_
      refine a_if_eq (pc := 74) (tgt := 81) ok dX7_readCell_74 (by decide) (by first | omega | (unfold rg; omega) | (simp only [rg] at *; omega) | exact bz_rg _ | grind [rg]) (fun c74 => ?_) (fun c74 => ?_)
      · exfalso; first | omega | grind
      · refine a_iconst (pc := 77) ok dX7_readCell_77 ?_
        refine a_goto (pc := 78) (tgt := 82) ok dX7_readCell_78 (by decide) ?_
        exact a_zret (pc := 82) ok dX7_readCell_82 (by first | rfl | exact nb_bz _ | exact @nb_bz _ (Classical.propDecidable _) | decide) (⟨rfl, rfl⟩)
    have hcel : 0 ≤ x ∧ x < sC S → 0 ≤ y ∧ y < sR S → 0 ≤ y * sC S + x ∧ y * sC S + x < 144 := fun a d => by have := xy_cel hd a d; have e := this.1; have f := this.2; omega
    have st1 : kP S x y g → stP S x y g = gP S x y g := fun z => if_pos z
    have st2 : ¬ kP S x y g → stP S x y g = S := fun z => if_neg z
    refine a_aload_n (pc := 0) ok dX7_readCell_0 rfl ?_
    refine a_iconst (pc := 1) ok dX7_readCell_1 ?_
    refine a_iconst (pc := 2) ok dX7_readCell_2 ?_
    refine a_bipush (pc := 3) ok dX7_readCell_3 (by decide) ?_
    refine x_callVi (pc := 5) ok [0, 1, 2, 3, 4, 5, 6, 7, 8, 9, 10, 11, 12, 13, 14, 15, 16] 11 dX7_readCell_5 mv7_204 miX7_figures (c_figuresR hn ht (by omega) (show fq tx sz 112 p 0 = (0, p + 1) from rfl) g0.1 rfl rfl (by unfold rg; omega)) ⟨by decide, by decide, rfl, rfl, Nat.zero_le _, Nat.zero_le _⟩ rfl rfl (Nat.le_of_ble_eq_true rfl) rfl rfl (by decide) rfl rfl rfl ?_
    refine a_istore_n (pc := 8) ok dX7_readCell_8 rfl (by rw [hN]; decide) ?_
    refine a_aload_n (pc := 9) ok dX7_readCell_9 rfl ?_
    refine a_iload_n (pc := 10) ok dX7_readCell_10 rfl ?_
    refine a_iconst (pc := 11) ok dX7_readCell_11 ?_
    refine a_bipush (pc := 12) ok dX7_readCell_12 (by decide) ?_
    refine x_callVi (pc := 14) ok [0, 1, 2, 3, 4, 5, 6, 7, 8, 9, 10, 11, 12, 13, 14, 15, 16] 11 dX7_readCell_14 mv7_204 miX7_figures (c_figuresR hn ht (by omega) (by rw [g0.1, show p + 1 + 2 = p + 3 by omega]) g1.1 rfl rfl (by unfold rg; omega)) ⟨by decide, by decide, rfl, rfl, Nat.zero_le _, Nat.zero_le _⟩ rfl rfl (Nat.le_of_ble_eq_true rfl) rfl rfl (by decide) rfl rfl rfl ?_
    refine a_istore_n (pc := 17) ok dX7_readCell_17 rfl (by rw [hN]; decide) ?_
    refine a_aload_n (pc := 18) ok dX7_readCell_18 rfl ?_
    refine a_iload_n (pc := 19) ok dX7_readCell_19 rfl ?_
    refine a_iconst (pc := 20) ok dX7_readCell_20 ?_
    refine a_bipush (pc := 21) ok dX7_readCell_21 (by decide) ?_
    refine x_callVi (pc := 23) ok [0, 1, 2, 3, 4, 5, 6, 7, 8, 9, 10, 11, 12, 13, 14, 15, 16] 11 dX7_readCell_23 mv7_204 miX7_figures (c_figuresR hn ht (by omega) (by rw [g1.1, show p + 3 + 2 = p + 5 by omega]) g2.1 rfl rfl (by unfold rg; omega)) ⟨by decide, by decide, rfl, rfl, Nat.zero_le _, Nat.zero_le _⟩ rfl rfl (Nat.le_of_ble_eq_true rfl) rfl rfl (by decide) rfl rfl rfl ?_
    refine a_istore (pc := 26) ok dX7_readCell_26 rfl (by rw [hN]; decide) ?_
    refine a_iload (pc := 28) ok dX7_readCell_28 rfl ?_
    refine a_iconst (pc := 30) ok dX7_readCell_30 ?_
    refine a_icmp_eq (pc := 31) (tgt := 81) ok dX7_readCell_31 (by decide) (by first | omega | (unfold rg; omega) | (simp only [rg] at *; omega) | exact bz_rg _ | grind [rg]) (by first | omega | (unfold rg; omega) | (simp only [rg] at *; omega) | exact bz_rg _ | grind [rg]) (fun c31 => ?_) (fun c31 => ?_)
    · omega
    · refine a_aload_n (pc := 34) ok dX7_readCell_34 rfl ?_
      refine a_aload_n (pc := 35) ok dX7_readCell_35 rfl ?_
      refine a_iload_n (pc := 36) ok dX7_readCell_36 rfl ?_
      refine a_callSp (pc := 37) ok [1] dX7_readCell_37 mv7_122 miX7_isColumn (c_isColumn hd (by unfold rg; omega)) ⟨by decide, by decide, rfl, rfl, Nat.zero_le _, Nat.zero_le _⟩ rfl rfl (Nat.le_of_ble_eq_true rfl) rfl (by decide) ?_
      refine a_if_eq (pc := 40) (tgt := 70) ok dX7_readCell_40 (by decide) (by exact bz_rg _) (fun c40 => ?_) (fun c40 => ?_)
      · refine a_iconst (pc := 70) ok dX7_readCell_70 ?_
        have nk : ¬ kP S x y g := fun z => by rw [bz_pos ⟨z.1.1, z.1.2.1⟩] at c40; exact absurd c40 (by decide)
        exact AW.cast (fin 0 (bz_neg nk).symm _ _ _) rfl rfl (by rw [st2 nk, show p + 7 = p + 5 + 2 by omega]; rfl)
      · refine a_aload_n (pc := 43) ok dX7_readCell_43 rfl ?_
        refine a_iload_n (pc := 44) ok dX7_readCell_44 rfl ?_
        refine a_callSp (pc := 45) ok [1] dX7_readCell_45 mv7_126 miX7_isRow (c_isRow hd (by unfold rg; omega)) ⟨by decide, by decide, rfl, rfl, Nat.zero_le _, Nat.zero_le _⟩ rfl rfl (Nat.le_of_ble_eq_true rfl) rfl (by decide) ?_
        refine a_if_eq (pc := 48) (tgt := 70) ok dX7_readCell_48 (by decide) (by exact bz_rg _) (fun c48 => ?_) (fun c48 => ?_)
        · refine a_iconst (pc := 70) ok dX7_readCell_70 ?_
          have nk : ¬ kP S x y g := fun z => by rw [bz_pos ⟨z.1.2.2.1, z.1.2.2.2⟩] at c48; exact absurd c48 (by decide)
          exact AW.cast (fin 0 (bz_neg nk).symm _ _ _) rfl rfl (by rw [st2 nk, show p + 7 = p + 5 + 2 by omega]; rfl)
        · have q1 : 0 ≤ x ∧ x < sC S := Classical.byContradiction fun z => c40 (bz_neg z)
          have q2 : 0 ≤ y ∧ y < sR S := Classical.byContradiction fun z => c48 (bz_neg z)
          have q3 := hcel q1 q2
          have q4 : kP S x y g := ⟨⟨q1.1, q1.2, q2.1, q2.2⟩, by omega, by omega⟩
          refine a_aload_n (pc := 51) ok dX7_readCell_51 rfl ?_
          refine a_aload_n (pc := 52) ok dX7_readCell_52 rfl ?_
          refine a_iload_n (pc := 53) ok dX7_readCell_53 rfl ?_
          refine a_iload_n (pc := 54) ok dX7_readCell_54 rfl ?_
          refine a_callSp (pc := 55) ok [1] dX7_readCell_55 mv7_129 miX7_at (c_at) ⟨by decide, by decide, rfl, rfl, Nat.zero_le _, Nat.zero_le _⟩ rfl rfl (Nat.le_of_ble_eq_true rfl) rfl (by decide) ?_
          refine a_iload (pc := 58) ok dX7_readCell_58 rfl ?_
          refine a_callSi (pc := 60) ok [1] dX7_readCell_60 mv7_158 miX7_cellOn (c_cellOn q3) ⟨by decide, by decide, rfl, rfl, Nat.zero_le _, Nat.zero_le _⟩ rfl rfl (Nat.le_of_ble_eq_true rfl) rfl (by decide) rfl ?_
          refine a_if_lt (pc := 63) (tgt := 70) ok dX7_readCell_63 (by decide) (by unfold rg; omega) (fun c63 => ?_) (fun c63 => ?_)
          · omega
          · refine a_iconst (pc := 66) ok dX7_readCell_66 ?_
            refine a_goto (pc := 67) (tgt := 71) ok dX7_readCell_67 (by decide) ?_
            exact AW.cast (fin 1 (bz_pos q4).symm _ _ _) rfl rfl (by rw [st1 q4, show p + 7 = p + 5 + 2 by omega]; rfl)
  · rw [if_neg hb, if_neg hb, if_neg hb, bz_neg hb] at ok
    have g3 := fq_bad hn.2 hp.1 hb
    have r1 := fq_rg (t := tx) (n := sz) (k := 112) (p := p) 1
    have r2 := fq_rg (t := tx) (n := sz) (k := 112) (p := p) 2
    obtain ⟨⟨v1, s1⟩, g1⟩ : ∃ q, q = fq tx sz 112 p 1 := ⟨_, rfl⟩
    obtain ⟨⟨v2, s2⟩, g2⟩ : ∃ q, q = fq tx sz 112 p 2 := ⟨_, rfl⟩
    rw [← g1] at r1
    rw [← g2] at r2
    dsimp only at r1 r2
    refine a_aload_n (pc := 0) ok dX7_readCell_0 rfl ?_
    refine a_iconst (pc := 1) ok dX7_readCell_1 ?_
    refine a_iconst (pc := 2) ok dX7_readCell_2 ?_
    refine a_bipush (pc := 3) ok dX7_readCell_3 (by decide) ?_
    refine x_callVi (pc := 5) ok [0, 1, 2, 3, 4, 5, 6, 7, 8, 9, 10, 11, 12, 13, 14, 15, 16] 11 dX7_readCell_5 mv7_204 miX7_figures (c_figuresR hn ht (by omega) (show fq tx sz 112 p 0 = (0, p + 1) from rfl) g1.symm rfl rfl (by unfold rg; omega)) ⟨by decide, by decide, rfl, rfl, Nat.zero_le _, Nat.zero_le _⟩ rfl rfl (Nat.le_of_ble_eq_true rfl) rfl rfl (by decide) rfl rfl rfl ?_
    refine a_istore_n (pc := 8) ok dX7_readCell_8 rfl (by rw [hN]; decide) ?_
    refine a_aload_n (pc := 9) ok dX7_readCell_9 rfl ?_
    refine a_iload_n (pc := 10) ok dX7_readCell_10 rfl ?_
    refine a_iconst (pc := 11) ok dX7_readCell_11 ?_
    refine a_bipush (pc := 12) ok dX7_readCell_12 (by decide) ?_
    refine x_callVi (pc := 14) ok [0, 1, 2, 3, 4, 5, 6, 7, 8, 9, 10, 11, 12, 13, 14, 15, 16] 11 dX7_readCell_14 mv7_204 miX7_figures (c_figuresR hn ht (by omega) g1.symm g2.symm rfl rfl (by unfold rg; omega)) ⟨by decide, by decide, rfl, rfl, Nat.zero_le _, Nat.zero_le _⟩ rfl rfl (Nat.le_of_ble_eq_true rfl) rfl rfl (by decide) rfl rfl rfl ?_
    refine a_istore_n (pc := 17) ok dX7_readCell_17 rfl (by rw [hN]; decide) ?_
    refine a_aload_n (pc := 18) ok dX7_readCell_18 rfl ?_
    refine a_iload_n (pc := 19) ok dX7_readCell_19 rfl ?_
    refine a_iconst (pc := 20) ok dX7_readCell_20 ?_
    refine a_bipush (pc := 21) ok dX7_readCell_21 (by decide) ?_
    refine x_callVi (pc := 23) ok [0, 1, 2, 3, 4, 5, 6, 7, 8, 9, 10, 11, 12, 13, 14, 15, 16] 11 dX7_readCell_23 mv7_204 miX7_figures (c_figuresR hn ht (by omega) g2.symm g3 rfl rfl (by unfold rg; omega)) ⟨by decide, by decide, rfl, rfl, Nat.zero_le _, Nat.zero_le _⟩ rfl rfl (Nat.le_of_ble_eq_true rfl) rfl rfl (by decide) rfl rfl rfl ?_
    refine a_istore (pc := 26) ok dX7_readCell_26 rfl (by rw [hN]; decide) ?_
    refine a_iload (pc := 28) ok dX7_readCell_28 rfl ?_
    refine a_iconst (pc := 30) ok dX7_readCell_30 ?_
    refine a_icmp_eq (pc := 31) (tgt := 81) ok dX7_readCell_31 (by decide) (by first | omega | (unfold rg; omega) | (simp only [rg] at *; omega) | exact bz_rg _ | grind [rg]) (by first | omega | (unfold rg; omega) | (simp only [rg] at *; omega) | exact bz_rg _ | grind [rg]) (fun c31 => ?_) (fun c31 => ?_)
    · refine a_iconst (pc := 81) ok dX7_readCell_81 ?_
      exact a_zret (pc := 82) ok dX7_readCell_82 (by first | rfl | exact nb_bz _ | exact @nb_bz _ (Classical.propDecidable _) | decide) (⟨rfl, rfl⟩)
    · omega
theorem dX7_readBox_0 : decode cX7_readBox 0 = .ok (.aload_n 0, 1) := by decide +kernel
theorem dX7_readBox_1 : decode cX7_readBox 1 = .ok (.iconst 0, 1) := by decide +kernel
theorem dX7_readBox_2 : decode cX7_readBox 2 = .ok (.iconst 0, 1) := by decide +kernel
theorem dX7_readBox_3 : decode cX7_readBox 3 = .ok (.bipush 11, 2) := by decide +kernel
theorem dX7_readBox_5 : decode cX7_readBox 5 = .ok (.invokevirtual 204, 3) := by decide +kernel
theorem dX7_readBox_8 : decode cX7_readBox 8 = .ok (.istore_n 2, 1) := by decide +kernel
theorem dX7_readBox_9 : decode cX7_readBox 9 = .ok (.aload_n 0, 1) := by decide +kernel
theorem dX7_readBox_10 : decode cX7_readBox 10 = .ok (.iload_n 2, 1) := by decide +kernel
theorem dX7_readBox_11 : decode cX7_readBox 11 = .ok (.iconst 0, 1) := by decide +kernel
theorem dX7_readBox_12 : decode cX7_readBox 12 = .ok (.bipush 11, 2) := by decide +kernel
theorem dX7_readBox_14 : decode cX7_readBox 14 = .ok (.invokevirtual 204, 3) := by decide +kernel
theorem dX7_readBox_17 : decode cX7_readBox 17 = .ok (.istore_n 3, 1) := by decide +kernel
theorem dX7_readBox_18 : decode cX7_readBox 18 = .ok (.aload_n 0, 1) := by decide +kernel
theorem dX7_readBox_19 : decode cX7_readBox 19 = .ok (.iload_n 3, 1) := by decide +kernel
theorem dX7_readBox_20 : decode cX7_readBox 20 = .ok (.iconst 0, 1) := by decide +kernel
theorem dX7_readBox_21 : decode cX7_readBox 21 = .ok (.bipush 11, 2) := by decide +kernel
theorem dX7_readBox_23 : decode cX7_readBox 23 = .ok (.invokevirtual 204, 3) := by decide +kernel
theorem dX7_readBox_26 : decode cX7_readBox 26 = .ok (.istore 4, 2) := by decide +kernel
theorem dX7_readBox_28 : decode cX7_readBox 28 = .ok (.aload_n 0, 1) := by decide +kernel
theorem dX7_readBox_29 : decode cX7_readBox 29 = .ok (.iload 4, 2) := by decide +kernel
theorem dX7_readBox_31 : decode cX7_readBox 31 = .ok (.iconst 0, 1) := by decide +kernel
theorem dX7_readBox_32 : decode cX7_readBox 32 = .ok (.bipush 11, 2) := by decide +kernel
theorem dX7_readBox_34 : decode cX7_readBox 34 = .ok (.invokevirtual 204, 3) := by decide +kernel
theorem dX7_readBox_37 : decode cX7_readBox 37 = .ok (.istore 5, 2) := by decide +kernel
theorem dX7_readBox_39 : decode cX7_readBox 39 = .ok (.aload_n 0, 1) := by decide +kernel
theorem dX7_readBox_40 : decode cX7_readBox 40 = .ok (.iload 5, 2) := by decide +kernel
theorem dX7_readBox_42 : decode cX7_readBox 42 = .ok (.iconst 0, 1) := by decide +kernel
theorem dX7_readBox_43 : decode cX7_readBox 43 = .ok (.bipush 99, 2) := by decide +kernel
theorem dX7_readBox_45 : decode cX7_readBox 45 = .ok (.invokevirtual 204, 3) := by decide +kernel
theorem dX7_readBox_48 : decode cX7_readBox 48 = .ok (.istore 6, 2) := by decide +kernel
theorem dX7_readBox_50 : decode cX7_readBox 50 = .ok (.iload 6, 2) := by decide +kernel
theorem dX7_readBox_52 : decode cX7_readBox 52 = .ok (.iconst (-1), 1) := by decide +kernel
theorem dX7_readBox_53 : decode cX7_readBox 53 = .ok (.if_icmp .eq 47, 3) := by decide +kernel
theorem dX7_readBox_56 : decode cX7_readBox 56 = .ok (.aload_n 0, 1) := by decide +kernel
theorem dX7_readBox_57 : decode cX7_readBox 57 = .ok (.aload_n 1, 1) := by decide +kernel
theorem dX7_readBox_58 : decode cX7_readBox 58 = .ok (.iload_n 2, 1) := by decide +kernel
theorem dX7_readBox_59 : decode cX7_readBox 59 = .ok (.iload_n 3, 1) := by decide +kernel
theorem dX7_readBox_60 : decode cX7_readBox 60 = .ok (.iload 4, 2) := by decide +kernel
theorem dX7_readBox_62 : decode cX7_readBox 62 = .ok (.iload 5, 2) := by decide +kernel
theorem dX7_readBox_64 : decode cX7_readBox 64 = .ok (.invokestatic 208, 3) := by decide +kernel
theorem dX7_readBox_67 : decode cX7_readBox 67 = .ok (.ifCond .eq 22, 3) := by decide +kernel
theorem dX7_readBox_70 : decode cX7_readBox 70 = .ok (.aload_n 1, 1) := by decide +kernel
theorem dX7_readBox_71 : decode cX7_readBox 71 = .ok (.iload_n 2, 1) := by decide +kernel
theorem dX7_readBox_72 : decode cX7_readBox 72 = .ok (.iload_n 3, 1) := by decide +kernel
theorem dX7_readBox_73 : decode cX7_readBox 73 = .ok (.iload 4, 2) := by decide +kernel
theorem dX7_readBox_75 : decode cX7_readBox 75 = .ok (.iload 5, 2) := by decide +kernel
theorem dX7_readBox_77 : decode cX7_readBox 77 = .ok (.iload 6, 2) := by decide +kernel
theorem dX7_readBox_79 : decode cX7_readBox 79 = .ok (.invokestatic 212, 3) := by decide +kernel
theorem dX7_readBox_82 : decode cX7_readBox 82 = .ok (.ifCond .lt 7, 3) := by decide +kernel
theorem dX7_readBox_85 : decode cX7_readBox 85 = .ok (.iconst 1, 1) := by decide +kernel
theorem dX7_readBox_86 : decode cX7_readBox 86 = .ok (.goto 4, 3) := by decide +kernel
theorem dX7_readBox_89 : decode cX7_readBox 89 = .ok (.iconst 0, 1) := by decide +kernel
theorem dX7_readBox_90 : decode cX7_readBox 90 = .ok (.invokevirtual 216, 3) := by decide +kernel
theorem dX7_readBox_93 : decode cX7_readBox 93 = .ok (.ifCond .eq 7, 3) := by decide +kernel
theorem dX7_readBox_96 : decode cX7_readBox 96 = .ok (.iconst 1, 1) := by decide +kernel
theorem dX7_readBox_97 : decode cX7_readBox 97 = .ok (.goto 4, 3) := by decide +kernel
theorem dX7_readBox_100 : decode cX7_readBox 100 = .ok (.iconst 0, 1) := by decide +kernel
theorem dX7_readBox_101 : decode cX7_readBox 101 = .ok (.ireturn, 1) := by decide +kernel
theorem c_readBox {p : Int} (hn : 0 ≤ sz ∧ sz ≤ 120) (ht : ∀ j, 0 ≤ tx j ∧ tx j ≤ 255) (hp : 0 ≤ p ∧ p < sz) (hS : SV S) : Cd l yX7_readBox cX7_readBox 7 (some .boolean) rmX7_readBox [.ref 0, .ref 1] (mtM rf sz S ac B I m Fi Co Br Wt mk gy sd rt lf wy (p + 1) ou tx) (some (iv (bz (dBad tx sz 98 p 5 = -1))))
    (mtM rf sz (if dBad tx sz 98 p 5 = -1 then stB S (nmA tx sz (p + 1)) (nmA tx sz (p + 3)) (nmA tx sz (p + 5)) (nmA tx sz (p + 7)) (nmA tx sz (p + 9)) else S) ac B I m Fi Co Br Wt mk gy sd rt lf wy (if dBad tx sz 98 p 5 = -1 then p + 11 else p + 1 + dBad tx sz 98 p 5) (if dBad tx sz 98 p 5 = -1 then ou + (1 - bz (kB S (nmA tx sz (p + 1)) (nmA tx sz (p + 3)) (nmA tx sz (p + 5)) (nmA tx sz (p + 7)) (nmA tx sz (p + 9)))) else ou) tx) := by
  refine Ct.of miX7_readBox (Nat.le_of_ble_eq_true rfl) ?_
  intro X hXl hN ok
  refine AW.cast (L2 := [some (.ref 0), some (.ref 1), none, none, none, none, none]) ?_ rfl rfl rfl
  obtain ⟨hd, hG, hT, hs, hnn, hle⟩ := id hS
  by_cases hb : dBad tx sz 98 p 5 = -1
  · rw [if_pos hb, if_pos hb, if_pos hb, bz_pos hb] at ok
    have g0 := fq_good hn.2 hp.1 hb 0 (by omega) (p + 1) (by omega)
    have g1 := fq_good hn.2 hp.1 hb 1 (by omega) (p + 3) (by omega)
    have g2 := fq_good hn.2 hp.1 hb 2 (by omega) (p + 5) (by omega)
    have g3 := fq_good hn.2 hp.1 hb 3 (by omega) (p + 7) (by omega)
    have g4 := fq_good hn.2 hp.1 hb 4 (by omega) (p + 9) (by omega)
    obtain ⟨x0, ex0⟩ : ∃ x, x = nmA tx sz (p + 1) := ⟨_, rfl⟩
    obtain ⟨x1, ex1⟩ : ∃ x, x = nmA tx sz (p + 3) := ⟨_, rfl⟩
    obtain ⟨y0, ey0⟩ : ∃ x, x = nmA tx sz (p + 5) := ⟨_, rfl⟩
    obtain ⟨y1, ey1⟩ : ∃ x, x = nmA tx sz (p + 7) := ⟨_, rfl⟩
    obtain ⟨g, eg⟩ : ∃ x, x = nmA tx sz (p + 9) := ⟨_, rfl⟩
    rw [← ex0] at g0 ok
    rw [← ex1] at g1 ok
    rw [← ey0] at g2 ok
    rw [← ey1] at g3 ok
    rw [← eg] at g4 ok
    have l0 : loO 98 = 0 := rfl
    have h0 : hiO 98 ((0 : Nat) : Int) = 11 := rfl
    have h1 : hiO 98 ((1 : Nat) : Int) = 11 := rfl
    have h2 : hiO 98 ((2 : Nat) : Int) = 11 := rfl
    have h3 : hiO 98 ((3 : Nat) : Int) = 11 := rfl
    have h4 : hiO 98 ((4 : Nat) : Int) = 99 := rfl
    have k0 := g0.2
    have k1 := g1.2
    have k2 := g2.2
    have k3 := g3.2
    have k4 := g4.2
    rw [l0, h0] at k0
    rw [l0, h1] at k1
    rw [l0, h2] at k2
    rw [l0, h3] at k3
    rw [l0, h4] at k4
    have fin : ∀ z : Int, z = bz (kB S x0 x1 y0 y1 g) → ∀ u1 u2 u3 u4 u5 : Option Value, AW X 0 0 90 [some (.ref 0), some (.ref 1), u1, u2, u3, u4, u5] [iv z, .ref 0] (mtM rf sz (stB S x0 x1 y0 y1 g) ac B I m Fi Co Br Wt mk gy sd rt lf wy (p + 11) ou tx) := by
      intro z hz u1 u2 u3 u4 u5
      subst hz
      refine x_callVi (pc := 90) ok [0, 1, 2, 3, 4, 5, 6, 7, 8, 9, 10, 11, 12, 13, 14, 15, 16] 11 dX7_readBox_90 mv7_216 miX7_done (c_done (bz_01 _)) ⟨by decide, by decide, rfl, rfl, Nat.zero_le _, Nat.zero_le _⟩ rfl rfl (Nat.le_of_ble_eq_true rfl) rfl rfl (by decide) rfl rfl rfl ?_
      refine a_if_eq (pc := 93) (tgt := 100) ok dX7_readBox_93 (by decide) (by first | omega | (unfold rg; omega) | (simp only [rg] at *; omega) | exact bz_rg _ | grind [rg]) (fun c93 => ?_) (fun c93 => ?_)
      · exfalso; first | omega | grind
      · refine a_iconst (pc := 96) ok dX7_readBox_96 ?_
        refine a_goto (pc := 97) (tgt := 101) ok dX7_readBox_97 (by decide) ?_
        exact a_zret (pc := 101) ok dX7_readBox_101 (by first | rfl | exact nb_bz _ | exact @nb_bz _ (Classical.propDecidable _) | decide) (⟨rfl, rfl⟩)
    have st1 : kB S x0 x1 y0 y1 g → stB S x0 x1 y0 y1 g = gB S x0 x1 y0 y1 g := fun z => if_pos z
    have st2 : ¬ kB S x0 x1 y0 y1 g → stB S x0 x1 y0 y1 g = S := fun z => if_neg z
    have hGr : ∀ i, rg (sG S i) := fun i => by have := hG i; unfold rg; omega
    have hbx : ∀ (w h : Nat), 0 ≤ (boxF (sC S) g x0 w y0 h (sG S, 0)).2 ∧ (boxF (sC S) g x0 w y0 h (sG S, 0)).2 ≤ w * h := by
      intro w h
      induction h with
      | zero => exact ⟨Int.le_refl _, by show (0 : Int) ≤ w * ((0 : Nat) : Int); omega⟩
      | succ h ih =>
        rw [boxF_end]
        have := rowF_le (sC S) g (y0 + h) w x0 (boxF (sC S) g x0 w y0 h (sG S, 0))
        have e : (w : Int) * ((h + 1 : Nat) : Int) = w * h + w := by rw [show ((h + 1 : Nat) : Int) = h + 1 by omega, Int.mul_add, Int.mul_one]
        omega
    have hbx2 : 0 ≤ x0 ∧ x0 ≤ x1 ∧ x1 < sC S → 0 ≤ y0 ∧ y0 ≤ y1 ∧ y1 < sR S → 0 ≤ (boxF (sC S) g x0 (x1 - x0 + 1).toNat y0 (y1 - y0 + 1).toNat (sG S, 0)).2 ∧ (boxF (sC S) g x0 (x1 - x0 + 1).toNat y0 (y1 - y0 + 1).toNat (sG S, 0)).2 ≤ 144 := fun a d => by
      have h := hbx (x1 - x0 + 1).toNat (y1 - y0 + 1).toNat
      obtain ⟨d1, d2, d3, d4⟩ := hd
      have e : (((x1 - x0 + 1).toNat : Nat) : Int) * (((y1 - y0 + 1).toNat : Nat) : Int) ≤ 12 * 12 := Int.mul_le_mul (by omega) (by omega) (by omega) (by omega)
      omega
    refine a_aload_n (pc := 0) ok dX7_readBox_0 rfl ?_
    refine a_iconst (pc := 1) ok dX7_readBox_1 ?_
    refine a_iconst (pc := 2) ok dX7_readBox_2 ?_
    refine a_bipush (pc := 3) ok dX7_readBox_3 (by decide) ?_
    refine x_callVi (pc := 5) ok [0, 1, 2, 3, 4, 5, 6, 7, 8, 9, 10, 11, 12, 13, 14, 15, 16] 11 dX7_readBox_5 mv7_204 miX7_figures (c_figuresR hn ht (by omega) (show fq tx sz 98 p 0 = (0, p + 1) from rfl) g0.1 rfl rfl (by unfold rg; omega)) ⟨by decide, by decide, rfl, rfl, Nat.zero_le _, Nat.zero_le _⟩ rfl rfl (Nat.le_of_ble_eq_true rfl) rfl rfl (by decide) rfl rfl rfl ?_
    refine a_istore_n (pc := 8) ok dX7_readBox_8 rfl (by rw [hN]; decide) ?_
    refine a_aload_n (pc := 9) ok dX7_readBox_9 rfl ?_
    refine a_iload_n (pc := 10) ok dX7_readBox_10 rfl ?_
    refine a_iconst (pc := 11) ok dX7_readBox_11 ?_
    refine a_bipush (pc := 12) ok dX7_readBox_12 (by decide) ?_
    refine x_callVi (pc := 14) ok [0, 1, 2, 3, 4, 5, 6, 7, 8, 9, 10, 11, 12, 13, 14, 15, 16] 11 dX7_readBox_14 mv7_204 miX7_figures (c_figuresR hn ht (by omega) (by rw [g0.1, show p + 1 + 2 = p + 3 by omega]) g1.1 rfl rfl (by unfold rg; omega)) ⟨by decide, by decide, rfl, rfl, Nat.zero_le _, Nat.zero_le _⟩ rfl rfl (Nat.le_of_ble_eq_true rfl) rfl rfl (by decide) rfl rfl rfl ?_
    refine a_istore_n (pc := 17) ok dX7_readBox_17 rfl (by rw [hN]; decide) ?_
    refine a_aload_n (pc := 18) ok dX7_readBox_18 rfl ?_
    refine a_iload_n (pc := 19) ok dX7_readBox_19 rfl ?_
    refine a_iconst (pc := 20) ok dX7_readBox_20 ?_
    refine a_bipush (pc := 21) ok dX7_readBox_21 (by decide) ?_
    refine x_callVi (pc := 23) ok [0, 1, 2, 3, 4, 5, 6, 7, 8, 9, 10, 11, 12, 13, 14, 15, 16] 11 dX7_readBox_23 mv7_204 miX7_figures (c_figuresR hn ht (by omega) (by rw [g1.1, show p + 3 + 2 = p + 5 by omega]) g2.1 rfl rfl (by unfold rg; omega)) ⟨by decide, by decide, rfl, rfl, Nat.zero_le _, Nat.zero_le _⟩ rfl rfl (Nat.le_of_ble_eq_true rfl) rfl rfl (by decide) rfl rfl rfl ?_
    refine a_istore (pc := 26) ok dX7_readBox_26 rfl (by rw [hN]; decide) ?_
    refine a_aload_n (pc := 28) ok dX7_readBox_28 rfl ?_
    refine a_iload (pc := 29) ok dX7_readBox_29 rfl ?_
    refine a_iconst (pc := 31) ok dX7_readBox_31 ?_
    refine a_bipush (pc := 32) ok dX7_readBox_32 (by decide) ?_
    refine x_callVi (pc := 34) ok [0, 1, 2, 3, 4, 5, 6, 7, 8, 9, 10, 11, 12, 13, 14, 15, 16] 11 dX7_readBox_34 mv7_204 miX7_figures (c_figuresR hn ht (by omega) (by rw [g2.1, show p + 5 + 2 = p + 7 by omega]) g3.1 rfl rfl (by unfold rg; omega)) ⟨by decide, by decide, rfl, rfl, Nat.zero_le _, Nat.zero_le _⟩ rfl rfl (Nat.le_of_ble_eq_true rfl) rfl rfl (by decide) rfl rfl rfl ?_
    refine a_istore (pc := 37) ok dX7_readBox_37 rfl (by rw [hN]; decide) ?_
    refine a_aload_n (pc := 39) ok dX7_readBox_39 rfl ?_
    refine a_iload (pc := 40) ok dX7_readBox_40 rfl ?_
    refine a_iconst (pc := 42) ok dX7_readBox_42 ?_
    refine a_bipush (pc := 43) ok dX7_readBox_43 (by decide) ?_
    refine x_callVi (pc := 45) ok [0, 1, 2, 3, 4, 5, 6, 7, 8, 9, 10, 11, 12, 13, 14, 15, 16] 11 dX7_readBox_45 mv7_204 miX7_figures (c_figuresR hn ht (by omega) (by rw [g3.1, show p + 7 + 2 = p + 9 by omega]) g4.1 rfl rfl (by unfold rg; omega)) ⟨by decide, by decide, rfl, rfl, Nat.zero_le _, Nat.zero_le _⟩ rfl rfl (Nat.le_of_ble_eq_true rfl) rfl rfl (by decide) rfl rfl rfl ?_
    refine a_istore (pc := 48) ok dX7_readBox_48 rfl (by rw [hN]; decide) ?_
    refine a_iload (pc := 50) ok dX7_readBox_50 rfl ?_
    refine a_iconst (pc := 52) ok dX7_readBox_52 ?_
    refine a_icmp_eq (pc := 53) (tgt := 100) ok dX7_readBox_53 (by decide) (by first | omega | (unfold rg; omega) | (simp only [rg] at *; omega) | exact bz_rg _ | grind [rg]) (by first | omega | (unfold rg; omega) | (simp only [rg] at *; omega) | exact bz_rg _ | grind [rg]) (fun c53 => ?_) (fun c53 => ?_)
    · omega
    · refine a_aload_n (pc := 56) ok dX7_readBox_56 rfl ?_
      refine a_aload_n (pc := 57) ok dX7_readBox_57 rfl ?_
      refine a_iload_n (pc := 58) ok dX7_readBox_58 rfl ?_
      refine a_iload_n (pc := 59) ok dX7_readBox_59 rfl ?_
      refine a_iload (pc := 60) ok dX7_readBox_60 rfl ?_
      refine a_iload (pc := 62) ok dX7_readBox_62 rfl ?_
      refine a_callSp (pc := 64) ok [1] dX7_readBox_64 mv7_208 miX7_canBox (c_canBox hd (by unfold rg; omega) (by unfold rg; omega) (by unfold rg; omega) (by unfold rg; omega)) ⟨by decide, by decide, rfl, rfl, Nat.zero_le _, Nat.zero_le _⟩ rfl rfl (Nat.le_of_ble_eq_true rfl) rfl (by decide) ?_
      refine a_if_eq (pc := 67) (tgt := 89) ok dX7_readBox_67 (by decide) (by exact bz_rg _) (fun c67 => ?_) (fun c67 => ?_)
      · refine a_iconst (pc := 89) ok dX7_readBox_89 ?_
        have nk : ¬ kB S x0 x1 y0 y1 g := fun z => by rw [bz_pos ⟨z.1, z.2.1, z.2.2.1, z.2.2.2.1⟩] at c67; exact absurd c67 (by decide)
        exact AW.cast (fin 0 (bz_neg nk).symm _ _ _ _ _) rfl rfl (by rw [st2 nk, show p + 11 = p + 9 + 2 by omega]; rfl)
      · have q1 : inP (sC S) (sR S) x0 y0 ∧ inP (sC S) (sR S) x1 y1 ∧ x0 ≤ x1 ∧ y0 ≤ y1 := Classical.byContradiction fun z => c67 (bz_neg z)
        have q4 : kB S x0 x1 y0 y1 g := ⟨q1.1, q1.2.1, q1.2.2.1, q1.2.2.2, by omega, by omega⟩
        have q5 := hbx2 (by omega) (by omega)
        refine a_aload_n (pc := 70) ok dX7_readBox_70 rfl ?_
        refine a_iload_n (pc := 71) ok dX7_readBox_71 rfl ?_
        refine a_iload_n (pc := 72) ok dX7_readBox_72 rfl ?_
        refine a_iload (pc := 73) ok dX7_readBox_73 rfl ?_
        refine a_iload (pc := 75) ok dX7_readBox_75 rfl ?_
        refine a_iload (pc := 77) ok dX7_readBox_77 rfl ?_
        refine a_callSi (pc := 79) ok [1] dX7_readBox_79 mv7_212 miX7_boxOn (c_boxOn hd (by omega) (by omega) hGr (by unfold rg; omega)) ⟨by decide, by decide, rfl, rfl, Nat.zero_le _, Nat.zero_le _⟩ rfl rfl (Nat.le_of_ble_eq_true rfl) rfl (by decide) rfl ?_
        refine a_if_lt (pc := 82) (tgt := 89) ok dX7_readBox_82 (by decide) (by unfold rg; omega) (fun c82 => ?_) (fun c82 => ?_)
        · omega
        · refine a_iconst (pc := 85) ok dX7_readBox_85 ?_
          refine a_goto (pc := 86) (tgt := 90) ok dX7_readBox_86 (by decide) ?_
          exact AW.cast (fin 1 (bz_pos q4).symm _ _ _ _ _) rfl rfl (by rw [st1 q4, show p + 11 = p + 9 + 2 by omega]; rfl)
  · rw [if_neg hb, if_neg hb, if_neg hb, bz_neg hb] at ok
    have g5 := fq_bad hn.2 hp.1 hb
    have r1 := fq_rg (t := tx) (n := sz) (k := 98) (p := p) 1
    have r2 := fq_rg (t := tx) (n := sz) (k := 98) (p := p) 2
    have r3 := fq_rg (t := tx) (n := sz) (k := 98) (p := p) 3
    have r4 := fq_rg (t := tx) (n := sz) (k := 98) (p := p) 4
    obtain ⟨⟨v1, s1⟩, g1⟩ : ∃ q, q = fq tx sz 98 p 1 := ⟨_, rfl⟩
    obtain ⟨⟨v2, s2⟩, g2⟩ : ∃ q, q = fq tx sz 98 p 2 := ⟨_, rfl⟩
    obtain ⟨⟨v3, s3⟩, g3⟩ : ∃ q, q = fq tx sz 98 p 3 := ⟨_, rfl⟩
    obtain ⟨⟨v4, s4⟩, g4⟩ : ∃ q, q = fq tx sz 98 p 4 := ⟨_, rfl⟩
    rw [← g1] at r1
    rw [← g2] at r2
    rw [← g3] at r3
    rw [← g4] at r4
    dsimp only at r1 r2 r3 r4
    refine a_aload_n (pc := 0) ok dX7_readBox_0 rfl ?_
    refine a_iconst (pc := 1) ok dX7_readBox_1 ?_
    refine a_iconst (pc := 2) ok dX7_readBox_2 ?_
    refine a_bipush (pc := 3) ok dX7_readBox_3 (by decide) ?_
    refine x_callVi (pc := 5) ok [0, 1, 2, 3, 4, 5, 6, 7, 8, 9, 10, 11, 12, 13, 14, 15, 16] 11 dX7_readBox_5 mv7_204 miX7_figures (c_figuresR hn ht (by omega) (show fq tx sz 98 p 0 = (0, p + 1) from rfl) g1.symm rfl rfl (by unfold rg; omega)) ⟨by decide, by decide, rfl, rfl, Nat.zero_le _, Nat.zero_le _⟩ rfl rfl (Nat.le_of_ble_eq_true rfl) rfl rfl (by decide) rfl rfl rfl ?_
    refine a_istore_n (pc := 8) ok dX7_readBox_8 rfl (by rw [hN]; decide) ?_
    refine a_aload_n (pc := 9) ok dX7_readBox_9 rfl ?_
    refine a_iload_n (pc := 10) ok dX7_readBox_10 rfl ?_
    refine a_iconst (pc := 11) ok dX7_readBox_11 ?_
    refine a_bipush (pc := 12) ok dX7_readBox_12 (by decide) ?_
    refine x_callVi (pc := 14) ok [0, 1, 2, 3, 4, 5, 6, 7, 8, 9, 10, 11, 12, 13, 14, 15, 16] 11 dX7_readBox_14 mv7_204 miX7_figures (c_figuresR hn ht (by omega) g1.symm g2.symm rfl rfl (by unfold rg; omega)) ⟨by decide, by decide, rfl, rfl, Nat.zero_le _, Nat.zero_le _⟩ rfl rfl (Nat.le_of_ble_eq_true rfl) rfl rfl (by decide) rfl rfl rfl ?_
    refine a_istore_n (pc := 17) ok dX7_readBox_17 rfl (by rw [hN]; decide) ?_
    refine a_aload_n (pc := 18) ok dX7_readBox_18 rfl ?_
    refine a_iload_n (pc := 19) ok dX7_readBox_19 rfl ?_
    refine a_iconst (pc := 20) ok dX7_readBox_20 ?_
    refine a_bipush (pc := 21) ok dX7_readBox_21 (by decide) ?_
    refine x_callVi (pc := 23) ok [0, 1, 2, 3, 4, 5, 6, 7, 8, 9, 10, 11, 12, 13, 14, 15, 16] 11 dX7_readBox_23 mv7_204 miX7_figures (c_figuresR hn ht (by omega) g2.symm g3.symm rfl rfl (by unfold rg; omega)) ⟨by decide, by decide, rfl, rfl, Nat.zero_le _, Nat.zero_le _⟩ rfl rfl (Nat.le_of_ble_eq_true rfl) rfl rfl (by decide) rfl rfl rfl ?_
    refine a_istore (pc := 26) ok dX7_readBox_26 rfl (by rw [hN]; decide) ?_
    refine a_aload_n (pc := 28) ok dX7_readBox_28 rfl ?_
    refine a_iload (pc := 29) ok dX7_readBox_29 rfl ?_
    refine a_iconst (pc := 31) ok dX7_readBox_31 ?_
    refine a_bipush (pc := 32) ok dX7_readBox_32 (by decide) ?_
    refine x_callVi (pc := 34) ok [0, 1, 2, 3, 4, 5, 6, 7, 8, 9, 10, 11, 12, 13, 14, 15, 16] 11 dX7_readBox_34 mv7_204 miX7_figures (c_figuresR hn ht (by omega) g3.symm g4.symm rfl rfl (by unfold rg; omega)) ⟨by decide, by decide, rfl, rfl, Nat.zero_le _, Nat.zero_le _⟩ rfl rfl (Nat.le_of_ble_eq_true rfl) rfl rfl (by decide) rfl rfl rfl ?_
    refine a_istore (pc := 37) ok dX7_readBox_37 rfl (by rw [hN]; decide) ?_
    refine a_aload_n (pc := 39) ok dX7_readBox_39 rfl ?_
    refine a_iload (pc := 40) ok dX7_readBox_40 rfl ?_
    refine a_iconst (pc := 42) ok dX7_readBox_42 ?_
    refine a_bipush (pc := 43) ok dX7_readBox_43 (by decide) ?_
    refine x_callVi (pc := 45) ok [0, 1, 2, 3, 4, 5, 6, 7, 8, 9, 10, 11, 12, 13, 14, 15, 16] 11 dX7_readBox_45 mv7_204 miX7_figures (c_figuresR hn ht (by omega) g4.symm g5 rfl rfl (by unfold rg; omega)) ⟨by decide, by decide, rfl, rfl, Nat.zero_le _, Nat.zero_le _⟩ rfl rfl (Nat.le_of_ble_eq_true rfl) rfl rfl (by decide) rfl rfl rfl ?_
    refine a_istore (pc := 48) ok dX7_readBox_48 rfl (by rw [hN]; decide) ?_
    refine a_iload (pc := 50) ok dX7_readBox_50 rfl ?_
    refine a_iconst (pc := 52) ok dX7_readBox_52 ?_
    refine a_icmp_eq (pc := 53) (tgt := 100) ok dX7_readBox_53 (by decide) (by first | omega | (unfold rg; omega) | (simp only [rg] at *; omega) | exact bz_rg _ | grind [rg]) (by first | omega | (unfold rg; omega) | (simp only [rg] at *; omega) | exact bz_rg _ | grind [rg]) (fun c53 => ?_) (fun c53 => ?_)
    · refine a_iconst (pc := 100) ok dX7_readBox_100 ?_
      exact a_zret (pc := 101) ok dX7_readBox_101 (by first | rfl | exact nb_bz _ | exact @nb_bz _ (Classical.propDecidable _) | decide) (⟨rfl, rfl⟩)
    · omega
end TM2
