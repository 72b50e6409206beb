/-! STATE: shares, distances, spreads, turned greys. -/
section ST4
variable {l : Launch} {c r le li : Int} {G T Hh : Int → Int}
/-- f over the first k, the rest as it was -/
def mapK (f : Int → Int) (k : Int) (G : Int → Int) : Int → Int := fun j => if 0 ≤ j ∧ j < k then f j else G j
theorem mapK_up {f : Int → Int} {k : Int} (hk : 0 ≤ k) : up (mapK f k G) k (f k) = mapK f (k + 1) G := by
  funext j; simp only [up, mapK]
  by_cases h : j = k
  · rw [if_pos h, if_pos (by omega), h]
  · rw [if_neg h]; by_cases h2 : 0 ≤ j ∧ j < k
    · rw [if_pos h2, if_pos (by omega)]
    · rw [if_neg h2, if_neg (by omega)]
theorem mapK_0 {f : Int → Int} : mapK f 0 G = G := by funext j; simp only [mapK]; rw [if_neg (by omega)]
theorem mapK_at {f : Int → Int} {k : Int} : mapK f k G k = G k := by simp only [mapK]; rw [if_neg (by omega)]
theorem mapK_rg {f : Int → Int} {k : Int} (hf : ∀ i, 0 ≤ i → i < k → 0 ≤ f i ∧ f i ≤ 99) (hG : ∀ i, 0 ≤ G i ∧ G i ≤ 99) (i : Int) : 0 ≤ mapK f k G i ∧ mapK f k G i ≤ 99 := by
  unfold mapK; split
  · rename_i h; exact hf i h.1 h.2
  · exact hG i
/-- the least threshold from v on, k more to try, below which w cells lie -/
def lsUp (G : Int → Int) (C : Nat) (w : Int) : Nat → Int → Int
  | 0, v => v
  | k + 1, v => if w ≤ belowK G C v then v else lsUp G C w k (v + 1)
theorem lsUp_rg (G : Int → Int) (C : Nat) (w : Int) : ∀ (k : Nat) (v : Int), v ≤ lsUp G C w k v ∧ lsUp G C w k v ≤ v + k
  | 0, v => by simp [lsUp]
  | k + 1, v => by
    have := lsUp_rg G C w k (v + 1)
    simp only [lsUp]; split <;> omega
theorem dX4_leastAbove_0 : decode cX4_leastAbove 0 = .ok (.iconst 1, 1) := by decide +kernel
theorem dX4_leastAbove_1 : decode cX4_leastAbove 1 = .ok (.istore_n 2, 1) := by decide +kernel
theorem dX4_leastAbove_2 : decode cX4_leastAbove 2 = .ok (.iload_n 2, 1) := by decide +kernel
theorem dX4_leastAbove_3 : decode cX4_leastAbove 3 = .ok (.bipush 99, 2) := by decide +kernel
theorem dX4_leastAbove_5 : decode cX4_leastAbove 5 = .ok (.if_icmp .ge 20, 3) := by decide +kernel
theorem dX4_leastAbove_8 : decode cX4_leastAbove 8 = .ok (.aload_n 0, 1) := by decide +kernel
theorem dX4_leastAbove_9 : decode cX4_leastAbove 9 = .ok (.iload_n 2, 1) := by decide +kernel
theorem dX4_leastAbove_10 : decode cX4_leastAbove 10 = .ok (.invokevirtual 102, 3) := by decide +kernel
theorem dX4_leastAbove_13 : decode cX4_leastAbove 13 = .ok (.iload_n 1, 1) := by decide +kernel
theorem dX4_leastAbove_14 : decode cX4_leastAbove 14 = .ok (.if_icmp .lt 5, 3) := by decide +kernel
theorem dX4_leastAbove_17 : decode cX4_leastAbove 17 = .ok (.iload_n 2, 1) := by decide +kernel
theorem dX4_leastAbove_18 : decode cX4_leastAbove 18 = .ok (.ireturn, 1) := by decide +kernel
theorem dX4_leastAbove_19 : decode cX4_leastAbove 19 = .ok (.iinc 2 1, 3) := by decide +kernel
theorem dX4_leastAbove_22 : decode cX4_leastAbove 22 = .ok (.goto (-20), 3) := by decide +kernel
theorem dX4_leastAbove_25 : decode cX4_leastAbove 25 = .ok (.bipush 99, 2) := by decide +kernel
theorem dX4_leastAbove_27 : decode cX4_leastAbove 27 = .ok (.ireturn, 1) := by decide +kernel
theorem c_leastAbove {n w : Int} (hd : dim c r) (hG : ∀ i, 0 ≤ G i ∧ G i ≤ 99) (hw : rg w) : Cd l yX4_leastAbove cX4_leastAbove 3 (some .int) rmX4_leastAbove [.ref 0, iv w] (stM c r G T n le Hh li) (some (iv (lsUp G (c * r).toNat w 98 1))) (stM c r G T n le Hh li) := by
  refine Ct.of miX4_leastAbove (Nat.le_of_ble_eq_true rfl) ?_
  intro X hXl hN ok
  refine AW.cast (L2 := [some (.ref 0), some (iv w), none]) ?_ rfl rfl rfl
  have hc := dim_cells hd
  have loop : ∀ v : Int, (1 ≤ v ∧ v ≤ 99 ∧ lsUp G (c * r).toNat w 98 1 = lsUp G (c * r).toNat w (99 - v).toNat v) → AW X 0 0 2 [some (.ref 0), some (iv w), some (iv v)] [] (stM c r G T n le Hh li) := by
    refine wfl (fun v : Int => (99 - v).toNat) _ _ ?_
    rintro v ⟨h1, h2, h3⟩ ih
    have hb : rg (belowK G (c * r).toNat v) := by have := cntK_rg (fun k => decide (G k < v)) (c * r).toNat; unfold belowK; unfold rg; omega
    have hs : v < 99 → lsUp G (c * r).toNat w (99 - v).toNat v = if w ≤ belowK G (c * r).toNat v then v else lsUp G (c * r).toNat w (99 - (v + 1)).toNat (v + 1) := fun h => by
      rw [show (99 - v).toNat = (99 - (v + 1)).toNat + 1 by omega]; rfl
    refine a_iload_n (pc := 2) ok dX4_leastAbove_2 rfl ?_
    refine a_bipush (pc := 3) ok dX4_leastAbove_3 (by decide) ?_
    refine a_icmp_ge (pc := 5) (tgt := 25) ok dX4_leastAbove_5 (by decide) (by first | omega | (unfold rg; omega) | (simp only [rg] at *; omega) | exact bz_rg _ | grind [rg]) (by first | omega | (unfold rg; omega) | (simp only [rg] at *; omega) | exact bz_rg _ | grind [rg]) (fun c5 => ?_) (fun c5 => ?_)
    · refine a_bipush (pc := 25) ok dX4_leastAbove_25 (by decide) ?_
      exact a_iret (pc := 27) ok dX4_leastAbove_27 (by rw [h3, show (99 - v).toNat = 0 by omega, show v = 99 by omega]; exact ⟨rfl, rfl⟩)
    · refine a_aload_n (pc := 8) ok dX4_leastAbove_8 rfl ?_
      refine a_iload_n (pc := 9) ok dX4_leastAbove_9 rfl ?_
      refine a_callVp (pc := 10) ok [0, 1, 2, 3] dX4_leastAbove_10 mv4_102 miX4_cellsBelow (c_cellsBelow hd hG (by unfold rg; omega)) ⟨by decide, by decide, rfl, rfl, Nat.zero_le _, Nat.zero_le _⟩ rfl rfl (by decide) rfl (by decide) rfl rfl ?_
      refine a_iload_n (pc := 13) ok dX4_leastAbove_13 rfl ?_
      refine a_icmp_lt (pc := 14) (tgt := 19) ok dX4_leastAbove_14 (by decide) (by first | omega | (unfold rg; omega) | (simp only [rg] at *; omega) | exact bz_rg _ | grind [rg]) (by first | omega | (unfold rg; omega) | (simp only [rg] at *; omega) | exact bz_rg _ | grind [rg]) (fun c14 => ?_) (fun c14 => ?_)
      · refine a_iinc (pc := 19) ok dX4_leastAbove_19 rfl rfl (by rw [hN]; decide) ?_
        refine a_goto (pc := 22) (tgt := 2) ok dX4_leastAbove_22 (by decide) ?_
        exact ih (v + 1) ⟨by omega, by omega, by rw [h3, hs (by omega), if_neg (by omega)]⟩ (by omega)
      · refine a_iload_n (pc := 17) ok dX4_leastAbove_17 rfl ?_
        exact a_iret (pc := 18) ok dX4_leastAbove_18 (by rw [h3, hs (by omega), if_pos (by omega)]; exact ⟨rfl, rfl⟩)
  refine a_iconst (pc := 0) ok dX4_leastAbove_0 ?_
  refine a_istore_n (pc := 1) ok dX4_leastAbove_1 rfl (by rw [hN]; decide) ?_
  exact loop 1 ⟨by omega, by omega, rfl⟩
theorem hasT_iff {n : Nat} {v : Int} : hasT T n v = true ↔ ∃ j : Nat, j < n ∧ T j = v := by
  simp only [hasT, bne_iff_ne, ne_eq, fstK_neg]
  constructor
  · intro h
    refine Classical.byContradiction fun hn => h fun j hj => ?_
    simp only [beq_eq_false_iff_ne, ne_eq]
    exact fun e => hn ⟨j, hj, e⟩
  · rintro ⟨j, h1, h2⟩ h
    have := h j h1
    simp [h2] at this
theorem srt_cut {v : Int} : ∀ {n : Nat}, srt T n → ∀ j : Nat, j < n → (T j ≤ v ↔ (j : Int) < cntK (fun k => decide (T k ≤ v)) n)
  | 0, _, j, h => by omega
  | n + 1, hs, j, h => by
    have ih := srt_cut (v := v) (n := n) (fun a b h1 h2 h3 => hs a b h1 h2 (by omega))
    have hr := cntK_rg (fun k => decide (T k ≤ v)) n
    simp only [cntK]
    by_cases hn : T n ≤ v
    · have ha : ∀ i : Nat, i < n → T i ≤ v := fun i hi => by have := hs i n (by omega) (by omega) (by omega); omega
      have hc : cntK (fun k => decide (T k ≤ v)) n = n := cntK_cut (a := n) n (Nat.le_refl n) (fun i hi => by simpa using ha i hi) (fun i h1 h2 => by omega)
      rw [hc]; simp only [hn, decide_true, if_true]
      rcases (show j < n ∨ j = n by omega) with z | z
      · have := ha j z; omega
      · subst z; omega
    · simp only [hn, decide_false, Bool.false_eq_true, if_false]
      rcases (show j < n ∨ j = n by omega) with z | z
      · rw [ih j z]; omega
      · subst z; omega
theorem srt_ins {n : Nat} {v : Int} (hs : srt T n) (hv : hasT T n v = false) : srt (insT T n v) (n + 1) := by
  have hc := srt_cut (v := v) hs
  have hr := cntK_rg (fun k => decide (T k ≤ v)) n
  have hne : ∀ j : Nat, j < n → T j ≠ v := fun j hj e => by have := (hasT_iff (T := T)).mpr ⟨j, hj, e⟩; rw [hv] at this; cases this
  have hlo : ∀ j : Int, 0 ≤ j → j < cntK (fun k => decide (T k ≤ v)) n → T j < v := fun j h1 h2 => by
    have a := (hc j.toNat (by omega)).mpr (by omega)
    have b := hne j.toNat (by omega)
    rw [Int.toNat_of_nonneg h1] at a b; omega
  have hhi : ∀ j : Int, cntK (fun k => decide (T k ≤ v)) n ≤ j → j < n → v < T j := fun j h1 h2 => by
    have a := (hc j.toNat (by omega)).mp
    have e : ((j.toNat : Nat) : Int) = j := Int.toNat_of_nonneg (by omega)
    rw [e] at a
    exact Int.lt_of_not_ge fun z => by have := a z; omega
  intro i j h1 h2 h3
  simp only [insT]
  by_cases a : j < cntK (fun k => decide (T k ≤ v)) n
  · rw [if_pos (by omega), if_pos a]; exact hs i j h1 h2 (by omega)
  · rw [if_neg a]
    by_cases b : j = cntK (fun k => decide (T k ≤ v)) n
    · rw [if_pos b, if_pos (by omega)]; exact hlo i h1 (by omega)
    · rw [if_neg b, if_pos (show j ≤ n by omega)]
      by_cases d : i < cntK (fun k => decide (T k ≤ v)) n
      · rw [if_pos d]; have := hlo i h1 d; have := hhi (j - 1) (by omega) (by omega); omega
      · rw [if_neg d]
        by_cases e : i = cntK (fun k => decide (T k ≤ v)) n
        · rw [if_pos e]; exact hhi (j - 1) (by omega) (by omega)
        · rw [if_neg e, if_pos (by omega)]; exact hs (i - 1) (j - 1) (by omega) (by omega) (by omega)
theorem insT_rg {n : Nat} {v a b : Int} (hT : ∀ i, a ≤ T i ∧ T i ≤ b) (hv : a ≤ v ∧ v ≤ b) : ∀ i, a ≤ insT T n v i ∧ insT T n v i ≤ b := fun i => by
  unfold insT; split
  · exact hT i
  · split
    · exact hv
    · split
      · exact hT _
      · exact hT i
theorem remT_rg {n : Nat} {p a b : Int} (hT : ∀ i, a ≤ T i ∧ T i ≤ b) : ∀ i, a ≤ remT T n p i ∧ remT T n p i ≤ b := fun i => by
  unfold remT; split <;> exact hT _
theorem srt_rem {n : Nat} {p : Int} (hs : srt T n) (hp : 0 ≤ p ∧ p < n) : srt (remT T n p) (n - 1) := by
  intro i j h1 h2 h3
  simp only [remT]
  by_cases a : p ≤ i
  · rw [if_pos (by omega), if_pos (by omega)]; exact hs _ _ (by omega) (by omega) (by omega)
  · rw [if_neg (by omega)]
    by_cases b : p ≤ j
    · rw [if_pos (by omega)]; exact hs _ _ (by omega) (by omega) (by omega)
    · rw [if_neg (by omega)]; exact hs _ _ (by omega) (by omega) (by omega)
/-- thresholds by shares: those for the first k of m -/
def shK (G : Int → Int) (C : Nat) (m : Int) (T : Int → Int) : Nat → (Int → Int) × Nat
  | 0 => (T, 0)
  | k + 1 => if hasT (shK G C m T k).1 (shK G C m T k).2 (lsUp G C ((C : Int) * (k + 1 : Nat) / (m + 1)) 98 1) then shK G C m T k
    else (insT (shK G C m T k).1 (shK G C m T k).2 (lsUp G C ((C : Int) * (k + 1 : Nat) / (m + 1)) 98 1), (shK G C m T k).2 + 1)
theorem shK_ok (G : Int → Int) (C : Nat) (m : Int) (hT : ∀ i, 0 ≤ T i ∧ T i ≤ 99) : ∀ k : Nat, (shK G C m T k).2 ≤ k ∧ srt (shK G C m T k).1 (shK G C m T k).2 ∧ (∀ i, 0 ≤ (shK G C m T k).1 i ∧ (shK G C m T k).1 i ≤ 99)
  | 0 => ⟨by simp [shK], fun i j h1 h2 h3 => by simp [shK] at h3; omega, hT⟩
  | k + 1 => by
    obtain ⟨a, b, d⟩ := shK_ok G C m hT k
    simp only [shK]
    split
    · exact ⟨by omega, b, d⟩
    · rename_i h
      have := lsUp_rg G C ((C : Int) * (k + 1 : Nat) / (m + 1)) 98 1
      exact ⟨by dsimp only; omega, srt_ins b (by simpa using h), insT_rg d (by omega)⟩
theorem dX4_shareThresholds_0 : decode cX4_shareThresholds 0 = .ok (.aload_n 0, 1) := by decide +kernel
theorem dX4_shareThresholds_1 : decode cX4_shareThresholds 1 = .ok (.iconst 0, 1) := by decide +kernel
theorem dX4_shareThresholds_2 : decode cX4_shareThresholds 2 = .ok (.putfield 28, 3) := by decide +kernel
theorem dX4_shareThresholds_5 : decode cX4_shareThresholds 5 = .ok (.iconst 1, 1) := by decide +kernel
theorem dX4_shareThresholds_6 : decode cX4_shareThresholds 6 = .ok (.istore_n 2, 1) := by decide +kernel
theorem dX4_shareThresholds_7 : decode cX4_shareThresholds 7 = .ok (.iload_n 2, 1) := by decide +kernel
theorem dX4_shareThresholds_8 : decode cX4_shareThresholds 8 = .ok (.iload_n 1, 1) := by decide +kernel
theorem dX4_shareThresholds_9 : decode cX4_shareThresholds 9 = .ok (.if_icmp .gt 38, 3) := by decide +kernel
theorem dX4_shareThresholds_12 : decode cX4_shareThresholds 12 = .ok (.aload_n 0, 1) := by decide +kernel
theorem dX4_shareThresholds_13 : decode cX4_shareThresholds 13 = .ok (.aload_n 0, 1) := by decide +kernel
theorem dX4_shareThresholds_14 : decode cX4_shareThresholds 14 = .ok (.invokevirtual 56, 3) := by decide +kernel
theorem dX4_shareThresholds_17 : decode cX4_shareThresholds 17 = .ok (.iload_n 2, 1) := by decide +kernel
theorem dX4_shareThresholds_18 : decode cX4_shareThresholds 18 = .ok (.imul, 1) := by decide +kernel
theorem dX4_shareThresholds_19 : decode cX4_shareThresholds 19 = .ok (.iload_n 1, 1) := by decide +kernel
theorem dX4_shareThresholds_20 : decode cX4_shareThresholds 20 = .ok (.iconst 1, 1) := by decide +kernel
theorem dX4_shareThresholds_21 : decode cX4_shareThresholds 21 = .ok (.iadd, 1) := by decide +kernel
theorem dX4_shareThresholds_22 : decode cX4_shareThresholds 22 = .ok (.idiv, 1) := by decide +kernel
theorem dX4_shareThresholds_23 : decode cX4_shareThresholds 23 = .ok (.invokevirtual 99, 3) := by decide +kernel
theorem dX4_shareThresholds_26 : decode cX4_shareThresholds 26 = .ok (.istore_n 3, 1) := by decide +kernel
theorem dX4_shareThresholds_27 : decode cX4_shareThresholds 27 = .ok (.aload_n 0, 1) := by decide +kernel
theorem dX4_shareThresholds_28 : decode cX4_shareThresholds 28 = .ok (.iload_n 3, 1) := by decide +kernel
theorem dX4_shareThresholds_29 : decode cX4_shareThresholds 29 = .ok (.invokevirtual 80, 3) := by decide +kernel
theorem dX4_shareThresholds_32 : decode cX4_shareThresholds 32 = .ok (.iconst (-1), 1) := by decide +kernel
theorem dX4_shareThresholds_33 : decode cX4_shareThresholds 33 = .ok (.if_icmp .ne 8, 3) := by decide +kernel
theorem dX4_shareThresholds_36 : decode cX4_shareThresholds 36 = .ok (.aload_n 0, 1) := by decide +kernel
theorem dX4_shareThresholds_37 : decode cX4_shareThresholds 37 = .ok (.iload_n 3, 1) := by decide +kernel
theorem dX4_shareThresholds_38 : decode cX4_shareThresholds 38 = .ok (.invokevirtual 84, 3) := by decide +kernel
theorem dX4_shareThresholds_41 : decode cX4_shareThresholds 41 = .ok (.iinc 2 1, 3) := by decide +kernel
theorem dX4_shareThresholds_44 : decode cX4_shareThresholds 44 = .ok (.goto (-37), 3) := by decide +kernel
theorem dX4_shareThresholds_47 : decode cX4_shareThresholds 47 = .ok (.aload_n 0, 1) := by decide +kernel
theorem dX4_shareThresholds_48 : decode cX4_shareThresholds 48 = .ok (.getfield 28, 3) := by decide +kernel
theorem dX4_shareThresholds_51 : decode cX4_shareThresholds 51 = .ok (.ireturn, 1) := by decide +kernel
theorem c_shareThresholds {n m : Int} (hd : dim c r) (hG : ∀ i, 0 ≤ G i ∧ G i ≤ 99) (hT : ∀ i, 0 ≤ T i ∧ T i ≤ 99) (hm : 0 ≤ m ∧ m ≤ 5) : Cd l yX4_shareThresholds cX4_shareThresholds 4 (some .int) rmX4_shareThresholds [.ref 0, iv m] (stM c r G T n le Hh li) (some (iv (shK G (c * r).toNat m T m.toNat).2)) (stM c r G (shK G (c * r).toNat m T m.toNat).1 (shK G (c * r).toNat m T m.toNat).2 le Hh li) := by
  refine Ct.of miX4_shareThresholds (Nat.le_of_ble_eq_true rfl) ?_
  intro X hXl hN ok
  refine AW.cast (L2 := [some (.ref 0), some (iv m), none, none]) ?_ rfl rfl rfl
  have hc := dim_cells hd
  have hC : (((c * r).toNat : Nat) : Int) = c * r := Int.toNat_of_nonneg (by omega)
  have loop : ∀ k : Nat, k ≤ m → AW X 0 0 7 [some (.ref 0), some (iv m), some (iv ((k + 1 : Nat) : Int)), none] [] (stM c r G (shK G (c * r).toNat m T k).1 (shK G (c * r).toNat m T k).2 le Hh li) := by
    refine wfl (fun k : Nat => (m - k).toNat) _ _ ?_
    intro k hk ih
    obtain ⟨q1, q2, q3⟩ := shK_ok G (c * r).toNat m hT k
    have hr : ∀ i, rg ((shK G (c * r).toNat m T k).1 i) := fun i => by have := q3 i; unfold rg; omega
    have hm1 : 0 ≤ c * r * ((k + 1 : Nat) : Int) ∧ c * r * ((k + 1 : Nat) : Int) ≤ 144 * ((k + 1 : Nat) : Int) := ⟨Int.mul_nonneg (by omega) (by omega), Int.mul_le_mul_of_nonneg_right (by omega) (by omega)⟩
    have hw : 0 ≤ c * r * ((k + 1 : Nat) : Int) / (m + 1) ∧ c * r * ((k + 1 : Nat) : Int) / (m + 1) ≤ c * r * ((k + 1 : Nat) : Int) := ⟨Int.ediv_nonneg hm1.1 (by omega), Int.ediv_le_self _ hm1.1⟩
    have hls := lsUp_rg G (c * r).toNat (c * r * ((k + 1 : Nat) : Int) / (m + 1)) 98 1
    have e1 : hasT (shK G (c * r).toNat m T k).1 (shK G (c * r).toNat m T k).2 (lsUp G (c * r).toNat (c * r * ((k + 1 : Nat) : Int) / (m + 1)) 98 1) = true → shK G (c * r).toNat m T (k + 1) = shK G (c * r).toNat m T k := fun h => by simp only [shK]; rw [hC, if_pos h]
    have e0 : hasT (shK G (c * r).toNat m T k).1 (shK G (c * r).toNat m T k).2 (lsUp G (c * r).toNat (c * r * ((k + 1 : Nat) : Int) / (m + 1)) 98 1) = false → shK G (c * r).toNat m T (k + 1) = (insT (shK G (c * r).toNat m T k).1 (shK G (c * r).toNat m T k).2 (lsUp G (c * r).toNat (c * r * ((k + 1 : Nat) : Int) / (m + 1)) 98 1), (shK G (c * r).toNat m T k).2 + 1) := fun h => by simp only [shK]; rw [hC, if_neg (by rw [h]; decide)]
    have nx : ∀ A : (Int → Int) × Nat, A = shK G (c * r).toNat m T (k + 1) → (k + 1 : Nat) ≤ m → ∀ q : Value, AW X 0 0 41 [some (.ref 0), some (iv m), some (iv ((k + 1 : Nat) : Int)), some q] [] (stM c r G A.1 A.2 le Hh li) := by
      intro A hA hk1 q
      subst hA
      refine a_iinc (pc := 41) ok dX4_shareThresholds_41 rfl rfl (by rw [hN]; decide) ?_
      refine a_goto (pc := 44) (tgt := 7) ok dX4_shareThresholds_44 (by decide) ?_
      exact AW.forget (ih (k + 1) hk1 (by omega)) ⟨rfl, rfl, rfl, trivial⟩
    refine a_iload_n (pc := 7) ok dX4_shareThresholds_7 rfl ?_
    refine a_iload_n (pc := 8) ok dX4_shareThresholds_8 rfl ?_
    refine a_icmp_gt (pc := 9) (tgt := 47) ok dX4_shareThresholds_9 (by decide) (by first | omega | (unfold rg; omega) | (simp only [rg] at *; omega) | exact bz_rg _ | grind [rg]) (by first | omega | (unfold rg; omega) | (simp only [rg] at *; omega) | exact bz_rg _ | grind [rg]) (fun c9 => ?_) (fun c9 => ?_)
    · refine a_aload_n (pc := 47) ok dX4_shareThresholds_47 rfl ?_
      refine a_getf (pc := 48) ok dX4_shareThresholds_48 fl4_28 rfl rfl ?_
      exact a_iret (pc := 51) ok dX4_shareThresholds_51 (by rw [show m.toNat = k by omega]; exact ⟨rfl, rfl⟩)
    · refine a_aload_n (pc := 12) ok dX4_shareThresholds_12 rfl ?_
      refine a_aload_n (pc := 13) ok dX4_shareThresholds_13 rfl ?_
      refine a_callVp (pc := 14) ok [0, 1, 2, 3] dX4_shareThresholds_14 mv4_56 miX4_cellCount (c_cellCount) ⟨by decide, by decide, rfl, rfl, Nat.zero_le _, Nat.zero_le _⟩ rfl rfl (by decide) rfl (by decide) rfl rfl ?_
      refine a_iload_n (pc := 17) ok dX4_shareThresholds_17 rfl ?_
      refine a_imul (pc := 18) ok dX4_shareThresholds_18 ?_
      refine a_iload_n (pc := 19) ok dX4_shareThresholds_19 rfl ?_
      refine a_iconst (pc := 20) ok dX4_shareThresholds_20 ?_
      refine a_iadd (pc := 21) ok dX4_shareThresholds_21 ?_
      refine a_idiv (pc := 22) ok dX4_shareThresholds_22 (by first | omega | (unfold rg; omega) | (simp only [rg] at *; omega) | exact bz_rg _ | grind [rg]) (by first | omega | (unfold rg; omega) | (simp only [rg] at *; omega) | exact bz_rg _ | grind [rg]) ?_
      refine a_callVp (pc := 23) ok [0, 1, 2, 3] dX4_shareThresholds_23 mv4_99 miX4_leastAbove (c_leastAbove hd hG (by unfold rg; omega)) ⟨by decide, by decide, rfl, rfl, Nat.zero_le _, Nat.zero_le _⟩ rfl rfl (by decide) rfl (by decide) rfl rfl ?_
      refine a_istore_n (pc := 26) ok dX4_shareThresholds_26 rfl (by rw [hN]; decide) ?_
      refine a_aload_n (pc := 27) ok dX4_shareThresholds_27 rfl ?_
      refine a_iload_n (pc := 28) ok dX4_shareThresholds_28 rfl ?_
      refine a_callVp (pc := 29) ok [0, 1, 2, 3] dX4_shareThresholds_29 mv4_80 miX4_indexOfThreshold (c_indexOfThreshold (by omega) hr (by unfold rg; omega)) ⟨by decide, by decide, rfl, rfl, Nat.zero_le _, Nat.zero_le _⟩ rfl rfl (by decide) rfl (by decide) rfl rfl ?_
      refine a_iconst (pc := 32) ok dX4_shareThresholds_32 ?_
      refine a_icmp_ne (pc := 33) (tgt := 41) ok dX4_shareThresholds_33 (by decide) (by first | (have := fstK_rg (fun i => (shK G (c * r).toNat m T k).1 i == lsUp G (c * r).toNat (c * r * ((k + 1 : Nat) : Int) / (m + 1)) 98 1) (shK G (c * r).toNat m T k).2; unfold rg; omega) | (unfold rg; omega)) (by first | (have := fstK_rg (fun i => (shK G (c * r).toNat m T k).1 i == lsUp G (c * r).toNat (c * r * ((k + 1 : Nat) : Int) / (m + 1)) 98 1) (shK G (c * r).toNat m T k).2; unfold rg; omega) | (unfold rg; omega)) (fun c33 => ?_) (fun c33 => ?_)
      · first | exact nx (insT (shK G (c * r).toNat m T k).1 (shK G (c * r).toNat m T k).2 (lsUp G (c * r).toNat (c * r * ((k + 1 : Nat) : Int) / (m + 1)) 98 1), (shK G (c * r).toNat m T k).2 + 1) (e0 (by unfold hasT; rw [bne_eq_false_iff_eq]; omega)).symm (by omega) _ | exact nx _ (e1 (by unfold hasT; rw [bne_iff_ne]; omega)).symm (by omega) _
      · refine a_aload_n (pc := 36) ok dX4_shareThresholds_36 rfl ?_
        refine a_iload_n (pc := 37) ok dX4_shareThresholds_37 rfl ?_
        refine a_callVv (pc := 38) ok [0, 1, 2, 3] dX4_shareThresholds_38 mv4_84 miX4_putThreshold (c_putThreshold (by omega) hr q2 (by unfold rg; omega)) ⟨by decide, by decide, rfl, rfl, Nat.zero_le _, Nat.zero_le _⟩ rfl rfl (by decide) rfl (by decide) rfl rfl rfl ?_
        first | exact nx (insT (shK G (c * r).toNat m T k).1 (shK G (c * r).toNat m T k).2 (lsUp G (c * r).toNat (c * r * ((k + 1 : Nat) : Int) / (m + 1)) 98 1), (shK G (c * r).toNat m T k).2 + 1) (e0 (by unfold hasT; rw [bne_eq_false_iff_eq]; omega)).symm (by omega) _ | exact nx _ (e1 (by unfold hasT; rw [bne_iff_ne]; omega)).symm (by omega) _
  refine a_aload_n (pc := 0) ok dX4_shareThresholds_0 rfl ?_
  refine a_iconst (pc := 1) ok dX4_shareThresholds_1 ?_
  refine a_putf (pc := 2) ok dX4_shareThresholds_2 fp4_28 rfl (by first | rfl | decide) (by first | rfl | decide) (Nat.le_of_ble_eq_true rfl) ?_
  refine a_iconst (pc := 5) ok dX4_shareThresholds_5 ?_
  refine a_istore_n (pc := 6) ok dX4_shareThresholds_6 rfl (by rw [hN]; decide) ?_
  exact loop 0 (by omega)
end ST4
