/-! ISLANDS: numbers, a survey; what doesn't hang on cells off the plate. -/
section IS4
variable {l : Launch} {c r ct : Int} {B F S Br Q Fo No b : Int → Int}
theorem cntK_up {p : Int → Bool} {a : Nat} : ∀ {b : Nat}, a ≤ b → cntK p a ≤ cntK p b
  | 0, h => by rw [show a = 0 by omega]; exact Int.le_refl _
  | b + 1, h => by
    by_cases e : a = b + 1
    · rw [e]; exact Int.le_refl _
    · have := cntK_up (p := p) (a := a) (b := b) (by omega)
      simp only [cntK]; split <;> omega
theorem rk_lt {L k : Int} (h0 : 0 ≤ L) (h : L < k) (hl : lw c r B L = L) : rk c r B L < rk c r B k := by
  have e : ((L.toNat : Nat) : Int) = L := Int.toNat_of_nonneg h0
  have h1 := cntK_t (p := fun j => decide (lw c r B j = j)) (k := L.toNat) (decide_eq_true (by rw [e]; exact hl))
  have h2 := cntK_up (p := fun j => decide (lw c r B j = j)) (a := L.toNat + 1) (b := k.toNat) (by omega)
  unfold rk; omega
theorem rk_rg (k : Int) : 0 ≤ rk c r B k ∧ rk c r B k ≤ k.toNat := cntK_rg _ _
theorem rk_mny (hd : dim c r) {L : Int} (h : cel c r L) (hl : lw c r B L = L) : 0 ≤ rk c r B L ∧ rk c r B L < mny c r B := ⟨(rk_rg L).1, rk_lt h.1 h.2 hl⟩
/-- each number is one island's -/
theorem rk_ex (i : Int) (h0 : 0 ≤ i) : ∀ N : Nat, i < cntK (fun j => decide (lw c r B j = j)) N → ∃ L : Int, (0 ≤ L ∧ L < N) ∧ lw c r B L = L ∧ rk c r B L = i
  | 0, h => by simp only [cntK] at h; omega
  | N + 1, h => by
    by_cases e : i < cntK (fun j => decide (lw c r B j = j)) N
    · obtain ⟨L, h1, h2⟩ := rk_ex i h0 N e
      exact ⟨L, by omega, h2⟩
    · by_cases z : lw c r B N = N
      · rw [cntK_t (p := fun j => decide (lw c r B j = j)) (decide_eq_true z)] at h
        exact ⟨N, by omega, z, by show cntK _ N = i; omega⟩
      · rw [cntK_f (p := fun j => decide (lw c r B j = j)) (decide_eq_false z)] at h
        exact absurd h e
theorem rk_on (hd : dim c r) {i : Int} (h0 : 0 ≤ i) (h : i < mny c r B) : ∃ L : Int, cel c r L ∧ lw c r B L = L ∧ rk c r B L = i := by
  have hc := dim_cells hd
  obtain ⟨L, h1, h2⟩ := rk_ex i h0 (c * r).toNat h
  exact ⟨L, ⟨h1.1, by omega⟩, h2⟩
theorem rk_inj {L L' : Int} (h : cel c r L) (hl : lw c r B L = L) (h' : cel c r L') (hl' : lw c r B L' = L') (e : rk c r B L = rk c r B L') : L = L' := by
  have a := h.1
  have a' := h'.1
  rcases Int.lt_trichotomy L L' with z | z | z
  · have := rk_lt a z hl; omega
  · exact z
  · have := rk_lt a' z hl'; omega
theorem dX0_giveNumbers_0 : decode cX0_giveNumbers 0 = .ok (.iconst 0, 1) := by decide +kernel
theorem dX0_giveNumbers_1 : decode cX0_giveNumbers 1 = .ok (.istore_n 1, 1) := by decide +kernel
theorem dX0_giveNumbers_2 : decode cX0_giveNumbers 2 = .ok (.iconst 0, 1) := by decide +kernel
theorem dX0_giveNumbers_3 : decode cX0_giveNumbers 3 = .ok (.istore_n 2, 1) := by decide +kernel
theorem dX0_giveNumbers_4 : decode cX0_giveNumbers 4 = .ok (.iload_n 2, 1) := by decide +kernel
theorem dX0_giveNumbers_5 : decode cX0_giveNumbers 5 = .ok (.aload_n 0, 1) := by decide +kernel
theorem dX0_giveNumbers_6 : decode cX0_giveNumbers 6 = .ok (.getfield 18, 3) := by decide +kernel
theorem dX0_giveNumbers_9 : decode cX0_giveNumbers 9 = .ok (.if_icmp .ge 36, 3) := by decide +kernel
theorem dX0_giveNumbers_12 : decode cX0_giveNumbers 12 = .ok (.aload_n 0, 1) := by decide +kernel
theorem dX0_giveNumbers_13 : decode cX0_giveNumbers 13 = .ok (.getfield 28, 3) := by decide +kernel
theorem dX0_giveNumbers_16 : decode cX0_giveNumbers 16 = .ok (.iload_n 2, 1) := by decide +kernel
theorem dX0_giveNumbers_17 : decode cX0_giveNumbers 17 = .ok (.iaload, 1) := by decide +kernel
theorem dX0_giveNumbers_18 : decode cX0_giveNumbers 18 = .ok (.iload_n 2, 1) := by decide +kernel
theorem dX0_giveNumbers_19 : decode cX0_giveNumbers 19 = .ok (.if_icmp .ne 20, 3) := by decide +kernel
theorem dX0_giveNumbers_22 : decode cX0_giveNumbers 22 = .ok (.aload_n 0, 1) := by decide +kernel
theorem dX0_giveNumbers_23 : decode cX0_giveNumbers 23 = .ok (.getfield 40, 3) := by decide +kernel
theorem dX0_giveNumbers_26 : decode cX0_giveNumbers 26 = .ok (.iload_n 1, 1) := by decide +kernel
theorem dX0_giveNumbers_27 : decode cX0_giveNumbers 27 = .ok (.iload_n 2, 1) := by decide +kernel
theorem dX0_giveNumbers_28 : decode cX0_giveNumbers 28 = .ok (.iastore, 1) := by decide +kernel
theorem dX0_giveNumbers_29 : decode cX0_giveNumbers 29 = .ok (.aload_n 0, 1) := by decide +kernel
theorem dX0_giveNumbers_30 : decode cX0_giveNumbers 30 = .ok (.getfield 43, 3) := by decide +kernel
theorem dX0_giveNumbers_33 : decode cX0_giveNumbers 33 = .ok (.iload_n 2, 1) := by decide +kernel
theorem dX0_giveNumbers_34 : decode cX0_giveNumbers 34 = .ok (.iload_n 1, 1) := by decide +kernel
theorem dX0_giveNumbers_35 : decode cX0_giveNumbers 35 = .ok (.iastore, 1) := by decide +kernel
theorem dX0_giveNumbers_36 : decode cX0_giveNumbers 36 = .ok (.iinc 1 1, 3) := by decide +kernel
theorem dX0_giveNumbers_39 : decode cX0_giveNumbers 39 = .ok (.iinc 2 1, 3) := by decide +kernel
theorem dX0_giveNumbers_42 : decode cX0_giveNumbers 42 = .ok (.goto (-38), 3) := by decide +kernel
theorem dX0_giveNumbers_45 : decode cX0_giveNumbers 45 = .ok (.return_, 1) := by decide +kernel
theorem c_giveNumbers (hd : dim c r) (hF : ∀ k, cel c r k → F k = lw c r B k) : Ct l yX0_giveNumbers cX0_giveNumbers 3 none rmX0_giveNumbers [.ref 0] (isM c r (c * r) ct B F S Br Q Fo No)
    (fun v M => v = none ∧ ∃ Fo' No' : Int → Int, M = isM c r (c * r) ct B F S Br Q Fo' No' ∧ ∀ L, cel c r L → lw c r B L = L → Fo' (rk c r B L) = L ∧ No' L = rk c r B L) := by
  refine Ct.of miX0_giveNumbers (Nat.le_of_ble_eq_true rfl) ?_
  intro X hXl hN ok
  refine AW.cast (L2 := [some (.ref 0), none, none]) ?_ rfl rfl rfl
  have hc := dim_cells hd
  have loop : ∀ q : Nat × (Int → Int) × (Int → Int), ((q.1 : Int) ≤ c * r ∧ ∀ L : Int, 0 ≤ L → L < q.1 → lw c r B L = L → q.2.1 (rk c r B L) = L ∧ q.2.2 L = rk c r B L) →
      AW X 0 0 4 [some (.ref 0), some (iv (rk c r B q.1)), some (iv q.1)] [] (isM c r (c * r) ct B F S Br Q q.2.1 q.2.2) := by
    refine wfl (fun q : Nat × (Int → Int) × (Int → Int) => 145 - q.1) _ _ ?_
    rintro ⟨k, Fo, No⟩ ⟨h1, h2⟩ ih
    dsimp only at h1 h2 ih ⊢
    have hFk : (k : Int) < c * r → F k = lw c r B k := fun h => hF k ⟨by omega, h⟩
    have hlk := lw_rg (B := B) hd k
    have hr := rk_rg (c := c) (r := r) (B := B) k
    have e1 : lw c r B k = k → rk c r B k + 1 = rk c r B ((k + 1 : Nat) : Int) := fun h => (cntK_t (p := fun j => decide (lw c r B j = j)) (decide_eq_true h)).symm
    have e2 : lw c r B k ≠ k → rk c r B k = rk c r B ((k + 1 : Nat) : Int) := fun h => (cntK_f (p := fun j => decide (lw c r B j = j)) (decide_eq_false h)).symm
    have s1 : lw c r B k = k → ∀ L : Int, 0 ≤ L → L < ((k + 1 : Nat) : Int) → lw c r B L = L → up Fo (rk c r B k) k (rk c r B L) = L ∧ up No k (rk c r B k) L = rk c r B L := fun h L a1 a2 a3 => by
      unfold up
      by_cases e : L = k
      · subst e; rw [if_pos rfl, if_pos rfl]; exact ⟨rfl, rfl⟩
      · have := rk_lt a1 (show L < (k : Int) by omega) a3
        rw [if_neg (by omega), if_neg e]; exact h2 L a1 (by omega) a3
    have s2 : lw c r B k ≠ k → ∀ L : Int, 0 ≤ L → L < ((k + 1 : Nat) : Int) → lw c r B L = L → Fo (rk c r B L) = L ∧ No L = rk c r B L := fun h L a1 a2 a3 => h2 L a1 (by have : L ≠ k := (fun e => h (by rw [← e]; exact a3)); omega) a3
    refine a_iload_n (pc := 4) ok dX0_giveNumbers_4 rfl ?_
    refine a_aload_n (pc := 5) ok dX0_giveNumbers_5 rfl ?_
    refine a_getf (pc := 6) ok dX0_giveNumbers_6 fl0_18 rfl rfl ?_
    refine a_icmp_ge (pc := 9) (tgt := 45) ok dX0_giveNumbers_9 (by decide) (by first | omega | (unfold rg; omega) | (simp only [rg] at *; omega) | exact bz_rg _ | grind [rg]) (by first | omega | (unfold rg; omega) | (simp only [rg] at *; omega) | exact bz_rg _ | grind [rg]) (fun c9 => ?_) (fun c9 => ?_)
    · exact a_vret (pc := 45) ok dX0_giveNumbers_45 (⟨rfl, Fo, No, rfl, fun L hL hl => h2 L hL.1 (by have := hL.2; omega) hl⟩)
    · refine a_aload_n (pc := 12) ok dX0_giveNumbers_12 rfl ?_
      refine a_getf (pc := 13) ok dX0_giveNumbers_13 fl0_28 rfl rfl ?_
      refine a_iload_n (pc := 16) ok dX0_giveNumbers_16 rfl ?_
      refine a_iald (pc := 17) ok dX0_giveNumbers_17 rfl (by first | decide | omega) (by first | omega | (unfold rg; omega) | (simp only [rg] at *; omega) | exact bz_rg _ | grind [rg]) ?_
      refine a_iload_n (pc := 18) ok dX0_giveNumbers_18 rfl ?_
      refine a_icmp_ne (pc := 19) (tgt := 39) ok dX0_giveNumbers_19 (by decide) (by have := hFk (by omega); unfold rg; omega) (by have := hFk (by omega); unfold rg; omega) (fun c19 => ?_) (fun c19 => ?_)
      · refine a_iinc (pc := 39) ok dX0_giveNumbers_39 rfl rfl (by rw [hN]; decide) ?_
        refine a_goto (pc := 42) (tgt := 4) ok dX0_giveNumbers_42 (by decide) ?_
        first
        | exact AW.cast (ih (k + 1, _, _) ⟨by dsimp only; omega, s1 (by have := hFk (by omega); omega)⟩ (by dsimp only; omega)) (by dsimp only; rw [← e1 (by have := hFk (by omega); omega)]; rfl) rfl rfl
        | exact AW.cast (ih (k + 1, Fo, No) ⟨by dsimp only; omega, s2 (by have := hFk (by omega); omega)⟩ (by dsimp only; omega)) (by dsimp only; rw [← e2 (by have := hFk (by omega); omega)]; rfl) rfl rfl
      · refine a_aload_n (pc := 22) ok dX0_giveNumbers_22 rfl ?_
        refine a_getf (pc := 23) ok dX0_giveNumbers_23 fl0_40 rfl rfl ?_
        refine a_iload_n (pc := 26) ok dX0_giveNumbers_26 rfl ?_
        refine a_iload_n (pc := 27) ok dX0_giveNumbers_27 rfl ?_
        refine a_iast (pc := 28) ok dX0_giveNumbers_28 rfl (by first | decide | omega) (by first | omega | (unfold rg; omega) | (simp only [rg] at *; omega) | exact bz_rg _ | grind [rg]) ?_
        refine a_aload_n (pc := 29) ok dX0_giveNumbers_29 rfl ?_
        refine a_getf (pc := 30) ok dX0_giveNumbers_30 fl0_43 rfl rfl ?_
        refine a_iload_n (pc := 33) ok dX0_giveNumbers_33 rfl ?_
        refine a_iload_n (pc := 34) ok dX0_giveNumbers_34 rfl ?_
        refine a_iast (pc := 35) ok dX0_giveNumbers_35 rfl (by first | decide | omega) (by first | omega | (unfold rg; omega) | (simp only [rg] at *; omega) | exact bz_rg _ | grind [rg]) ?_
        refine a_iinc (pc := 36) ok dX0_giveNumbers_36 rfl rfl (by rw [hN]; decide) ?_
        refine a_iinc (pc := 39) ok dX0_giveNumbers_39 rfl rfl (by rw [hN]; decide) ?_
        refine a_goto (pc := 42) (tgt := 4) ok dX0_giveNumbers_42 (by decide) ?_
        first
        | exact AW.cast (ih (k + 1, _, _) ⟨by dsimp only; omega, s1 (by have := hFk (by omega); omega)⟩ (by dsimp only; omega)) (by dsimp only; rw [← e1 (by have := hFk (by omega); omega)]; rfl) rfl rfl
        | exact AW.cast (ih (k + 1, Fo, No) ⟨by dsimp only; omega, s2 (by have := hFk (by omega); omega)⟩ (by dsimp only; omega)) (by dsimp only; rw [← e2 (by have := hFk (by omega); omega)]; rfl) rfl rfl
  refine a_iconst (pc := 0) ok dX0_giveNumbers_0 ?_
  refine a_istore_n (pc := 1) ok dX0_giveNumbers_1 rfl (by rw [hN]; decide) ?_
  refine a_iconst (pc := 2) ok dX0_giveNumbers_2 ?_
  refine a_istore_n (pc := 3) ok dX0_giveNumbers_3 rfl (by rw [hN]; decide) ?_
  exact AW.cast (loop (0, Fo, No) ⟨by dsimp only; omega, fun L a1 a2 => by dsimp only at a2; omega⟩) rfl rfl rfl
/-- bands by greys -/
def bnd (T : Int → Int) (n : Nat) (G : Int → Int) : Int → Int := fun k => bandN T n (G k)
theorem dX0_survey_0 : decode cX0_survey 0 = .ok (.aload_n 0, 1) := by decide +kernel
theorem dX0_survey_1 : decode cX0_survey 1 = .ok (.aload_n 1, 1) := by decide +kernel
theorem dX0_survey_2 : decode cX0_survey 2 = .ok (.getfield 46, 3) := by decide +kernel
theorem dX0_survey_5 : decode cX0_survey 5 = .ok (.putfield 9, 3) := by decide +kernel
theorem dX0_survey_8 : decode cX0_survey 8 = .ok (.aload_n 0, 1) := by decide +kernel
theorem dX0_survey_9 : decode cX0_survey 9 = .ok (.aload_n 1, 1) := by decide +kernel
theorem dX0_survey_10 : decode cX0_survey 10 = .ok (.getfield 49, 3) := by decide +kernel
theorem dX0_survey_13 : decode cX0_survey 13 = .ok (.putfield 15, 3) := by decide +kernel
theorem dX0_survey_16 : decode cX0_survey 16 = .ok (.aload_n 0, 1) := by decide +kernel
theorem dX0_survey_17 : decode cX0_survey 17 = .ok (.aload_n 1, 1) := by decide +kernel
theorem dX0_survey_18 : decode cX0_survey 18 = .ok (.invokevirtual 50, 3) := by decide +kernel
theorem dX0_survey_21 : decode cX0_survey 21 = .ok (.putfield 18, 3) := by decide +kernel
theorem dX0_survey_24 : decode cX0_survey 24 = .ok (.aload_n 0, 1) := by decide +kernel
theorem dX0_survey_25 : decode cX0_survey 25 = .ok (.iconst 0, 1) := by decide +kernel
theorem dX0_survey_26 : decode cX0_survey 26 = .ok (.putfield 21, 3) := by decide +kernel
theorem dX0_survey_29 : decode cX0_survey 29 = .ok (.iconst 0, 1) := by decide +kernel
theorem dX0_survey_30 : decode cX0_survey 30 = .ok (.istore_n 3, 1) := by decide +kernel
theorem dX0_survey_31 : decode cX0_survey 31 = .ok (.iload_n 3, 1) := by decide +kernel
theorem dX0_survey_32 : decode cX0_survey 32 = .ok (.aload_n 0, 1) := by decide +kernel
theorem dX0_survey_33 : decode cX0_survey 33 = .ok (.getfield 18, 3) := by decide +kernel
theorem dX0_survey_36 : decode cX0_survey 36 = .ok (.if_icmp .ge 32, 3) := by decide +kernel
theorem dX0_survey_39 : decode cX0_survey 39 = .ok (.aload_n 0, 1) := by decide +kernel
theorem dX0_survey_40 : decode cX0_survey 40 = .ok (.getfield 24, 3) := by decide +kernel
theorem dX0_survey_43 : decode cX0_survey 43 = .ok (.iload_n 3, 1) := by decide +kernel
theorem dX0_survey_44 : decode cX0_survey 44 = .ok (.aload_n 1, 1) := by decide +kernel
theorem dX0_survey_45 : decode cX0_survey 45 = .ok (.aload_n 1, 1) := by decide +kernel
theorem dX0_survey_46 : decode cX0_survey 46 = .ok (.getfield 54, 3) := by decide +kernel
theorem dX0_survey_49 : decode cX0_survey 49 = .ok (.iload_n 3, 1) := by decide +kernel
theorem dX0_survey_50 : decode cX0_survey 50 = .ok (.iaload, 1) := by decide +kernel
theorem dX0_survey_51 : decode cX0_survey 51 = .ok (.invokevirtual 57, 3) := by decide +kernel
theorem dX0_survey_54 : decode cX0_survey 54 = .ok (.iastore, 1) := by decide +kernel
theorem dX0_survey_55 : decode cX0_survey 55 = .ok (.aload_n 0, 1) := by decide +kernel
theorem dX0_survey_56 : decode cX0_survey 56 = .ok (.getfield 28, 3) := by decide +kernel
theorem dX0_survey_59 : decode cX0_survey 59 = .ok (.iload_n 3, 1) := by decide +kernel
theorem dX0_survey_60 : decode cX0_survey 60 = .ok (.iconst (-1), 1) := by decide +kernel
theorem dX0_survey_61 : decode cX0_survey 61 = .ok (.iastore, 1) := by decide +kernel
theorem dX0_survey_62 : decode cX0_survey 62 = .ok (.iinc 3 1, 3) := by decide +kernel
theorem dX0_survey_65 : decode cX0_survey 65 = .ok (.goto (-34), 3) := by decide +kernel
theorem dX0_survey_68 : decode cX0_survey 68 = .ok (.iconst 0, 1) := by decide +kernel
theorem dX0_survey_69 : decode cX0_survey 69 = .ok (.istore_n 3, 1) := by decide +kernel
theorem dX0_survey_70 : decode cX0_survey 70 = .ok (.iload_n 3, 1) := by decide +kernel
theorem dX0_survey_71 : decode cX0_survey 71 = .ok (.aload_n 0, 1) := by decide +kernel
theorem dX0_survey_72 : decode cX0_survey 72 = .ok (.getfield 18, 3) := by decide +kernel
theorem dX0_survey_75 : decode cX0_survey 75 = .ok (.if_icmp .ge 24, 3) := by decide +kernel
theorem dX0_survey_78 : decode cX0_survey 78 = .ok (.aload_n 0, 1) := by decide +kernel
theorem dX0_survey_79 : decode cX0_survey 79 = .ok (.getfield 28, 3) := by decide +kernel
theorem dX0_survey_82 : decode cX0_survey 82 = .ok (.iload_n 3, 1) := by decide +kernel
theorem dX0_survey_83 : decode cX0_survey 83 = .ok (.iaload, 1) := by decide +kernel
theorem dX0_survey_84 : decode cX0_survey 84 = .ok (.iconst (-1), 1) := by decide +kernel
theorem dX0_survey_85 : decode cX0_survey 85 = .ok (.if_icmp .ne 8, 3) := by decide +kernel
theorem dX0_survey_88 : decode cX0_survey 88 = .ok (.aload_n 0, 1) := by decide +kernel
theorem dX0_survey_89 : decode cX0_survey 89 = .ok (.iload_n 3, 1) := by decide +kernel
theorem dX0_survey_90 : decode cX0_survey 90 = .ok (.invokevirtual 61, 3) := by decide +kernel
theorem dX0_survey_93 : decode cX0_survey 93 = .ok (.iinc 3 1, 3) := by decide +kernel
theorem dX0_survey_96 : decode cX0_survey 96 = .ok (.goto (-26), 3) := by decide +kernel
theorem dX0_survey_99 : decode cX0_survey 99 = .ok (.aload_n 0, 1) := by decide +kernel
theorem dX0_survey_100 : decode cX0_survey 100 = .ok (.iload_n 2, 1) := by decide +kernel
theorem dX0_survey_101 : decode cX0_survey 101 = .ok (.invokevirtual 65, 3) := by decide +kernel
theorem dX0_survey_104 : decode cX0_survey 104 = .ok (.aload_n 0, 1) := by decide +kernel
theorem dX0_survey_105 : decode cX0_survey 105 = .ok (.invokevirtual 68, 3) := by decide +kernel
theorem dX0_survey_108 : decode cX0_survey 108 = .ok (.return_, 1) := by decide +kernel
theorem c_survey {c0 r0 m le lst li : Int} {n : Nat} {G T Hh : Int → Int} (hd : dim c r) (hn : n ≤ 5) (hT : ∀ i, rg (T i)) (hG : ∀ i, rg (G i)) (hle : rg le) (hB : ∀ i, 0 ≤ B i ∧ B i ≤ 5) (hF : ∀ i, rg (F i)) (hS : ∀ i, rg (S i)) :
    Ct l yX0_survey cX0_survey 4 none rmX0_survey [.ref 0, .ref 8, iv le] (isM c0 r0 m ct B F S Br Q Fo No ++ stA 8 c r G T n lst Hh li)
    (fun v M => v = none ∧ ∃ B1 B' F' S' Br' Q' Fo' No' : Int → Int, M = isM c r (c * r) (mny c r B') B' F' S' Br' Q' Fo' No' ++ stA 8 c r G T n lst Hh li ∧ (∀ k, cel c r k → B1 k = bnd T n G k) ∧ B' = mrg c r le 144 B1 ∧ IV c r (mny c r B') B' F' S' ∧ ∀ L, cel c r L → lw c r B' L = L → Fo' (rk c r B' L) = L ∧ No' L = rk c r B' L) := by
  refine Ct.of miX0_survey (Nat.le_of_ble_eq_true rfl) ?_
  intro X hXl hN ok
  refine AW.cast (L2 := [some (.ref 0), some (.ref 8), some (iv le), none]) ?_ rfl rfl rfl
  have hc := dim_cells hd
  have loop2 : ∀ B : Int → Int, (∀ i, 0 ≤ B i ∧ B i ≤ 5) → (∀ k, cel c r k → B k = bnd T n G k) → ∀ q : Nat × (Int → Int) × (Int → Int) × (Int → Int), ((q.1 : Int) ≤ c * r ∧ (∀ i, rg (q.2.1 i)) ∧ (∀ i, rg (q.2.2.1 i)) ∧ (∀ j, cel c r j → q.2.1 j = if lw c r B j < q.1 then lw c r B j else -1) ∧ (∀ L : Int, 0 ≤ L → L < q.1 → lw c r B L = L → q.2.2.1 L = siz c r B L)) →
      AW X 0 0 70 [some (.ref 0), some (.ref 8), some (iv le), some (iv q.1)] [] (isM c r (c * r) (rk c r B q.1) B q.2.1 q.2.2.1 Br q.2.2.2 Fo No ++ stA 8 c r G T n lst Hh li) := by
    intro B hB hBb
    refine wfl (fun q : Nat × (Int → Int) × (Int → Int) × (Int → Int) => 145 - q.1) _ _ ?_
    rintro ⟨k, F, S, Q⟩ ⟨h1, h2, h3, h4, h5⟩ ih
    dsimp only at h1 h2 h3 h4 h5 ih ⊢
    have h2k := h2 k
    have hck : (k : Int) < c * r → cel c r k := fun h => ⟨by omega, h⟩
    have hB2 : ∀ i, rg (B i) := fun i => by have := hB i; unfold rg; omega
    have hF2 : ∀ j, cel c r j → F j ≠ -2 := fun j hj => by rw [h4 j hj]; have := (lw_ok (B := B) hd hj).1.1; split <;> omega
    have e2 : lw c r B k ≠ k → rk c r B k = rk c r B ((k + 1 : Nat) : Int) := fun h => (cntK_f (p := fun j => decide (lw c r B j = j)) (decide_eq_false h)).symm
    have new : (k : Int) < c * r → F k = -1 → lw c r B k = k := fun h e => by
      have a := h4 k (hck h)
      have b := (lw_ok (B := B) hd (hck h))
      have b1 := b.1.1
      have b2 := b.2.1
      rw [e] at a
      split at a <;> omega
    have old : (k : Int) < c * r → F k ≠ -1 → lw c r B k ≠ k := fun h e z => by
      have a := h4 k (hck h)
      rw [if_neg (by omega)] at a
      exact e a
    have s2 : (k : Int) < c * r → lw c r B k ≠ k → ∀ j, cel c r j → F j = if lw c r B j < ((k + 1 : Nat) : Int) then lw c r B j else -1 := fun h z j hj => by
      rw [h4 j hj]
      have : lw c r B j ≠ k := fun e => z (by rw [← e]; exact lw_lw hd hj)
      by_cases y : lw c r B j < k
      · rw [if_pos y, if_pos (by omega)]
      · rw [if_neg y, if_neg (by omega)]
    have s3 : lw c r B k ≠ k → ∀ L : Int, 0 ≤ L → L < ((k + 1 : Nat) : Int) → lw c r B L = L → S L = siz c r B L := fun z L a1 a2 a3 => h5 L a1 (by have : L ≠ k := (fun e => z (by rw [← e]; exact a3)); omega) a3
    have e1 : (k : Int) < c * r → lw c r B k = k → rk c r B k - cntK (fun j => tr (con (EB c r B) k j ∧ F j = j)) (c * r).toNat + 1 = rk c r B ((k + 1 : Nat) : Int) := fun h z => by
      have a : rk c r B ((k + 1 : Nat) : Int) = rk c r B k + 1 := cntK_t (p := fun j => decide (lw c r B j = j)) (decide_eq_true z)
      have b : cntK (fun j => tr (con (EB c r B) k j ∧ F j = j)) (c * r).toNat = 0 := cntK_none fun j hj => tr_f.mpr fun ⟨y1, y2⟩ => by
        have hj2 : cel c r j := ⟨by omega, by omega⟩
        have y3 := lw_eq hd y1
        rw [h4 j hj2, if_neg (by omega)] at y2
        omega
      omega
    have s4 : (k : Int) < c * r → lw c r B k = k → ∀ j, cel c r j → mkF F (con (EB c r B) k) (lw c r B k) j = if lw c r B j < ((k + 1 : Nat) : Int) then lw c r B j else -1 := fun h z j hj => by
      by_cases y : con (EB c r B) k j
      · have y3 := lw_eq hd y
        rw [mkF_t y, if_pos (by omega)]; exact y3
      · have : lw c r B j ≠ k := fun e => y ((lw_iff hd (hck h) hj).mp (by rw [e, z]))
        rw [mkF_f y, h4 j hj]
        by_cases x : lw c r B j < k
        · rw [if_pos x, if_pos (by omega)]
        · rw [if_neg x, if_neg (by omega)]
    have s5 : (k : Int) < c * r → lw c r B k = k → ∀ L : Int, 0 ≤ L → L < ((k + 1 : Nat) : Int) → lw c r B L = L → up S (lw c r B k) (cntK (fun j => tr (con (EB c r B) k j)) (c * r).toNat) L = siz c r B L := fun h z L a1 a2 a3 => by
      unfold up
      rw [← siz_con (B := B) hd (hck h), z]
      by_cases y : L = k
      · rw [if_pos y, y]
      · rw [if_neg y]; exact h5 L a1 (by omega) a3
    have hcr := cntK_rg (fun j => tr (con (EB c r B) k j)) (c * r).toNat
    have s6 : ∀ i, rg (mkF F (con (EB c r B) k) (lw c r B k) i) := fun i => by
      by_cases z : con (EB c r B) k i
      · rw [mkF_t z]; have := lw_rg (B := B) hd k; unfold rg; omega
      · rw [mkF_f z]; exact h2 i
    refine a_iload_n (pc := 70) ok dX0_survey_70 rfl ?_
    refine a_aload_n (pc := 71) ok dX0_survey_71 rfl ?_
    refine a_getf (pc := 72) ok dX0_survey_72 fl0_18 rfl rfl ?_
    refine a_icmp_ge (pc := 75) (tgt := 99) ok dX0_survey_75 (by decide) (by first | omega | (unfold rg; omega) | (simp only [rg] at *; omega) | exact bz_rg _ | grind [rg]) (by first | omega | (unfold rg; omega) | (simp only [rg] at *; omega) | exact bz_rg _ | grind [rg]) (fun c75 => ?_) (fun c75 => ?_)
    · have ek : (k : Int) = c * r := by omega
      have em : rk c r B k = mny c r B := by rw [ek]; rfl
      have hIV : IV c r (mny c r B) B F S := ⟨hB, h2, h3, fun j hj => by rw [h4 j hj, if_pos (by have := (lw_ok (B := B) hd hj).1.2; omega)], fun L hL hl => h5 L hL.1 (by have := hL.2; omega) hl, rfl⟩
      rw [em]
      refine a_aload_n (pc := 99) ok dX0_survey_99 rfl ?_
      refine a_iload_n (pc := 100) ok dX0_survey_100 rfl ?_
      refine a_callV (pc := 101) ok [0, 1, 2, 3, 4, 5, 6, 7] dX0_survey_101 mv0_65 miX0_mergeBelow (c_mergeBelow hd hle hIV) ⟨by decide, by decide, rfl, rfl, Nat.zero_le _, Nat.zero_le _⟩ rfl rfl (Nat.le_of_ble_eq_true rfl) rfl (by decide) rfl rfl (fun v M' h => by obtain ⟨_, F', S', Br', Q', h, _⟩ := h; rw [h]; rfl) ?_
      rintro v M' ⟨rfl, F', S', Br', Q', rfl, hIV2⟩
      refine AW.cast (M2 := isM c r (c * r) (mny c r (mrg c r le 144 B)) (mrg c r le 144 B) F' S' Br' Q' Fo No ++ stA 8 c r G T n lst Hh li) ?_ rfl rfl rfl
      refine a_aload_n (pc := 104) ok dX0_survey_104 rfl ?_
      refine a_callV (pc := 105) ok [0, 1, 2, 3, 4, 5, 6, 7] dX0_survey_105 mv0_68 miX0_giveNumbers (c_giveNumbers hd hIV2.2.2.2.1) ⟨by decide, by decide, rfl, rfl, Nat.zero_le _, Nat.zero_le _⟩ rfl rfl (Nat.le_of_ble_eq_true rfl) rfl (by decide) rfl rfl (fun v M' h => by obtain ⟨_, F', S', h, _⟩ := h; rw [h]; rfl) ?_
      rintro v M' ⟨rfl, Fo', No', rfl, hN2⟩
      refine AW.cast (M2 := isM c r (c * r) (mny c r (mrg c r le 144 B)) (mrg c r le 144 B) F' S' Br' Q' Fo' No' ++ stA 8 c r G T n lst Hh li) ?_ rfl rfl rfl
      exact a_vret (pc := 108) ok dX0_survey_108 (⟨rfl, B, mrg c r le 144 B, F', S', Br', Q', Fo', No', rfl, hBb, rfl, hIV2, hN2⟩)
    · refine a_aload_n (pc := 78) ok dX0_survey_78 rfl ?_
      refine a_getf (pc := 79) ok dX0_survey_79 fl0_28 rfl rfl ?_
      refine a_iload_n (pc := 82) ok dX0_survey_82 rfl ?_
      refine a_iald (pc := 83) ok dX0_survey_83 rfl (by first | decide | omega) (by first | omega | (unfold rg; omega) | (simp only [rg] at *; omega) | exact bz_rg _ | grind [rg]) ?_
      refine a_iconst (pc := 84) ok dX0_survey_84 ?_
      refine a_icmp_ne (pc := 85) (tgt := 93) ok dX0_survey_85 (by decide) (by first | omega | (unfold rg; omega) | (simp only [rg] at *; omega) | exact bz_rg _ | grind [rg]) (by first | omega | (unfold rg; omega) | (simp only [rg] at *; omega) | exact bz_rg _ | grind [rg]) (fun c85 => ?_) (fun c85 => ?_)
      · refine a_iinc (pc := 93) ok dX0_survey_93 rfl rfl (by rw [hN]; decide) ?_
        refine a_goto (pc := 96) (tgt := 70) ok dX0_survey_96 (by decide) ?_
        first
        | exact AW.cast (ih (k + 1, _, _, Q') ⟨by dsimp only; omega, s6, up_rg h3 (by unfold rg; omega), s4 (by omega) z, s5 (by omega) z⟩ (by dsimp only; omega)) rfl rfl rfl
        | exact AW.cast (ih (k + 1, F, S, Q) ⟨by dsimp only; omega, h2, h3, s2 (by omega) (old (by omega) c85), s3 (old (by omega) c85)⟩ (by dsimp only; omega)) rfl rfl (by dsimp only; rw [e2 (old (by omega) c85)])
      · refine a_aload_n (pc := 88) ok dX0_survey_88 rfl ?_
        refine a_iload_n (pc := 89) ok dX0_survey_89 rfl ?_
        refine a_callV (pc := 90) ok [0, 1, 2, 3, 4, 5, 6, 7] dX0_survey_90 mv0_61 miX0_gather (c_gather hd (hck (by omega)) hB2 h2 hF2) ⟨by decide, by decide, rfl, rfl, Nat.zero_le _, Nat.zero_le _⟩ rfl rfl (Nat.le_of_ble_eq_true rfl) rfl (by decide) rfl rfl (fun v M' h => by obtain ⟨_, Q', h, _⟩ := h; rfl) ?_
        rintro v M' ⟨rfl, Q', rfl⟩
        have z := new (by omega) c85
        rw [e1 (by omega) z]
        refine AW.cast (M2 := isM c r (c * r) (rk c r B ((k + 1 : Nat) : Int)) B (mkF F (con (EB c r B) k) (lw c r B k)) (up S (lw c r B k) (cntK (fun j => tr (con (EB c r B) k j)) (c * r).toNat)) Br Q' Fo No ++ stA 8 c r G T n lst Hh li) ?_ rfl rfl rfl
        refine a_iinc (pc := 93) ok dX0_survey_93 rfl rfl (by rw [hN]; decide) ?_
        refine a_goto (pc := 96) (tgt := 70) ok dX0_survey_96 (by decide) ?_
        first
        | exact AW.cast (ih (k + 1, _, _, Q') ⟨by dsimp only; omega, s6, up_rg h3 (by unfold rg; omega), s4 (by omega) z, s5 (by omega) z⟩ (by dsimp only; omega)) rfl rfl rfl
        | exact AW.cast (ih (k + 1, F, S, Q) ⟨by dsimp only; omega, h2, h3, s2 (by omega) (old (by omega) c85), s3 (old (by omega) c85)⟩ (by dsimp only; omega)) rfl rfl (by dsimp only; rw [e2 (old (by omega) c85)])
  have loop : ∀ q : Nat × (Int → Int) × (Int → Int), ((q.1 : Int) ≤ c * r ∧ (∀ i, 0 ≤ q.2.1 i ∧ q.2.1 i ≤ 5) ∧ (∀ i, rg (q.2.2 i)) ∧ (∀ j : Int, 0 ≤ j → j < q.1 → q.2.1 j = bnd T n G j ∧ q.2.2 j = -1)) →
      AW X 0 0 31 [some (.ref 0), some (.ref 8), some (iv le), some (iv q.1)] [] (isM c r (c * r) 0 q.2.1 q.2.2 S Br Q Fo No ++ stA 8 c r G T n lst Hh li) := by
    refine wfl (fun q : Nat × (Int → Int) × (Int → Int) => 145 - q.1) _ _ ?_
    rintro ⟨k, B, F⟩ ⟨h1, h2, h3, h4⟩ ih
    dsimp only at h1 h2 h3 h4 ih ⊢
    have hbr := cntK_rg (fun j => decide (T j ≤ G k)) n
    refine a_iload_n (pc := 31) ok dX0_survey_31 rfl ?_
    refine a_aload_n (pc := 32) ok dX0_survey_32 rfl ?_
    refine a_getf (pc := 33) ok dX0_survey_33 fl0_18 rfl rfl ?_
    refine a_icmp_ge (pc := 36) (tgt := 68) ok dX0_survey_36 (by decide) (by first | omega | (unfold rg; omega) | (simp only [rg] at *; omega) | exact bz_rg _ | grind [rg]) (by first | omega | (unfold rg; omega) | (simp only [rg] at *; omega) | exact bz_rg _ | grind [rg]) (fun c36 => ?_) (fun c36 => ?_)
    · refine a_iconst (pc := 68) ok dX0_survey_68 ?_
      refine a_istore_n (pc := 69) ok dX0_survey_69 rfl (by rw [hN]; decide) ?_
      refine AW.cast (loop2 B h2 (fun j hj => (h4 j hj.1 (by have := hj.2; omega)).1) (0, F, S, Q) ⟨by dsimp only; omega, h3, hS, fun j hj => ?_, fun L a1 a2 => by dsimp only at a2; omega⟩) rfl rfl rfl
      have := (lw_ok (B := B) hd hj).1.1
      rw [if_neg (by dsimp only; omega)]; exact (h4 j hj.1 (by have := hj.2; omega)).2
    · refine a_aload_n (pc := 39) ok dX0_survey_39 rfl ?_
      refine a_getf (pc := 40) ok dX0_survey_40 fl0_24 rfl rfl ?_
      refine a_iload_n (pc := 43) ok dX0_survey_43 rfl ?_
      refine a_aload_n (pc := 44) ok dX0_survey_44 rfl ?_
      refine a_aload_n (pc := 45) ok dX0_survey_45 rfl ?_
      refine a_getf (pc := 46) ok dX0_survey_46 fl0_54 rfl rfl ?_
      refine a_iload_n (pc := 49) ok dX0_survey_49 rfl ?_
      refine a_iald (pc := 50) ok dX0_survey_50 rfl (by first | decide | omega) (by first | omega | (unfold rg; omega) | (simp only [rg] at *; omega) | exact bz_rg _ | grind [rg]) ?_
      refine a_callVp (pc := 51) ok [8, 9, 10, 11] dX0_survey_51 mv0_57 miX4_bandOfGrey (c_bandOfGrey hn hT (hG k)) ⟨by decide, by decide, rfl, rfl, Nat.zero_le _, Nat.zero_le _⟩ rfl rfl (Nat.le_of_ble_eq_true rfl) rfl (by decide) rfl rfl ?_
      refine a_iast (pc := 54) ok dX0_survey_54 rfl (by first | decide | omega) (by first | omega | (unfold rg; omega) | (simp only [rg] at *; omega) | exact bz_rg _ | grind [rg]) ?_
      refine a_aload_n (pc := 55) ok dX0_survey_55 rfl ?_
      refine a_getf (pc := 56) ok dX0_survey_56 fl0_28 rfl rfl ?_
      refine a_iload_n (pc := 59) ok dX0_survey_59 rfl ?_
      refine a_iconst (pc := 60) ok dX0_survey_60 ?_
      refine a_iast (pc := 61) ok dX0_survey_61 rfl (by first | decide | omega) (by first | omega | (unfold rg; omega) | (simp only [rg] at *; omega) | exact bz_rg _ | grind [rg]) ?_
      refine a_iinc (pc := 62) ok dX0_survey_62 rfl rfl (by rw [hN]; decide) ?_
      refine a_goto (pc := 65) (tgt := 31) ok dX0_survey_65 (by decide) ?_
      refine AW.cast (ih (k + 1, up B k (bandN T n (G k)), up F k (-1)) ⟨by dsimp only; omega, fun i => ?_, up_rg h3 (by unfold rg; omega), fun j a1 a2 => ?_⟩ (by dsimp only; omega)) rfl rfl rfl
      · unfold up bandN; dsimp only; have := h2 i; split <;> omega
      · unfold up; dsimp only at a2 ⊢
        by_cases e : j = k
        · rw [if_pos e, if_pos e, e]; exact ⟨rfl, rfl⟩
        · rw [if_neg e, if_neg e]; exact h4 j a1 (by omega)
  refine a_aload_n (pc := 0) ok dX0_survey_0 rfl ?_
  refine a_aload_n (pc := 1) ok dX0_survey_1 rfl ?_
  refine a_getf (pc := 2) ok dX0_survey_2 fl0_46 rfl rfl ?_
  refine a_putf (pc := 5) ok dX0_survey_5 fp0_9 rfl (by first | rfl | decide) (by first | rfl | decide) (Nat.le_of_ble_eq_true rfl) ?_
  refine a_aload_n (pc := 8) ok dX0_survey_8 rfl ?_
  refine a_aload_n (pc := 9) ok dX0_survey_9 rfl ?_
  refine a_getf (pc := 10) ok dX0_survey_10 fl0_49 rfl rfl ?_
  refine a_putf (pc := 13) ok dX0_survey_13 fp0_15 rfl (by first | rfl | decide) (by first | rfl | decide) (Nat.le_of_ble_eq_true rfl) ?_
  refine a_aload_n (pc := 16) ok dX0_survey_16 rfl ?_
  refine a_aload_n (pc := 17) ok dX0_survey_17 rfl ?_
  refine a_callVp (pc := 18) ok [8, 9, 10, 11] dX0_survey_18 mv0_50 miX4_cellCount (c_cellCount) ⟨by decide, by decide, rfl, rfl, Nat.zero_le _, Nat.zero_le _⟩ rfl rfl (Nat.le_of_ble_eq_true rfl) rfl (by decide) rfl rfl ?_
  refine a_putf (pc := 21) ok dX0_survey_21 fp0_18 rfl (by first | rfl | decide) (by first | rfl | decide) (Nat.le_of_ble_eq_true rfl) ?_
  refine a_aload_n (pc := 24) ok dX0_survey_24 rfl ?_
  refine a_iconst (pc := 25) ok dX0_survey_25 ?_
  refine a_putf (pc := 26) ok dX0_survey_26 fp0_21 rfl (by first | rfl | decide) (by first | rfl | decide) (Nat.le_of_ble_eq_true rfl) ?_
  refine a_iconst (pc := 29) ok dX0_survey_29 ?_
  refine a_istore_n (pc := 30) ok dX0_survey_30 rfl (by rw [hN]; decide) ?_
  exact AW.cast (loop (0, B, F) ⟨by dsimp only; omega, hB, hF, fun j a1 a2 => by dsimp only at a2; omega⟩) rfl rfl rfl
end IS4
