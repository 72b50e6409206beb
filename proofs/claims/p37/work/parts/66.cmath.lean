/-! WHAT WOULD BE: merging on, thresholds moved, in the abstract; cells that differ; the state's commands by states. -/
section CW3
variable {l : Launch} {S : St} {c r ct : Int} {B F Z Br Q Fo No b : Int → Int} {L i : Int}
theorem smK_mono {le le' : Int} (h : le ≤ le') : ∀ k : Nat, (smK c r b le k ≠ -1 → smK c r b le' k = smK c r b le k) ∧ (smK c r b le k = -1 → smK c r b le' k = -1 ∨ le ≤ siz c r b (smK c r b le' k))
  | 0 => ⟨fun z => absurd rfl z, fun _ => Or.inl rfl⟩
  | k + 1 => by
    obtain ⟨h1, h2⟩ := smK_mono h k
    have hm := smK_ok (c := c) (r := r) (B := b) (le := le) k
    simp only [smK]
    obtain ⟨m, em⟩ : ∃ m, m = smK c r b le k := ⟨_, rfl⟩
    obtain ⟨m', em'⟩ : ∃ m', m' = smK c r b le' k := ⟨_, rfl⟩
    rw [← em, ← em'] at h1 h2 ⊢
    rw [← em] at hm
    by_cases hf : lw c r b k = k
    · by_cases hs : siz c r b k < le
      · by_cases hm1 : m = -1
        · have h2 := h2 hm1
          have e1 : m' = -1 ∨ siz c r b k < siz c r b m' := h2.imp id fun z => by omega
          rw [if_pos ⟨hf, hs, Or.inl hm1⟩, if_pos ⟨hf, by omega, e1⟩]
          exact ⟨fun _ => rfl, fun z => absurd z (by omega)⟩
        · have h1 := h1 hm1
          rw [h1]
          by_cases hb : siz c r b k < siz c r b m
          · rw [if_pos ⟨hf, hs, Or.inr hb⟩, if_pos ⟨hf, by omega, Or.inr hb⟩]
            exact ⟨fun _ => rfl, fun z => absurd z (by omega)⟩
          · rw [if_neg (fun z => z.2.2.elim hm1 hb), if_neg (fun z => z.2.2.elim hm1 hb)]
            exact ⟨fun _ => rfl, fun z => absurd z hm1⟩
      · rw [if_neg (fun z => hs z.2.1)]
        by_cases hm1 : m = -1
        · have h2 := h2 hm1
          refine ⟨fun z => absurd hm1 z, fun _ => ?_⟩
          by_cases hq : lw c r b k = k ∧ siz c r b k < le' ∧ (m' = -1 ∨ siz c r b k < siz c r b m')
          · rw [if_pos hq]; exact Or.inr (by omega)
          · rw [if_neg hq]; exact h2
        · have h1 := h1 hm1
          rw [h1]
          have hms : siz c r b m < le := by
            rcases hm with z | z
            · exact absurd z hm1
            · exact z.2.2.2
          rw [if_neg (fun z => by rcases z.2.2 with y | y; exact hm1 y; omega)]
          exact ⟨fun _ => rfl, fun z => absurd z hm1⟩
    · rw [if_neg (fun z => hf z.1), if_neg (fun z => hf z.1)]
      exact ⟨h1, h2⟩
theorem smL_mono {le le' : Int} (h : le ≤ le') (hs : smL c r b le ≠ -1) : smL c r b le' = smL c r b le := (smK_mono h _).1 hs
theorem mstp_less (hd : dim c r) {le : Int} (h : 1 < mny c r b ∧ smL c r b le ≠ -1) : mny c r (mstp c r b (smL c r b le)) < mny c r b := by
  obtain ⟨h1, h2⟩ := sm_cel hd h.2
  obtain ⟨h3, h4⟩ := tk_ex hd h1 h2 h.1
  exact mg_less hd h1 h2 h3 h4
theorem mrg_fuel (hd : dim c r) {le : Int} : ∀ (n : Nat) (b : Int → Int), mny c r b ≤ n + 1 → mrg c r le (n + 1) b = mrg c r le n b
  | 0, b, h => by rw [mrg_f _ (fun z => by have := z.1; omega), mrg_f _ (fun z => by have := z.1; omega)]
  | n + 1, b, h => by
    by_cases q : 1 < mny c r b ∧ smL c r b le ≠ -1
    · rw [mrg_t q.1 q.2, mrg_t q.1 q.2]
      have := mstp_less hd q
      exact mrg_fuel hd n _ (by omega)
    · rw [mrg_f _ q, mrg_f _ q]
theorem mrg_less (hd : dim c r) {le : Int} : ∀ (n : Nat) (b : Int → Int), mny c r (mrg c r le n b) ≤ mny c r b
  | 0, b => Int.le_refl _
  | n + 1, b => by
    by_cases q : 1 < mny c r b ∧ smL c r b le ≠ -1
    · rw [mrg_t q.1 q.2]
      have := mstp_less hd q
      have := mrg_less hd (le := le) n (mstp c r b (smL c r b le))
      omega
    · rw [mrg_f _ q]; exact Int.le_refl _
/-- merging on from a lower least size is merging from the start -/
theorem mrg_on (hd : dim c r) {le le' : Int} (h : le ≤ le') : ∀ (n : Nat) (b : Int → Int), mny c r b ≤ n + 1 → mrg c r le' n (mrg c r le n b) = mrg c r le' n b
  | 0, b, _ => rfl
  | n + 1, b, hn => by
    by_cases q : 1 < mny c r b ∧ smL c r b le ≠ -1
    · have e := smL_mono h q.2
      have hl := mstp_less hd q
      have h3 := mrg_less hd (le := le) n (mstp c r b (smL c r b le))
      rw [mrg_t q.1 q.2, mrg_t q.1 (by rw [e]; exact q.2), e, mrg_fuel hd n _ (by omega)]
      exact mrg_on hd h n _ (by omega)
    · rw [mrg_f _ q]
theorem mrg_on144 (hd : dim c r) {le le' : Int} (h : le ≤ le') (b : Int → Int) : mrg c r le' 144 (mrg c r le 144 b) = mrg c r le' 144 b := mrg_on hd h 144 b (by have := (mny_1 (B := b) hd).2; omega)
/-! bands with a threshold taken out, put in, moved -/
theorem cnt_skip {p p' : Int → Bool} {a N : Nat} (h1 : ∀ j : Nat, j < a → p' j = p j) (h2 : ∀ j : Nat, a ≤ j → j < N → p' j = p ((j + 1 : Nat) : Int)) : ∀ d : Nat, a + d ≤ N → cntK p (a + d + 1) = cntK p' (a + d) + (if p a then 1 else 0)
  | 0, _ => by
    have e : cntK p a = cntK p' a := cntK_congr a fun j hj => (h1 j hj).symm
    show cntK p (a + 1) = cntK p' a + _
    rw [← e]
    cases h : p a
    · rw [cntK_f h]; simp
    · rw [cntK_t h]; simp
  | d + 1, hd => by
    have ih := cnt_skip h1 h2 d (by omega)
    have e := h2 (a + d) (by omega) (by omega)
    show cntK p (a + d + 1 + 1) = cntK p' (a + d + 1) + _
    cases h : p' (a + d : Nat)
    · rw [cntK_f h, cntK_f (by rw [← e, h]), ih]
    · rw [cntK_t h, cntK_t (by rw [← e, h]), ih]; omega
theorem band_rem {T : Int → Int} {n : Nat} {p : Int} (hp : 0 ≤ p ∧ p < n) (g : Int) : bandN T n g = bandN (remT T n p) (n - 1) g + (if T p ≤ g then 1 else 0) := by
  have h := cnt_skip (p := fun k => decide (T k ≤ g)) (p' := fun k => decide (remT T n p k ≤ g)) (a := p.toNat) (N := n - 1)
    (fun j hj => by unfold remT; rw [if_neg (by omega)])
    (fun j h1 h2 => by unfold remT; rw [if_pos (by omega)]; rfl) (n - 1 - p.toNat) (by omega)
  rw [show p.toNat + (n - 1 - p.toNat) = n - 1 by omega, show n - 1 + 1 = n by omega, Int.toNat_of_nonneg hp.1] at h
  unfold bandN
  rw [h]
  simp
theorem band_ins {T : Int → Int} {n : Nat} {v : Int} (g : Int) : bandN (insT T n v) (n + 1) g = bandN T n g + (if v ≤ g then 1 else 0) := by
  have hc := cntK_rg (fun k => decide (T k ≤ v)) n
  obtain ⟨q, hq⟩ : ∃ q, q = cntK (fun k => decide (T k ≤ v)) n := ⟨_, rfl⟩
  rw [← hq] at hc
  have e1 : ∀ j : Int, j < q → insT T n v j = T j := fun j h => by unfold insT; rw [← hq, if_pos h]
  have e2 : insT T n v q = v := by unfold insT; rw [← hq, if_neg (by omega), if_pos rfl]
  have e3 : ∀ j : Int, q < j → j ≤ n → insT T n v j = T (j - 1) := fun j h h2 => by unfold insT; rw [← hq, if_neg (by omega), if_neg (by omega), if_pos h2]
  have h := cnt_skip (p := fun k => decide (insT T n v k ≤ g)) (p' := fun k => decide (T k ≤ g)) (a := q.toNat) (N := n)
    (fun j hj => by rw [e1 j (by omega)])
    (fun j h1 h2 => by rw [e3 _ (by omega) (by omega), show (((j + 1 : Nat) : Int) - 1) = j by omega]) (n - q.toNat) (by omega)
  rw [show q.toNat + (n - q.toNat) = n by omega, Int.toNat_of_nonneg hc.1, e2] at h
  unfold bandN
  rw [h]
  simp
theorem cnt_one {p q : Int → Bool} {k : Nat} (h : ∀ j : Nat, j ≠ k → p j = q j) : ∀ m : Nat, (m ≤ k → cntK p m = cntK q m) ∧ (k < m → cntK p m + (if q k then 1 else 0) = cntK q m + (if p k then 1 else 0))
  | 0 => ⟨fun _ => rfl, fun z => absurd z (by omega)⟩
  | m + 1 => by
    obtain ⟨h1, h2⟩ := cnt_one h m
    constructor
    · intro z
      have e := h m (by omega)
      have := h1 (by omega)
      simp only [cntK]
      rw [this, e]
    · intro z
      by_cases y : k = m
      · subst y
        have := h1 (by omega)
        simp only [cntK]
        rw [this]
        omega
      · have e := h m (by omega)
        have := h2 (by omega)
        simp only [cntK]
        rw [e]
        omega
theorem band_up {T : Int → Int} {n : Nat} {k v : Int} (hk : 0 ≤ k ∧ k < n) (g : Int) : bandN (up T k v) n g + (if T k ≤ g then 1 else 0) = bandN T n g + (if v ≤ g then 1 else 0) := by
  have h := (cnt_one (p := fun j => decide (up T k v j ≤ g)) (q := fun j => decide (T j ≤ g)) (k := k.toNat) (fun j hj => by rw [up_ne (by omega)]) n).2 (by omega)
  rw [Int.toNat_of_nonneg hk.1, up_at] at h
  unfold bandN
  simpa using h
theorem bnd_mv {u k v : Int} (hk : 0 ≤ k ∧ k < sN S) (hu : u = sT S k) : bnd (sT (mvS S u v)) (sN (mvS S u v)) (sG S) = bnd (up (sT S) k v) (sN S) (sG S) := by
  have hh : hasT (sT S) (sN S) u = true := hasT_iff.mpr ⟨k.toNat, by omega, by rw [Int.toNat_of_nonneg hk.1, hu]⟩
  have hat := hasT_at hh
  funext j
  have h1 := band_rem (T := sT S) (n := sN S) ⟨hat.1, hat.2.1⟩ (sG S j)
  rw [hat.2.2] at h1
  have h2 := band_ins (T := remT (sT S) (sN S) (fstK (fun k => sT S k == u) (sN S))) (n := sN S - 1) (v := v) (sG S j)
  have h3 := band_up (T := sT S) (n := sN S) (v := v) hk (sG S j)
  rw [← hu] at h3
  have e : bandN (sT (mvS S u v)) (sN (mvS S u v)) (sG S j) = bandN (insT (remT (sT S) (sN S) (fstK (fun k => sT S k == u) (sN S))) (sN S - 1) v) (sN S - 1 + 1) (sG S j) := rfl
  show bandN (sT (mvS S u v)) (sN (mvS S u v)) (sG S j) = bandN (up (sT S) k v) (sN S) (sG S j)
  rw [e]
  omega
theorem has_free {T : Int → Int} {n : Nat} (hs : srt T n) (hn : n ≤ 5) : ∃ v : Int, (1 ≤ v ∧ v ≤ 6) ∧ hasT T n v = false := by
  refine Classical.byContradiction fun z => ?_
  have h : ∀ v : Int, 1 ≤ v ∧ v ≤ 6 → ∃ j : Nat, j < n ∧ T j = v := fun v hv => hasT_iff.mp (by
    cases e : hasT T n v
    · exact absurd ⟨v, hv, e⟩ z
    · rfl)
  have lt : ∀ (i j : Nat), i < n → j < n → T i < T j → i < j := fun i j hi hj h => by
    rcases (show i < j ∨ i = j ∨ j < i by omega) with y | y | y
    · exact y
    · subst y; omega
    · have := hs j i (by omega) (by omega) (by omega); omega
  obtain ⟨j1, a1, b1⟩ := h 1 (by omega)
  obtain ⟨j2, a2, b2⟩ := h 2 (by omega)
  obtain ⟨j3, a3, b3⟩ := h 3 (by omega)
  obtain ⟨j4, a4, b4⟩ := h 4 (by omega)
  obtain ⟨j5, a5, b5⟩ := h 5 (by omega)
  obtain ⟨j6, a6, b6⟩ := h 6 (by omega)
  have := lt j1 j2 a1 a2 (by omega)
  have := lt j2 j3 a2 a3 (by omega)
  have := lt j3 j4 a3 a4 (by omega)
  have := lt j4 j5 a4 a5 (by omega)
  have := lt j5 j6 a5 a6 (by omega)
  omega
theorem bmK_has {ok : Int → Prop} {M : Int → Int} {u : Int} : ∀ (k : Nat) (v : Int), 1 ≤ v ∧ v ≤ k → ok v → (bmK ok M u k).1 ≠ -1
  | 0, v, h, _ => by omega
  | k + 1, v, h, hv => by
    by_cases z : ok (k + 1) ∧ bmB (bmK ok M u k) (M (k + 1)) (k + 1) (ab (k + 1 - u))
    · rw [bmK_t z.1 z.2]; dsimp only; omega
    · rw [bmK_f z]
      by_cases y : v ≤ k
      · exact bmK_has k v ⟨h.1, y⟩ hv
      · intro e
        have ev : v = (k : Int) + 1 := by omega
        rw [ev] at hv
        exact z ⟨hv, Or.inl e⟩
theorem dX0_cellsOtherThan_0 : decode cX0_cellsOtherThan 0 = .ok (.iconst 0, 1) := by decide +kernel
theorem dX0_cellsOtherThan_1 : decode cX0_cellsOtherThan 1 = .ok (.istore_n 2, 1) := by decide +kernel
theorem dX0_cellsOtherThan_2 : decode cX0_cellsOtherThan 2 = .ok (.iconst 0, 1) := by decide +kernel
theorem dX0_cellsOtherThan_3 : decode cX0_cellsOtherThan 3 = .ok (.istore_n 3, 1) := by decide +kernel
theorem dX0_cellsOtherThan_4 : decode cX0_cellsOtherThan 4 = .ok (.iload_n 3, 1) := by decide +kernel
theorem dX0_cellsOtherThan_5 : decode cX0_cellsOtherThan 5 = .ok (.aload_n 0, 1) := by decide +kernel
theorem dX0_cellsOtherThan_6 : decode cX0_cellsOtherThan 6 = .ok (.getfield 18, 3) := by decide +kernel
theorem dX0_cellsOtherThan_9 : decode cX0_cellsOtherThan 9 = .ok (.if_icmp .ge 27, 3) := by decide +kernel
theorem dX0_cellsOtherThan_12 : decode cX0_cellsOtherThan 12 = .ok (.aload_n 0, 1) := by decide +kernel
theorem dX0_cellsOtherThan_13 : decode cX0_cellsOtherThan 13 = .ok (.getfield 24, 3) := by decide +kernel
theorem dX0_cellsOtherThan_16 : decode cX0_cellsOtherThan 16 = .ok (.iload_n 3, 1) := by decide +kernel
theorem dX0_cellsOtherThan_17 : decode cX0_cellsOtherThan 17 = .ok (.iaload, 1) := by decide +kernel
theorem dX0_cellsOtherThan_18 : decode cX0_cellsOtherThan 18 = .ok (.aload_n 1, 1) := by decide +kernel
theorem dX0_cellsOtherThan_19 : decode cX0_cellsOtherThan 19 = .ok (.getfield 24, 3) := by decide +kernel
theorem dX0_cellsOtherThan_22 : decode cX0_cellsOtherThan 22 = .ok (.iload_n 3, 1) := by decide +kernel
theorem dX0_cellsOtherThan_23 : decode cX0_cellsOtherThan 23 = .ok (.iaload, 1) := by decide +kernel
theorem dX0_cellsOtherThan_24 : decode cX0_cellsOtherThan 24 = .ok (.if_icmp .eq 6, 3) := by decide +kernel
theorem dX0_cellsOtherThan_27 : decode cX0_cellsOtherThan 27 = .ok (.iinc 2 1, 3) := by decide +kernel
theorem dX0_cellsOtherThan_30 : decode cX0_cellsOtherThan 30 = .ok (.iinc 3 1, 3) := by decide +kernel
theorem dX0_cellsOtherThan_33 : decode cX0_cellsOtherThan 33 = .ok (.goto (-29), 3) := by decide +kernel
theorem dX0_cellsOtherThan_36 : decode cX0_cellsOtherThan 36 = .ok (.iload_n 2, 1) := by decide +kernel
theorem dX0_cellsOtherThan_37 : decode cX0_cellsOtherThan 37 = .ok (.ireturn, 1) := by decide +kernel
theorem c_cellsOtherThan {ct2 : Int} {B2 F2 Z2 Br2 Q2 Fo2 No2 b2 : Int → Int} (hd : dim c r) (hI : IW c r b ct B F Z Fo No) (hI2 : IW c r b2 ct2 B2 F2 Z2 Fo2 No2) : Cd l yX0_cellsOtherThan cX0_cellsOtherThan 4 (some .int) rmX0_cellsOtherThan [.ref 0, .ref 8] (isM c r (c * r) ct B F Z Br Q Fo No ++ isA 8 c r (c * r) ct2 B2 F2 Z2 Br2 Q2 Fo2 No2) (some (iv (cntK (fun k => decide (b k ≠ b2 k)) (c * r).toNat))) (isM c r (c * r) ct B F Z Br Q Fo No ++ isA 8 c r (c * r) ct2 B2 F2 Z2 Br2 Q2 Fo2 No2) := by
  refine Ct.of miX0_cellsOtherThan (Nat.le_of_ble_eq_true rfl) ?_
  intro X hXl hN ok
  refine AW.cast (L2 := [some (.ref 0), some (.ref 8), none, none]) ?_ rfl rfl rfl
  have hc := dim_cells hd
  have loop : ∀ k : Nat, (k : Int) ≤ c * r → AW X 0 0 4 [some (.ref 0), some (.ref 8), some (iv (cntK (fun k => decide (b k ≠ b2 k)) k)), some (iv k)] [] (isM c r (c * r) ct B F Z Br Q Fo No ++ isA 8 c r (c * r) ct2 B2 F2 Z2 Br2 Q2 Fo2 No2) := by
    refine wfl (fun k : Nat => 145 - k) _ _ ?_
    intro k hk ih
    have hBk := hI.1 k
    have hB2k := hI2.1 k
    have eBk : (k : Int) < c * r → B k = b k := fun h => hI.2.2.2.1 k ⟨by omega, h⟩
    have eB2k : (k : Int) < c * r → B2 k = b2 k := fun h => hI2.2.2.2.1 k ⟨by omega, h⟩
    have e1 : b k ≠ b2 k → cntK (fun k => decide (b k ≠ b2 k)) k + 1 = cntK (fun k => decide (b k ≠ b2 k)) (k + 1) := fun h => (cntK_t (p := fun k => decide (b k ≠ b2 k)) (decide_eq_true h)).symm
    have e2 : b k = b2 k → cntK (fun k => decide (b k ≠ b2 k)) k = cntK (fun k => decide (b k ≠ b2 k)) (k + 1) := fun h => (cntK_f (p := fun k => decide (b k ≠ b2 k)) (decide_eq_false (fun z => z h))).symm
    refine a_iload_n (pc := 4) ok dX0_cellsOtherThan_4 rfl ?_
    refine a_aload_n (pc := 5) ok dX0_cellsOtherThan_5 rfl ?_
    refine a_getf (pc := 6) ok dX0_cellsOtherThan_6 fl0_18 rfl rfl ?_
    refine a_icmp_ge (pc := 9) (tgt := 36) ok dX0_cellsOtherThan_9 (by decide) (by first | omega | (unfold rg; omega) | (simp only [rg] at *; omega) | exact bz_rg _ | grind [rg]) (by first | omega | (unfold rg; omega) | (simp only [rg] at *; omega) | exact bz_rg _ | grind [rg]) (fun c9 => ?_) (fun c9 => ?_)
    · refine a_iload_n (pc := 36) ok dX0_cellsOtherThan_36 rfl ?_
      exact a_iret (pc := 37) ok dX0_cellsOtherThan_37 (⟨by rw [show (c * r).toNat = k by omega], rfl⟩)
    · refine a_aload_n (pc := 12) ok dX0_cellsOtherThan_12 rfl ?_
      refine a_getf (pc := 13) ok dX0_cellsOtherThan_13 fl0_24 rfl rfl ?_
      refine a_iload_n (pc := 16) ok dX0_cellsOtherThan_16 rfl ?_
      refine a_iald (pc := 17) ok dX0_cellsOtherThan_17 rfl (by first | decide | omega) (by first | omega | (unfold rg; omega) | (simp only [rg] at *; omega) | exact bz_rg _ | grind [rg]) ?_
      refine a_aload_n (pc := 18) ok dX0_cellsOtherThan_18 rfl ?_
      refine a_getf (pc := 19) ok dX0_cellsOtherThan_19 fl0_24 rfl rfl ?_
      refine a_iload_n (pc := 22) ok dX0_cellsOtherThan_22 rfl ?_
      refine a_iald (pc := 23) ok dX0_cellsOtherThan_23 rfl (by first | decide | omega) (by first | omega | (unfold rg; omega) | (simp only [rg] at *; omega) | exact bz_rg _ | grind [rg]) ?_
      refine a_icmp_eq (pc := 24) (tgt := 30) ok dX0_cellsOtherThan_24 (by decide) (by first | omega | (unfold rg; omega) | (simp only [rg] at *; omega) | exact bz_rg _ | grind [rg]) (by first | omega | (unfold rg; omega) | (simp only [rg] at *; omega) | exact bz_rg _ | grind [rg]) (fun c24 => ?_) (fun c24 => ?_)
      · refine a_iinc (pc := 30) ok dX0_cellsOtherThan_30 rfl rfl (by rw [hN]; decide) ?_
        refine a_goto (pc := 33) (tgt := 4) ok dX0_cellsOtherThan_33 (by decide) ?_
        have y := eBk (by omega)
        have y2 := eB2k (by omega)
        first
        | exact AW.cast (ih (k + 1) (by omega) (by omega)) (by rw [← e1 (by omega)]; rfl) rfl rfl
        | exact AW.cast (ih (k + 1) (by omega) (by omega)) (by rw [← e2 (by omega)]; rfl) rfl rfl
      · refine a_iinc (pc := 27) ok dX0_cellsOtherThan_27 rfl rfl (by rw [hN]; decide) ?_
        refine a_iinc (pc := 30) ok dX0_cellsOtherThan_30 rfl rfl (by rw [hN]; decide) ?_
        refine a_goto (pc := 33) (tgt := 4) ok dX0_cellsOtherThan_33 (by decide) ?_
        have y := eBk (by omega)
        have y2 := eB2k (by omega)
        first
        | exact AW.cast (ih (k + 1) (by omega) (by omega)) (by rw [← e1 (by omega)]; rfl) rfl rfl
        | exact AW.cast (ih (k + 1) (by omega) (by omega)) (by rw [← e2 (by omega)]; rfl) rfl rfl
  refine a_iconst (pc := 0) ok dX0_cellsOtherThan_0 ?_
  refine a_istore_n (pc := 1) ok dX0_cellsOtherThan_1 rfl (by rw [hN]; decide) ?_
  refine a_iconst (pc := 2) ok dX0_cellsOtherThan_2 ?_
  refine a_istore_n (pc := 3) ok dX0_cellsOtherThan_3 rfl (by rw [hN]; decide) ?_
  exact AW.cast (loop 0 (by omega)) rfl rfl rfl
/-! the state's commands, told by states -/
theorem c_tP {x y g : Int} (hS : SV S) (hx : rg x) (hy : rg y) (hg : rg g) : Cd l yX4_trySetGrey cX4_trySetGrey 4 (some .boolean) rmX4_trySetGrey [.ref 0, iv x, iv y, iv g] (stS 0 S) (some (iv (bz (kP S x y g)))) (stS 0 (stP S x y g)) := by
  have h := c_trySetGrey (l := l) (G := sG S) (T := sT S) (n := sN S) (le := sE S) (Hh := sH S) (li := sI S) hS.1 hx hy hg
  unfold stP
  by_cases k : kP S x y g
  · rw [if_pos k]; rw [if_pos k] at h; exact h
  · rw [if_neg k]; rw [if_neg k] at h; exact h
theorem c_tB {x0 x1 y0 y1 g : Int} (hS : SV S) (h0 : rg x0) (h1 : rg x1) (h2 : rg y0) (h3 : rg y1) (hg : rg g) : Cd l yX4_tryFillBox cX4_tryFillBox 6 (some .boolean) rmX4_tryFillBox [.ref 0, iv x0, iv x1, iv y0, iv y1, iv g] (stS 0 S) (some (iv (bz (kB S x0 x1 y0 y1 g)))) (stS 0 (stB S x0 x1 y0 y1 g)) := by
  have h := c_tryFillBox (l := l) (G := sG S) (T := sT S) (n := sN S) (le := sE S) (Hh := sH S) (li := sI S) hS.1 h0 h1 h2 h3 hg hS.2.1
  unfold stB
  by_cases k : kB S x0 x1 y0 y1 g
  · rw [if_pos k]; rw [if_pos k] at h; exact h
  · rw [if_neg k]; rw [if_neg k] at h; exact h
theorem SV_T99 (hS : SV S) : ∀ i, rg (sT S i) := fun i => by have := hS.2.2.1 i; unfold rg; omega
theorem c_tT {v w : Int} (hS : SV S) (hv : rg v) (hw : rg w) : Cd l yX4_tryChangeThreshold cX4_tryChangeThreshold 3 (some .boolean) rmX4_tryChangeThreshold [.ref 0, iv v, iv w] (stS 0 S) (some (iv (bz (kT S v w)))) (stS 0 (stT S v w)) := by
  have h := c_tryChangeThreshold (l := l) (c := sC S) (r := sR S) (G := sG S) (T := sT S) (le := sE S) (Hh := sH S) (li := sI S) hS.2.2.2.2.1 (SV_T99 hS) hS.2.2.2.1 hv hw
  unfold stT
  by_cases k : kT S v w
  · rw [if_pos k]; rw [if_pos k, if_pos k] at h; exact h
  · rw [if_neg k]; rw [if_neg k, if_neg k] at h; exact h
theorem c_tL {v : Int} (hv : rg v) : Cd l yX4_trySetLeast cX4_trySetLeast 2 (some .boolean) rmX4_trySetLeast [.ref 0, iv v] (stS 0 S) (some (iv (bz (1 ≤ v ∧ v ≤ 30)))) (stS 0 (stL S v)) := by
  have h := c_trySetLeast (l := l) (c := sC S) (r := sR S) (G := sG S) (T := sT S) (n := sN S) (le := sE S) (Hh := sH S) (li := sI S) hv
  unfold stL
  by_cases k : 1 ≤ v ∧ v ≤ 30
  · rw [if_pos k]; rw [if_pos k] at h; exact h
  · rw [if_neg k]; rw [if_neg k] at h; exact h
theorem c_tQ {v : Int} (hS : SV S) (hv : rg v) : Cd l yX4_trySpread cX4_trySpread 2 (some .boolean) rmX4_trySpread [.ref 0, iv v] (stS 0 S) (some (iv (bz (1 ≤ v ∧ v ≤ 49)))) (stS 0 (stQ S v)) := by
  have h := c_trySpread (l := l) (G := sG S) (T := sT S) (n := sN S) (le := sE S) (Hh := sH S) (li := sI S) hS.1 hS.2.1 hv
  unfold stQ
  by_cases k : 1 ≤ v ∧ v ≤ 49
  · rw [if_pos k]; rw [if_pos k] at h; exact h
  · rw [if_neg k]; rw [if_neg k] at h; exact h
end CW3
