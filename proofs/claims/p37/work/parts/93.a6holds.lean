/-! WHAT HOLDS ON EACH PLATE: numbers of islands, sides, ink, in the abstract. -/
section PH
variable {c r : Int} {b : Int → Int} {S : St}
noncomputable abbrev own (c r : Int) (b : Int → Int) (k : Int) : Int := rk c r b (lw c r b k)
theorem mny_le (hd : dim c r) : mny c r b ≤ c * r := by
  have hc := dim_cells hd
  have := cntK_rg (fun j => decide (lw c r b j = j)) (c * r).toNat
  unfold mny
  omega
theorem own_rg (hd : dim c r) {k : Int} (hk : cel c r k) : (0 ≤ own c r b k ∧ own c r b k ≤ rk c r b k) ∧ own c r b k < mny c r b ∧ (own c r b k = rk c r b k ↔ lw c r b k = k) := by
  have h := lw_ok (B := b) hd hk
  have hl := lw_lw (B := b) hd hk
  have hm := rk_mny hd h.1 hl
  by_cases z : lw c r b k = k
  · unfold own
    rw [z]
    rw [z] at hm
    exact ⟨⟨hm.1, Int.le_refl _⟩, hm.2, ⟨fun _ => rfl, fun _ => rfl⟩⟩
  · have := rk_lt (B := b) (k := k) h.1.1 (by have := h.2.1; omega) hl
    exact ⟨⟨hm.1, by unfold own; omega⟩, hm.2, ⟨fun e => by unfold own at e; omega, fun e => absurd e z⟩⟩
theorem own_eq (hd : dim c r) {a d : Int} (ha : cel c r a) (hk : cel c r d) : own c r b a = own c r b d ↔ lw c r b a = lw c r b d := by
  constructor
  · intro h
    exact rk_inj (lw_ok hd ha).1 (lw_lw hd ha) (lw_ok hd hk).1 (lw_lw hd hk) h
  · intro h
    unfold own
    rw [h]
theorem rk_S (k : Nat) : rk c r b ((k + 1 : Nat) : Int) = rk c r b k + if lw c r b k = k then 1 else 0 := by
  unfold rk
  rw [Int.toNat_natCast, Int.toNat_natCast]
  simp only [cntK]
  by_cases z : lw c r b k = k
  · rw [if_pos (decide_eq_true z), if_pos z]
  · rw [if_neg z, if_neg (by rw [decide_eq_false z]; decide)]
theorem rk_all (hd : dim c r) : rk c r b (c * r) = mny c r b := rfl
/-- two neighbours are of one island just if they have one band -/
theorem pair_ok (hd : dim c r) {a d : Int} (ha : cel c r a) (h : adj c r a d) : b a = b d ↔ own c r b a = own c r b d := by
  have hk := (adj_symm hd ha h).1
  rw [own_eq hd ha hk]
  constructor
  · intro e
    exact lw_eq hd (con_one ⟨ha, h, e⟩)
  · intro e
    rw [← lw_band (B := b) hd ha, e, lw_band (B := b) hd hk]
theorem adj_e (hd : dim c r) {k : Int} (hk : cel c r k) (h : k % c < c - 1) : adj c r k (k + 1) := by
  have h0 := hk.1
  exact ⟨0, by omega, by unfold nb; rw [if_pos rfl, if_pos h], by omega⟩
theorem adj_s (hd : dim c r) {k : Int} (hk : cel c r k) (h : k < c * r - c) : adj c r k (k + c) := by
  have h0 := hk.1
  have hc := hd.1
  obtain ⟨x, y, hx, hy, rfl⟩ := cel_xy hd hk
  refine ⟨1, by omega, ?_, by omega⟩
  rw [nb_xy hx, if_neg (by decide), if_pos rfl]
  have : y < r - 1 := by
    refine Classical.byContradiction fun z => ?_
    have e : y = r - 1 := by omega
    rw [e, Int.sub_mul, Int.one_mul, Int.mul_comm r c] at h
    omega
  rw [if_pos this, Int.add_mul, Int.one_mul]
  omega
/-- an island's cells, by its number -/
theorem many_siz (hd : dim c r) {i : Int} (h0 : 0 ≤ i) (h : i < mny c r b) : cntK (fun j => decide (own c r b j = i)) (c * r).toNat = siz c r b (fo c r b i) := by
  have hf := fo_ok (b := b) hd h0 h
  have hc := dim_cells hd
  unfold siz
  refine cntK_congr _ fun j hj => ?_
  have hk : cel c r (j : Int) := ⟨by omega, by omega⟩
  refine decide_eq_decide.mpr ⟨fun e => ?_, fun e => ?_⟩
  · exact rk_inj (lw_ok hd hk).1 (lw_lw hd hk) hf.1 hf.2.1 (by unfold own at e; rw [e, hf.2.2])
  · unfold own
    rw [e]; exact hf.2.2
theorem smK_none {le : Int} : ∀ k : Nat, smK c r b le k = -1 → ∀ j : Nat, j < k → lw c r b j = j → le ≤ siz c r b j
  | 0, _, j, hj, _ => absurd hj (Nat.not_lt_zero j)
  | k + 1, h, j, hj, hl => by
    simp only [smK] at h
    split at h
    · omega
    · rename_i hn
      rcases (show j < k ∨ j = k by omega) with z | z
      · exact smK_none k h j z hl
      · subst z
        refine Classical.byContradiction fun q => hn ⟨hl, by omega, Or.inl h⟩
theorem mrg_end (hd : dim c r) {le : Int} : ∀ (n : Nat) (b : Int → Int), mny c r b ≤ n + 1 → ¬ (1 < mny c r (mrg c r le n b) ∧ smL c r (mrg c r le n b) le ≠ -1)
  | 0, b, h => fun z => by have := z.1; simp only [mrg] at this; omega
  | n + 1, b, h => by
    by_cases q : 1 < mny c r b ∧ smL c r b le ≠ -1
    · rw [mrg_t q.1 q.2]
      have := mstp_less hd q
      exact mrg_end hd n _ (by omega)
    · rw [mrg_f _ q]; exact q
theorem siz_least (hd : dim c r) {le : Int} {b0 : Int → Int} (hb : b = mrg c r le 144 b0) {i : Int} (h0 : 0 ≤ i) (h : i < mny c r b) : mny c r b = 1 ∨ le ≤ siz c r b (fo c r b i) := by
  have hf := fo_ok (b := b) hd h0 h
  have hm := mny_1 (B := b) hd
  have e := mrg_end hd (le := le) 144 b0 (by have := (mny_1 (B := b0) hd).2; omega)
  rw [← hb] at e
  by_cases z : mny c r b = 1
  · exact Or.inl z
  · right
    have hs : smL c r b le = -1 := Classical.byContradiction fun q => e ⟨by omega, q⟩
    have := smK_none (c * r).toNat hs (fo c r b i).toNat (by have := hf.1.1; have := hf.1.2; omega)
    rw [Int.toNat_of_nonneg hf.1.1] at this
    exact this hf.2.1
theorem mrg_P {P : Int → Prop} {le : Int} : ∀ (n : Nat) (b : Int → Int), (∀ k, P (b k)) → ∀ k, P (mrg c r le n b k)
  | 0, b, h, k => h k
  | n + 1, b, h, k => by
    simp only [mrg]
    split
    · refine mrg_P n _ (fun j => ?_) k
      unfold mstp
      split
      · exact h _
      · exact h _
    · exact h k
/-! sums -/
theorem sumK_app (f : Int → Int) (a : Nat) : ∀ d : Nat, sumK f (a + d) = sumK f a + sumK (fun k => f (k + a)) d
  | 0 => by simp only [sumK, Nat.add_zero]; omega
  | d + 1 => by
    rw [show a + (d + 1) = (a + d) + 1 by omega]
    simp only [sumK]
    rw [sumK_app f a d, show (((a + d : Nat) : Nat) : Int) = (d : Int) + a by omega]
    omega
theorem sumK_0 {f : Int → Int} : ∀ N : Nat, (∀ k : Nat, k < N → f k = 0) → sumK f N = 0
  | 0, _ => rfl
  | N + 1, h => by simp only [sumK]; rw [sumK_0 N (fun k hk => h k (by omega)), h N (by omega)]; rfl
/-- the same sum, moved on by d -/
theorem sumK_move {f g : Int → Int} {N d : Nat} (hdN : d ≤ N) (h1 : ∀ k : Nat, k < d → g k = 0) (h2 : ∀ k : Nat, k < N - d → g ((k : Int) + d) = f k) (h3 : ∀ k : Nat, N - d ≤ k → k < N → f k = 0) : sumK g N = sumK f N := by
  obtain ⟨e, rfl⟩ : ∃ e, N = d + e := ⟨N - d, by omega⟩
  rw [sumK_app g d e, sumK_0 d h1, show d + e = e + d by omega, sumK_app f e d]
  have h4 : sumK (fun k => f (k + (e : Int))) d = 0 := sumK_0 d fun k hk => by
    have := h3 (k + e) (by omega) (by omega)
    rw [show ((k + e : Nat) : Int) = (k : Int) + e by omega] at this
    exact this
  rw [h4, sumK_congr e (fun k hk => h2 k (by omega))]
  omega
noncomputable def t4 (c r : Int) (b : Int → Int) (w k : Int) : Int := if nb c r k w ≠ -1 ∧ lw c r b (nb c r k w) ≠ lw c r b k then 1 else 0
theorem osK_t4 (k : Int) : osK c r b k 4 = t4 c r b 0 k + t4 c r b 1 k + t4 c r b 2 k + t4 c r b 3 k := by
  unfold osK t4
  simp only [cntK]
  have e0 : ((0 : Nat) : Int) = 0 := rfl
  have e1 : ((1 : Nat) : Int) = 1 := rfl
  have e2 : ((2 : Nat) : Int) = 2 := rfl
  have e3 : ((3 : Nat) : Int) = 3 := rfl
  rw [e0, e1, e2, e3]
  have h : ∀ p : Prop, [Decidable p] → (if decide p = true then (1 : Int) else 0) = if p then 1 else 0 := fun p _ => by
    by_cases q : p
    · rw [if_pos (decide_eq_true q), if_pos q]
    · rw [if_neg (by rw [decide_eq_false q]; decide), if_neg q]
  rw [h, h, h, h]
  omega
theorem t4_e (hd : dim c r) : sumK (t4 c r b 2) (c * r).toNat = sumK (t4 c r b 0) (c * r).toNat := by
  have hc := dim_cells hd
  have hc1 := hd.1
  refine sumK_move (d := 1) (by omega) (fun k hk => ?_) (fun k hk => ?_) (fun k h1 h2 => ?_)
  · have : (k : Int) = 0 := by omega
    rw [this]
    unfold t4
    have e : nb c r 0 2 = -1 := by
      have := nb_xy (c := c) (r := r) (x := 0) (y := 0) (w := 2) (by omega)
      rw [show (0 : Int) * c + 0 = 0 by omega] at this
      rw [this, if_neg (by decide), if_neg (by decide), if_pos rfl, if_neg (by omega)]
    rw [e, if_neg (fun z => z.1 rfl)]
  · have hk1 : cel c r (k : Int) := ⟨by omega, by omega⟩
    have hk2 : cel c r ((k : Int) + 1) := ⟨by omega, by omega⟩
    obtain ⟨x, y, hx, hy, hxy⟩ := cel_xy hd hk1
    rw [show ((1 : Nat) : Int) = 1 from rfl]
    unfold t4
    by_cases z : x < c - 1
    · have a1 : nb c r k 0 = (k : Int) + 1 := by rw [hxy, nb_xy hx, if_pos rfl, if_pos z]; omega
      have a2 : nb c r ((k : Int) + 1) 2 = k := by
        rw [hxy, show y * c + x + 1 = y * c + (x + 1) by omega, nb_xy (by omega), if_neg (by decide), if_neg (by decide), if_pos rfl, if_pos (by omega)]
        omega
      rw [a1, a2]
      by_cases q : lw c r b k = lw c r b ((k : Int) + 1)
      · rw [if_neg (fun z => z.2 q), if_neg (fun z => z.2 q.symm)]
      · rw [if_pos ⟨by omega, q⟩, if_pos ⟨by omega, fun z => q z.symm⟩]
    · have a1 : nb c r k 0 = -1 := by rw [hxy, nb_xy hx, if_pos rfl, if_neg z]
      have a2 : nb c r ((k : Int) + 1) 2 = -1 := by
        have e : (k : Int) + 1 = (y + 1) * c + 0 := by rw [hxy, Int.add_mul, Int.one_mul]; omega
        rw [e, nb_xy (by omega), if_neg (by decide), if_neg (by decide), if_pos rfl, if_neg (by omega)]
      rw [a1, a2, if_neg (fun z => z.1 rfl), if_neg (fun z => z.1 rfl)]
  · have hk1 : cel c r (k : Int) := ⟨by omega, by omega⟩
    obtain ⟨x, y, hx, hy, hxy⟩ := cel_xy hd hk1
    have e : (k : Int) = c * r - 1 := by omega
    have : ¬ x < c - 1 := fun z => by
      have h3 : (y + 1) * c ≤ r * c := Int.mul_le_mul_of_nonneg_right (by omega) (by omega)
      rw [Int.add_mul, Int.one_mul, Int.mul_comm r c] at h3
      omega
    unfold t4
    have a1 : nb c r k 0 = -1 := by rw [hxy, nb_xy hx, if_pos rfl, if_neg this]
    rw [a1, if_neg (fun z => z.1 rfl)]
theorem t4_s (hd : dim c r) : sumK (t4 c r b 3) (c * r).toNat = sumK (t4 c r b 1) (c * r).toNat := by
  have hc := dim_cells hd
  have hc1 := hd.1
  have hcr : c ≤ c * r := by
    have : c * 1 ≤ c * r := Int.mul_le_mul_of_nonneg_left hd.2.2.1 (by omega)
    omega
  have hrow : ∀ {x y : Int}, (0 ≤ x ∧ x < c) → y * c + x < c → 0 ≤ y → y = 0 := fun {x y} hx h hy => by
    refine Classical.byContradiction fun z => ?_
    have : 1 * c ≤ y * c := Int.mul_le_mul_of_nonneg_right (by omega) (by omega)
    omega
  refine sumK_move (d := c.toNat) (by omega) (fun k hk => ?_) (fun k hk => ?_) (fun k h1 h2 => ?_)
  · have hk1 : cel c r (k : Int) := ⟨by omega, by omega⟩
    obtain ⟨x, y, hx, hy, hxy⟩ := cel_xy hd hk1
    have hy0 := hrow hx (by omega) hy.1
    unfold t4
    have a1 : nb c r k 3 = -1 := by rw [hxy, nb_xy hx, if_neg (by decide), if_neg (by decide), if_neg (by decide), if_neg (by omega)]
    rw [a1, if_neg (fun z => z.1 rfl)]
  · have hk1 : cel c r (k : Int) := ⟨by omega, by omega⟩
    have hk2 : cel c r ((k : Int) + c) := ⟨by omega, by omega⟩
    obtain ⟨x, y, hx, hy, hxy⟩ := cel_xy hd hk1
    have hcn : ((c.toNat : Nat) : Int) = c := by omega
    rw [hcn]
    have hy1 : y < r - 1 := by
      refine Classical.byContradiction fun z => ?_
      have e : y = r - 1 := by omega
      have h5 := hk2.2
      rw [hxy, e, Int.sub_mul, Int.one_mul, Int.mul_comm r c] at h5
      omega
    unfold t4
    have a1 : nb c r k 1 = (k : Int) + c := by rw [hxy, nb_xy hx, if_neg (by decide), if_pos rfl, if_pos hy1, Int.add_mul, Int.one_mul]; omega
    have a2 : nb c r ((k : Int) + c) 3 = k := by
      rw [hxy, show y * c + x + c = (y + 1) * c + x by rw [Int.add_mul, Int.one_mul]; omega, nb_xy hx, if_neg (by decide), if_neg (by decide), if_neg (by decide), if_pos (by omega), show y + 1 - 1 = y by omega]
    rw [a1, a2]
    by_cases q : lw c r b k = lw c r b ((k : Int) + c)
    · rw [if_neg (fun z => z.2 q), if_neg (fun z => z.2 q.symm)]
    · rw [if_pos ⟨by omega, q⟩, if_pos ⟨by omega, fun z => q z.symm⟩]
  · have hk1 : cel c r (k : Int) := ⟨by omega, by omega⟩
    obtain ⟨x, y, hx, hy, hxy⟩ := cel_xy hd hk1
    have : ¬ y < r - 1 := fun z => by
      have h3 : (y + 2) * c ≤ r * c := Int.mul_le_mul_of_nonneg_right (by omega) (by omega)
      rw [Int.add_mul, Int.mul_comm r c] at h3
      omega
    unfold t4
    have a1 : nb c r k 1 = -1 := by rw [hxy, nb_xy hx, if_neg (by decide), if_pos rfl, if_neg this]
    rw [a1, if_neg (fun z => z.1 rfl)]
/-- sides east and south, cell by cell -/
noncomputable def s2 (c r : Int) (b : Int → Int) (k : Int) : Int := bz (k % c < c - 1 ∧ own c r b k ≠ own c r b (k + 1)) + bz (k < c * r - c ∧ own c r b k ≠ own c r b (k + c))
theorem sides_ok (hd : dim c r) : sumK (s2 c r b) (c * r).toNat = asK c r b (c * r).toNat / 2 := by
  have hc := dim_cells hd
  have hc1 := hd.1
  have e : asK c r b (c * r).toNat = sumK (t4 c r b 0) (c * r).toNat + sumK (t4 c r b 1) (c * r).toNat + sumK (t4 c r b 2) (c * r).toNat + sumK (t4 c r b 3) (c * r).toNat := by
    unfold asK
    rw [← sumK_add, ← sumK_add, ← sumK_add]
    exact sumK_congr _ fun k _ => osK_t4 k
  have e2 : sumK (s2 c r b) (c * r).toNat = sumK (t4 c r b 0) (c * r).toNat + sumK (t4 c r b 1) (c * r).toNat := by
    rw [← sumK_add]
    refine sumK_congr _ fun k hk => ?_
    have hk1 : cel c r (k : Int) := ⟨by omega, by omega⟩
    unfold s2 t4 bz
    congr 1
    · by_cases z : (k : Int) % c < c - 1
      · have ha := adj_e hd hk1 z
        have hk2 := (adj_symm hd hk1 ha).1
        have a1 : nb c r k 0 = (k : Int) + 1 := by unfold nb; rw [if_pos rfl, if_pos z]
        rw [a1]
        by_cases q : lw c r b k = lw c r b ((k : Int) + 1)
        · rw [if_neg (fun y => y.2 ((own_eq hd hk1 hk2).mpr q)), if_neg (fun y => y.2 q.symm)]
        · rw [if_pos ⟨z, fun y => q ((own_eq hd hk1 hk2).mp y)⟩, if_pos ⟨by omega, fun y => q y.symm⟩]
      · have a1 : nb c r k 0 = -1 := by unfold nb; rw [if_pos rfl, if_neg z]
        rw [a1, if_neg (fun y => z y.1), if_neg (fun y => y.1 rfl)]
    · by_cases z : (k : Int) < c * r - c
      · have ha := adj_s hd hk1 z
        have hk2 := (adj_symm hd hk1 ha).1
        have a1 : nb c r k 1 = (k : Int) + c := by
          obtain ⟨x, y, hx, hy, hxy⟩ := cel_xy hd hk1
          have hy1 : y < r - 1 := by
            refine Classical.byContradiction fun z2 => ?_
            have e : y = r - 1 := by omega
            have h5 := hk2.2
            rw [hxy, e, Int.sub_mul, Int.one_mul, Int.mul_comm r c] at h5
            omega
          rw [hxy, nb_xy hx, if_neg (by decide), if_pos rfl, if_pos hy1, Int.add_mul, Int.one_mul]; omega
        rw [a1]
        by_cases q : lw c r b k = lw c r b ((k : Int) + c)
        · rw [if_neg (fun y => y.2 ((own_eq hd hk1 hk2).mpr q)), if_neg (fun y => y.2 q.symm)]
        · rw [if_pos ⟨z, fun y => q ((own_eq hd hk1 hk2).mp y)⟩, if_pos ⟨by omega, fun y => q y.symm⟩]
      · have a1 : nb c r k 1 = -1 := by
          obtain ⟨x, y, hx, hy, hxy⟩ := cel_xy hd hk1
          have hy1 : ¬ y < r - 1 := fun z2 => by
            have h3 : (y + 2) * c ≤ r * c := Int.mul_le_mul_of_nonneg_right (by omega) (by omega)
            rw [Int.add_mul, Int.mul_comm r c] at h3
            omega
          rw [hxy, nb_xy hx, if_neg (by decide), if_pos rfl, if_neg hy1]
        rw [a1, if_neg (fun y => z y.1), if_neg (fun y => y.1 rfl)]
  rw [e2, e, t4_e hd, t4_s hd]
  omega
/-- a sum over cells, by their bands -/
theorem sumK_pick (f : Int → Int) {v : Int} : ∀ n : Nat, 0 ≤ v → v < n → sumK (fun u => if v = u then f u else 0) n = f v
  | 0, h1, h2 => by omega
  | n + 1, h1, h2 => by
    simp only [sumK]
    by_cases z : v = n
    · rw [if_pos z, sumK_0 n (fun k hk => if_neg (by omega)), z]; omega
    · rw [if_neg z, sumK_pick f n h1 (by omega)]; omega
theorem sum_bands (f : Int → Int) {m : Nat} (hb : ∀ k, 0 ≤ b k ∧ b k < m) : ∀ N : Nat, sumK (fun k => f (b k)) N = sumK (fun u => cntK (fun k => decide (b k = u)) N * f u) m
  | 0 => by
    simp only [sumK, cntK]
    exact (sumK_0 (f := fun u => 0 * f u) m fun k _ => Int.zero_mul _).symm
  | N + 1 => by
    simp only [sumK, cntK]
    rw [sum_bands f hb N, ← sumK_pick f m (hb N).1 (hb N).2, ← sumK_add]
    refine sumK_congr m fun u _ => ?_
    by_cases z : b N = u
    · rw [if_pos z, if_pos (decide_eq_true z), Int.add_mul, Int.one_mul]
    · rw [if_neg z, if_neg (by rw [decide_eq_false z]; decide), Int.add_zero, Int.add_zero]
end PH
