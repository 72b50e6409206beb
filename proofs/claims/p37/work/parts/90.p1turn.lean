/-! THE TURNING NUMBER, in the abstract: winds, their changes, a sum over a triangle of pairs. -/
section TU
/-- the eight winds -/
def w8 (a b : Int) : Int := if b = 0 then (if 0 < a then 0 else 4) else if 0 < b then (if 0 < a then 1 else if a = 0 then 2 else 3) else (if a < 0 then 5 else if a = 0 then 6 else 7)
def sm8 (z : Int) : Int := (z + 4) % 8 - 4
def stp8 (p q : Int) : Prop := (p = 2 ∧ q = 0) ∨ (p = -2 ∧ q = 0) ∨ (p = 0 ∧ q = 2) ∨ (p = 0 ∧ q = -2) ∨ (p = 1 ∧ q = 1) ∨ (p = 1 ∧ q = -1) ∨ (p = -1 ∧ q = 1) ∨ (p = -1 ∧ q = -1)
theorem w8_rg (a b : Int) : 0 ≤ w8 a b ∧ w8 a b ≤ 7 := by
  unfold w8
  repeat' split
  all_goals omega
set_option maxHeartbeats 4000000 in
theorem w8_st {a b p q : Int} (hp : (a + b) % 2 = 0) (h0 : ¬ (a = 0 ∧ b = 0)) (h1 : ¬ (a + p = 0 ∧ b + q = 0)) (hs : stp8 p q) :
    (-2 ≤ sm8 (w8 (a + p) (b + q) - w8 a b) ∧ sm8 (w8 (a + p) (b + q) - w8 a b) ≤ 2) ∧
    (sm8 (w8 (a + p) (b + q) - w8 a b) = 2 → (p = 2 ∧ q = 0 ∧ a = -1 ∧ b < 0) ∨ (p = 0 ∧ q = 2 ∧ 0 < a ∧ b = -1) ∨ (p = -2 ∧ q = 0 ∧ a = 1 ∧ 0 < b) ∨ (p = 0 ∧ q = -2 ∧ a < 0 ∧ b = 1)) ∧
    (sm8 (w8 (a + p) (b + q) - w8 a b) = -2 → (p = 2 ∧ q = 0 ∧ a = -1 ∧ 0 < b) ∨ (p = 0 ∧ q = 2 ∧ a < 0 ∧ b = -1) ∨ (p = -2 ∧ q = 0 ∧ a = 1 ∧ b < 0) ∨ (p = 0 ∧ q = -2 ∧ 0 < a ∧ b = 1)) := by
  unfold sm8 w8
  rcases hs with ⟨rfl, rfl⟩ | ⟨rfl, rfl⟩ | ⟨rfl, rfl⟩ | ⟨rfl, rfl⟩ | ⟨rfl, rfl⟩ | ⟨rfl, rfl⟩ | ⟨rfl, rfl⟩ | ⟨rfl, rfl⟩ <;> (repeat' split) <;> omega
theorem sm8_mod (z : Int) : ∃ k : Int, sm8 z = z + 8 * k := ⟨-((z + 4) / 8), by unfold sm8; omega⟩
def crs (a b p q p' q' : Int) : Prop := (a = 1 ∨ a = -1) ∧ (b = 1 ∨ b = -1) ∧ ((p = -2 * a ∧ q = 0 ∧ p' = 0 ∧ q' = -2 * b) ∨ (p = 0 ∧ q = -2 * b ∧ p' = -2 * a ∧ q' = 0))
set_option maxHeartbeats 4000000 in
theorem w8_sq {a b p q p' q' : Int} (hp : (a + b) % 2 = 0) (h0 : ¬ (a = 0 ∧ b = 0)) (h1 : ¬ (a + p = 0 ∧ b + q = 0)) (h2 : ¬ (a + p' = 0 ∧ b + q' = 0)) (h3 : ¬ (a + p + p' = 0 ∧ b + q + q' = 0)) (hs : stp8 p q) (hs' : stp8 p' q') (hx : ¬ crs a b p q p' q') :
    sm8 (w8 (a + p) (b + q) - w8 a b) + sm8 (w8 (a + p + p') (b + q + q') - w8 (a + p) (b + q)) = sm8 (w8 (a + p') (b + q') - w8 a b) + sm8 (w8 (a + p + p') (b + q + q') - w8 (a + p') (b + q')) := by
  have e1 : (a + p + (b + q)) % 2 = 0 := by unfold stp8 at hs; omega
  have e2 : (a + p' + (b + q')) % 2 = 0 := by unfold stp8 at hs'; omega
  have x3 : a + p' + p = a + p + p' := by omega
  have y3 : b + q' + q = b + q + q' := by omega
  obtain ⟨a1, a2, a3⟩ := w8_st hp h0 h1 hs
  obtain ⟨b1, b2, b3⟩ := w8_st e1 h1 h3 hs'
  obtain ⟨c1, c2, c3⟩ := w8_st hp h0 h2 hs'
  obtain ⟨d1, d2, d3⟩ := w8_st e2 h2 (by rw [x3, y3]; exact h3) hs
  rw [x3, y3] at d1 d2 d3
  obtain ⟨k1, f1⟩ := sm8_mod (w8 (a + p) (b + q) - w8 a b)
  obtain ⟨k2, f2⟩ := sm8_mod (w8 (a + p + p') (b + q + q') - w8 (a + p) (b + q))
  obtain ⟨k3, f3⟩ := sm8_mod (w8 (a + p') (b + q') - w8 a b)
  obtain ⟨k4, f4⟩ := sm8_mod (w8 (a + p + p') (b + q + q') - w8 (a + p') (b + q'))
  generalize sm8 (w8 (a + p) (b + q) - w8 a b) = A at *
  generalize sm8 (w8 (a + p + p') (b + q + q') - w8 (a + p) (b + q)) = B at *
  generalize sm8 (w8 (a + p') (b + q') - w8 a b) = C at *
  generalize sm8 (w8 (a + p + p') (b + q + q') - w8 (a + p') (b + q')) = D at *
  generalize w8 (a + p) (b + q) = W1 at *
  generalize w8 (a + p + p') (b + q + q') = W2 at *
  generalize w8 (a + p') (b + q') = W3 at *
  generalize w8 a b = W0 at *
  refine Classical.byContradiction fun hne => hx ?_
  have hz : (A = 2 ∧ B = 2) ∨ (A = -2 ∧ B = -2) := by omega
  unfold crs
  rcases hz with ⟨z1, z2⟩ | ⟨z1, z2⟩
  · have u1 := a2 z1
    have u2 := b2 z2
    omega
  · have u1 := a3 z1
    have u2 := b3 z2
    omega
/-- sums over the first n -/
def nS (f : Nat → Int) : Nat → Int
  | 0 => 0
  | n + 1 => nS f n + f n
theorem nS_congr {f g : Nat → Int} : ∀ n : Nat, (∀ i, i < n → f i = g i) → nS f n = nS g n
  | 0, _ => rfl
  | n + 1, h => by simp only [nS]; rw [nS_congr n (fun i hi => h i (by omega)), h n (by omega)]
/-- the sum along the diagonal is the sum along the two legs -/
theorem tri_sum {f : Nat → Nat → Int} {T : Nat → Int} {N : Nat} (hT : ∀ j, j < N → T j = sm8 (f j (j + 1) - f j j) + sm8 (f (j + 1) (j + 1) - f j (j + 1)))
    (hq : ∀ i j, i + 1 ≤ j → j < N → sm8 (f i (j + 1) - f i j) + sm8 (f (i + 1) (j + 1) - f i (j + 1)) = sm8 (f (i + 1) j - f i j) + sm8 (f (i + 1) (j + 1) - f (i + 1) j)) :
    ∀ n : Nat, n ≤ N → nS T n = nS (fun j => sm8 (f 0 (j + 1) - f 0 j)) n + nS (fun i => sm8 (f (i + 1) n - f i n)) n := by
  intro n
  induction n with
  | zero => intro _; rfl
  | succ n ih =>
    intro hn
    have h1 : ∀ k : Nat, k ≤ n → nS (fun i => sm8 (f (i + 1) (n + 1) - f i (n + 1))) k = nS (fun i => sm8 (f (i + 1) n - f i n)) k + sm8 (f k (n + 1) - f k n) - sm8 (f 0 (n + 1) - f 0 n) := by
      intro k
      induction k with
      | zero => intro _; simp only [nS]; omega
      | succ k ihk =>
        intro hk
        have h2 := ihk (by omega)
        have h3 := hq k n hk (by omega)
        simp only [nS] at h2 ⊢
        omega
    have h4 := h1 n (Nat.le_refl _)
    have h5 := ih (by omega)
    have h6 := hT n (by omega)
    simp only [nS] at h4 h5 ⊢
    omega
/-- a sum of small changes of a number that stays between lo and lo + 4 -/
theorem leg_sum {g : Nat → Int} {lo : Int} : ∀ n : Nat, (∀ i, i ≤ n → lo ≤ g i ∧ g i ≤ lo + 4) → (∀ i, i < n → -3 ≤ sm8 (g (i + 1) - g i) ∧ sm8 (g (i + 1) - g i) ≤ 3) → nS (fun i => sm8 (g (i + 1) - g i)) n = g n - g 0
  | 0, _, _ => by simp only [nS]; omega
  | n + 1, h, h2 => by
    simp only [nS]
    have e := leg_sum n (fun i hi => h i (by omega)) (fun i hi => h2 i (by omega))
    rw [e]
    have a := h n (by omega)
    have b := h (n + 1) (by omega)
    have c := h2 n (by omega)
    obtain ⟨k, hk⟩ := sm8_mod (g (n + 1) - g n)
    omega
end TU
