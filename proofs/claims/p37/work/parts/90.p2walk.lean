/-! THE TURNING NUMBER of an outline. -/
section TW1
variable {P : Int → Int → Prop}
def mX (q : Q3) : Int := 2 * q.1 + dx q.2.2
def mY (q : Q3) : Int := 2 * q.2.1 + dy q.2.2
theorem tn_c {D : Int → Bool} {w : Int} : tn D w = w ∨ tn D w = (w + 1) % 4 ∨ tn D w = (w + 3) % 4 := by
  unfold tn
  repeat' split
  · exact Or.inr (Or.inl rfl)
  · exact Or.inr (Or.inr rfl)
  · exact Or.inl rfl
theorem w_4 {w : Int} (h : 0 ≤ w ∧ w < 4) : w = 0 ∨ w = 1 ∨ w = 2 ∨ w = 3 := by omega
theorem tn_st {w v : Int} (hw : 0 ≤ w ∧ w < 4) (hv : v = w ∨ v = (w + 1) % 4 ∨ v = (w + 3) % 4) : stp8 (dx w + dx v) (dy w + dy v) ∧ stp8 (-(dx w + dx v)) (-(dy w + dy v)) := by
  rcases w_4 hw with rfl | rfl | rfl | rfl <;> rcases hv with rfl | rfl | rfl <;> (unfold stp8; decide)
def tv (D : Int → Bool) (w : Int) : Int := (if D w = false then 2 else 0) - (if D w = true ∧ D ((w + 3) % 4) = true then 2 else 0)
theorem tn_v {D : Int → Bool} {w : Int} (hw : 0 ≤ w ∧ w < 4) : sm8 (w8 (dx w + dx (tn D w)) (dy w + dy (tn D w)) - 2 * w) + sm8 (2 * tn D w - w8 (dx w + dx (tn D w)) (dy w + dy (tn D w))) = tv D w := by
  unfold tv tn
  cases h1 : D w <;> cases h2 : D ((w + 3) % 4) <;> rcases w_4 hw with rfl | rfl | rfl | rfl <;> decide
theorem sq_d {w v u : Int} (hw : 0 ≤ w ∧ w < 4) (hv : v = w ∨ v = (w + 1) % 4 ∨ v = (w + 3) % 4) (hu : u = v ∨ u = (v + 1) % 4 ∨ u = (v + 3) % 4) :
    sm8 (w8 (dx w + dx v + (dx v + dx u)) (dy w + dy v + (dy v + dy u)) - w8 (dx w + dx v) (dy w + dy v)) + sm8 (w8 (dx v + dx u) (dy v + dy u) - w8 (dx w + dx v + (dx v + dx u)) (dy w + dy v + (dy v + dy u))) = sm8 (2 * v - w8 (dx w + dx v) (dy w + dy v)) + sm8 (w8 (dx v + dx u) (dy v + dy u) - 2 * v) := by
  rcases w_4 hw with rfl | rfl | rfl | rfl <;> rcases hv with rfl | rfl | rfl <;> rcases hu with rfl | rfl | rfl <;> decide
theorem P_eq {x y x' y' : Int} (h : P x y) (e1 : x = x') (e2 : y = y') : P x' y' := by subst e1; subst e2; exact h
theorem dxy_0 {w : Int} (hw : 0 ≤ w ∧ w < 4) : (dx w = 1 ∧ dy w = 0 ∧ w = 0) ∨ (dx w = 0 ∧ dy w = 1 ∧ w = 1) ∨ (dx w = -1 ∧ dy w = 0 ∧ w = 2) ∨ (dx w = 0 ∧ dy w = -1 ∧ w = 3) := by
  rcases w_4 hw with rfl | rfl | rfl | rfl <;> decide
/-- two sides with one middle are one -/
theorem mid_inj {q q' : Q3} (h : oV P q) (h' : oV P q') (e1 : mX q = mX q') (e2 : mY q = mY q') : q = q' := by
  obtain ⟨x, y, w⟩ := q
  obtain ⟨x', y', w'⟩ := q'
  obtain ⟨hw, j1, j2⟩ := h
  obtain ⟨hw', i1, i2⟩ := h'
  dsimp only at hw hw' j1 j2 i1 i2
  have j1 := tr_t.mp j1
  have j2 := tr_f.mp j2
  have i1 := tr_t.mp i1
  have i2 := tr_f.mp i2
  unfold mX at e1
  unfold mY at e2
  dsimp only at e1 e2
  rcases dxy_0 hw with ⟨a1, a2, rfl⟩ | ⟨a1, a2, rfl⟩ | ⟨a1, a2, rfl⟩ | ⟨a1, a2, rfl⟩ <;> rcases dxy_0 hw' with ⟨b1, b2, rfl⟩ | ⟨b1, b2, rfl⟩ | ⟨b1, b2, rfl⟩ | ⟨b1, b2, rfl⟩ <;> simp only [a1, b1] at e1 <;> simp only [a2, b2] at e2 <;>
  first
  | (exfalso; omega)
  | (rw [show x = x' by omega, show y = y' by omega])
  | (exfalso; exact j2 (P_eq i1 (by unfold rx; (repeat' split) <;> omega) (by unfold ry; (repeat' split) <;> omega)))
/-- no two cross straight -/
theorem no_crs {q q' : Q3} (h : oV P q) (h' : oV P q') {p r p' r' : Int} (hp : p = 2 * dx q.2.2 ∨ p ≠ 2 ∧ p ≠ -2) (hr : r = 2 * dy q.2.2 ∨ r ≠ 2 ∧ r ≠ -2) (hp' : p' = -(2 * dx q'.2.2) ∨ p' ≠ 2 ∧ p' ≠ -2) (hr' : r' = -(2 * dy q'.2.2) ∨ r' ≠ 2 ∧ r' ≠ -2) : ¬ crs (mX q - mX q') (mY q - mY q') p r p' r' := by
  obtain ⟨x, y, w⟩ := q
  obtain ⟨x', y', w'⟩ := q'
  obtain ⟨hw, j1, j2⟩ := h
  obtain ⟨hw', i1, i2⟩ := h'
  dsimp only at hw hw' j1 j2 i1 i2 hp hr hp' hr'
  have j1 := tr_t.mp j1
  have j2 := tr_f.mp j2
  have i1 := tr_t.mp i1
  have i2 := tr_f.mp i2
  unfold crs mX mY
  dsimp only
  rintro ⟨ha, hb, hc⟩
  rcases dxy_0 hw with ⟨a1, a2, rfl⟩ | ⟨a1, a2, rfl⟩ | ⟨a1, a2, rfl⟩ | ⟨a1, a2, rfl⟩ <;> rcases dxy_0 hw' with ⟨b1, b2, rfl⟩ | ⟨b1, b2, rfl⟩ | ⟨b1, b2, rfl⟩ | ⟨b1, b2, rfl⟩ <;> simp only [a1, b1] at ha hc <;> simp only [a2, b2] at hb hc <;> simp only [a1] at hp <;> simp only [a2] at hr <;> simp only [b1] at hp' <;> simp only [b2] at hr' <;>
  first
  | omega
  | (refine j2 (P_eq i1 ?_ ?_) <;> simp [rx, ry] <;> omega)
  | (refine i2 (P_eq j1 ?_ ?_) <;> simp [rx, ry] <;> omega)
theorem dx2 {w v : Int} (hw : 0 ≤ w ∧ w < 4) (hv : v = w ∨ v = (w + 1) % 4 ∨ v = (w + 3) % 4) : (dx w + dx v = 2 * dx w ∨ dx w + dx v ≠ 2 ∧ dx w + dx v ≠ -2) ∧ (dy w + dy v = 2 * dy w ∨ dy w + dy v ≠ 2 ∧ dy w + dy v ≠ -2) := by
  rcases w_4 hw with rfl | rfl | rfl | rfl <;> rcases hv with rfl | rfl | rfl <;> decide
theorem mX_S (q : Q3) : mX (oS P q) = mX q + (dx q.2.2 + dx (oS P q).2.2) := by
  unfold mX oS; dsimp only; omega
theorem mY_S (q : Q3) : mY (oS P q) = mY q + (dy q.2.2 + dy (oS P q).2.2) := by
  unfold mY oS; dsimp only; omega
theorem mXY_2 {q q' : Q3} (h : 0 ≤ q.2.2 ∧ q.2.2 < 4) (h' : 0 ≤ q'.2.2 ∧ q'.2.2 < 4) : (mX q' - mX q + (mY q' - mY q)) % 2 = 0 := by
  unfold mX mY
  rcases dxy_0 h with ⟨a1, a2, -⟩ | ⟨a1, a2, -⟩ | ⟨a1, a2, -⟩ | ⟨a1, a2, -⟩ <;> rcases dxy_0 h' with ⟨b1, b2, -⟩ | ⟨b1, b2, -⟩ | ⟨b1, b2, -⟩ | ⟨b1, b2, -⟩ <;> rw [a1, a2, b1, b2] <;> omega
theorem oRL_n (q : Q3) : ∀ n : Nat, 2 * oR P q n - 2 * oL P q n = nS (fun j => tv (cn P (oN P q (j + 1)).1 (oN P q (j + 1)).2.1) (oN P q j).2.2) n
  | 0 => rfl
  | n + 1 => by
    have ih := oRL_n q n
    simp only [oR, oL, nS, tv] at ih ⊢
    rw [← ih]
    split <;> split <;> omega
/-- the wind from the i-th side to the j-th -/
noncomputable def fW (P : Int → Int → Prop) (q : Q3) (i j : Nat) : Int := if i = j then 2 * (oN P q i).2.2 else w8 (mX (oN P q j) - mX (oN P q i)) (mY (oN P q j) - mY (oN P q i))
set_option maxHeartbeats 2000000 in
theorem turn_num {x0 y0 : Int} (h0 : oV P (x0, y0, 0)) (hP : ∀ x y, P x y → y0 < y ∨ (y = y0 ∧ x0 ≤ x)) {n : Nat} (hn : 1 ≤ n) (hb : oN P (x0, y0, 0) n = (x0, y0, 0)) (hm : ∀ k : Nat, 1 ≤ k → k < n → oN P (x0, y0, 0) k ≠ (x0, y0, 0)) : oR P (x0, y0, 0) n = oL P (x0, y0, 0) n + 4 := by
  have hV := oN_V h0
  have hS : ∀ j, oN P (x0, y0, 0) (j + 1) = oS P (oN P (x0, y0, 0) j) := fun _ => rfl
  have hW : ∀ j, (0 ≤ (oN P (x0, y0, 0) j).2.2 ∧ (oN P (x0, y0, 0) j).2.2 < 4) := fun j => (hV j).1
  have hT : ∀ j, (oN P (x0, y0, 0) (j + 1)).2.2 = tn (cn P (oN P (x0, y0, 0) (j + 1)).1 (oN P (x0, y0, 0) (j + 1)).2.1) (oN P (x0, y0, 0) j).2.2 := fun _ => rfl
  have hX : ∀ j, mX (oN P (x0, y0, 0) (j + 1)) = mX (oN P (x0, y0, 0) j) + (dx (oN P (x0, y0, 0) j).2.2 + dx (oN P (x0, y0, 0) (j + 1)).2.2) := fun j => mX_S _
  have hY : ∀ j, mY (oN P (x0, y0, 0) (j + 1)) = mY (oN P (x0, y0, 0) j) + (dy (oN P (x0, y0, 0) j).2.2 + dy (oN P (x0, y0, 0) (j + 1)).2.2) := fun j => mY_S _
  have hC : ∀ j, (oN P (x0, y0, 0) (j + 1)).2.2 = (oN P (x0, y0, 0) j).2.2 ∨ (oN P (x0, y0, 0) (j + 1)).2.2 = ((oN P (x0, y0, 0) j).2.2 + 1) % 4 ∨ (oN P (x0, y0, 0) (j + 1)).2.2 = ((oN P (x0, y0, 0) j).2.2 + 3) % 4 := fun j => by rw [hT j]; exact tn_c
  have hq0 : oN P (x0, y0, 0) 0 = (x0, y0, 0) := rfl
  have hdis : ∀ i j : Nat, i < j → j < n → ¬ (mX (oN P (x0, y0, 0) j) - mX (oN P (x0, y0, 0) i) = 0 ∧ mY (oN P (x0, y0, 0) j) - mY (oN P (x0, y0, 0) i) = 0) := by
    intro i j hij hj hz
    have e := mid_inj (hV i) (hV j) (by omega) (by omega)
    exact hm (j - i) (by omega) (by omega) (oN_back h0 i (j - i) (by rw [e, show i + (j - i) = j by omega]))
  -- the last side
  obtain ⟨n1, rfl⟩ : ∃ n1, n = n1 + 1 := ⟨n - 1, by omega⟩
  have hlast : (oN P (x0, y0, 0) n1) = (x0, y0 + 1, 3) := by
    have e := (oV_step (hV n1)).2
    rw [← hS, hb] at e
    have f1 : (oN P (x0, y0, 0) n1).1 + dx (oN P (x0, y0, 0) n1).2.2 = x0 := congrArg Prod.fst hb
    have f2 : (oN P (x0, y0, 0) n1).2.1 + dy (oN P (x0, y0, 0) n1).2.2 = y0 := congrArg (fun z => z.2.1) hb
    rw [f1, f2] at e
    have g1 : cn P x0 y0 ((0 + 1) % 4) = false := tr_f.mpr fun z => by
      have := hP _ _ z
      unfold rx ry at this
      simp at this
      omega
    unfold pw at e
    dsimp only at e
    rw [if_pos g1] at e
    have e : (0 + 3) % 4 = (oN P (x0, y0, 0) n1).2.2 := e
    rw [← e] at f1 f2
    have d1 : dx ((0 + 3) % 4) = 0 := by decide
    have d2 : dy ((0 + 3) % 4) = -1 := by decide
    rw [d1] at f1
    rw [d2] at f2
    have : oN P (x0, y0, 0) n1 = ((oN P (x0, y0, 0) n1).1, (oN P (x0, y0, 0) n1).2.1, (oN P (x0, y0, 0) n1).2.2) := rfl
    rw [this, ← e, show (oN P (x0, y0, 0) n1).1 = x0 by omega, show (oN P (x0, y0, 0) n1).2.1 = y0 + 1 by omega]
    rfl
  have hn1 : 1 ≤ n1 := by
    rcases Nat.eq_zero_or_pos n1 with z | z
    · subst z
      have := congrArg (fun z : Q3 => z.2.2) hlast
      rw [hq0] at this
      simp at this
    · exact z
  -- where a side's middle lies
  have hlow : ∀ j, (mY (oN P (x0, y0, 0) j) = 2 * y0 ∧ 2 * x0 + 1 ≤ mX (oN P (x0, y0, 0) j)) ∨ (mY (oN P (x0, y0, 0) j) = 2 * y0 + 1 ∧ 2 * x0 ≤ mX (oN P (x0, y0, 0) j)) ∨ 2 * y0 + 2 ≤ mY (oN P (x0, y0, 0) j) := by
    intro j
    have h1 := hP _ _ (tr_t.mp (hV j).2.1)
    unfold mX mY
    unfold rx ry at h1
    rcases dxy_0 (hW j) with ⟨a1, a2, a3⟩ | ⟨a1, a2, a3⟩ | ⟨a1, a2, a3⟩ | ⟨a1, a2, a3⟩ <;> rw [a1, a2] <;> rw [a3] at h1 <;> simp at h1 <;> omega
  have hm0 : mX (oN P (x0, y0, 0) 0) = 2 * x0 + 1 ∧ mY (oN P (x0, y0, 0) 0) = 2 * y0 := by
    rw [hq0]; unfold mX mY
    have d1 : dx 0 = 1 := by decide
    have d2 : dy 0 = 0 := by decide
    dsimp only; rw [d1, d2]; omega
  have hmn : mX (oN P (x0, y0, 0) n1) = 2 * x0 ∧ mY (oN P (x0, y0, 0) n1) = 2 * y0 + 1 := by
    rw [hlast]; unfold mX mY
    have d1 : dx 3 = 0 := by decide
    have d2 : dy 3 = -1 := by decide
    dsimp only; rw [d1, d2]; omega
  -- the sum over the triangle
  have tri := tri_sum (f := fW P (x0, y0, 0)) (T := fun j => tv (cn P (oN P (x0, y0, 0) (j + 1)).1 (oN P (x0, y0, 0) (j + 1)).2.1) (oN P (x0, y0, 0) j).2.2) (N := n1) ?_ ?_ n1 (Nat.le_refl _)
  · have tot := oRL_n (P := P) (x0, y0, 0) (n1 + 1)
    simp only [nS] at tot
    have l1 := leg_sum (g := fun j => fW P (x0, y0, 0) 0 j) (lo := 0) n1 ?_ ?_
    · have l2 := leg_sum (g := fun i => fW P (x0, y0, 0) i n1) (lo := 3) n1 ?_ ?_
      · have v1 : fW P (x0, y0, 0) 0 n1 = 3 := by
          unfold fW
          rw [if_neg (by omega), hmn.1, hmn.2, hm0.1, hm0.2, show 2 * x0 - (2 * x0 + 1) = -1 by omega, show 2 * y0 + 1 - 2 * y0 = 1 by omega]
          decide
        have v2 : fW P (x0, y0, 0) 0 0 = 0 := by unfold fW; rw [if_pos rfl]; rfl
        have v3 : fW P (x0, y0, 0) n1 n1 = 6 := by unfold fW; rw [if_pos rfl, hlast]; rfl
        have v4 : tv (cn P (oN P (x0, y0, 0) (n1 + 1)).1 (oN P (x0, y0, 0) (n1 + 1)).2.1) (oN P (x0, y0, 0) n1).2.2 = 2 := by
          rw [hb, hlast]
          dsimp only
          have g1 : cn P x0 y0 3 = false := h0.2.2
          unfold tv
          rw [if_pos g1, if_neg (fun z => by rw [g1] at z; exact absurd z.1 (by decide))]
          rfl
        rw [v4] at tot
        rw [v1, v2] at l1
        rw [v1, v3] at l2
        omega
      · intro i hi
        rcases Nat.lt_or_ge i n1 with z | z
        · have a := hdis i n1 z (by omega)
          have b := hlow i
          rw [hmn.1, hmn.2] at a
          show 3 ≤ fW P (x0, y0, 0) i n1 ∧ fW P (x0, y0, 0) i n1 ≤ 3 + 4
          unfold fW
          rw [if_neg (by omega), hmn.1, hmn.2]
          unfold w8
          repeat' split
          all_goals omega
        · have : i = n1 := by omega
          subst this
          show 3 ≤ fW P (x0, y0, 0) i i ∧ fW P (x0, y0, 0) i i ≤ 3 + 4
          unfold fW
          rw [if_pos rfl, hlast]
          dsimp only; omega
      · intro i hi
        show -3 ≤ sm8 (fW P (x0, y0, 0) (i + 1) n1 - fW P (x0, y0, 0) i n1) ∧ sm8 (fW P (x0, y0, 0) (i + 1) n1 - fW P (x0, y0, 0) i n1) ≤ 3
        have st := (tn_st (hW i) (hC i)).2
        unfold fW
        by_cases e : i + 1 = n1
        · rw [if_pos e, if_neg (by omega), ← e]
          have q1 := hX i
          have q2 := hY i
          rw [q1, q2, show mX (oN P (x0, y0, 0) i) + (dx (oN P (x0, y0, 0) i).2.2 + dx (oN P (x0, y0, 0) (i + 1)).2.2) - mX (oN P (x0, y0, 0) i) = dx (oN P (x0, y0, 0) i).2.2 + dx (oN P (x0, y0, 0) (i + 1)).2.2 by omega, show mY (oN P (x0, y0, 0) i) + (dy (oN P (x0, y0, 0) i).2.2 + dy (oN P (x0, y0, 0) (i + 1)).2.2) - mY (oN P (x0, y0, 0) i) = dy (oN P (x0, y0, 0) i).2.2 + dy (oN P (x0, y0, 0) (i + 1)).2.2 by omega]
          have hw := hW i
          have hc := hC i
          generalize (oN P (x0, y0, 0) i).2.2 = w at hw hc ⊢
          generalize (oN P (x0, y0, 0) (i + 1)).2.2 = v at hc ⊢
          rcases w_4 hw with rfl | rfl | rfl | rfl <;> rcases hc with rfl | rfl | rfl <;> decide
        · rw [if_neg e, if_neg (by omega)]
          have q1 := hX i
          have q2 := hY i
          have a := hdis i n1 hi (by omega)
          have b := hdis (i + 1) n1 (by omega) (by omega)
          have x1 : mX (oN P (x0, y0, 0) n1) - mX (oN P (x0, y0, 0) (i + 1)) = mX (oN P (x0, y0, 0) n1) - mX (oN P (x0, y0, 0) i) + -(dx (oN P (x0, y0, 0) i).2.2 + dx (oN P (x0, y0, 0) (i + 1)).2.2) := by omega
          have x2 : mY (oN P (x0, y0, 0) n1) - mY (oN P (x0, y0, 0) (i + 1)) = mY (oN P (x0, y0, 0) n1) - mY (oN P (x0, y0, 0) i) + -(dy (oN P (x0, y0, 0) i).2.2 + dy (oN P (x0, y0, 0) (i + 1)).2.2) := by omega
          rw [x1, x2] at b ⊢
          have := (w8_st (mXY_2 (hW i) (hW n1)) a b st).1
          omega
    · intro j hj
      show 0 ≤ fW P (x0, y0, 0) 0 j ∧ fW P (x0, y0, 0) 0 j ≤ 0 + 4
      unfold fW
      by_cases e : 0 = j
      · subst e
        rw [if_pos rfl, hq0]; dsimp only; omega
      · rw [if_neg e, hm0.1, hm0.2]
        have a := hdis 0 j (by omega) (by omega)
        have b := hlow j
        rw [hm0.1, hm0.2] at a
        unfold w8
        repeat' split
        all_goals omega
    · intro j hj
      show -3 ≤ sm8 (fW P (x0, y0, 0) 0 (j + 1) - fW P (x0, y0, 0) 0 j) ∧ sm8 (fW P (x0, y0, 0) 0 (j + 1) - fW P (x0, y0, 0) 0 j) ≤ 3
      have st := (tn_st (hW j) (hC j)).1
      unfold fW
      by_cases e : 0 = j
      · subst e
        rw [if_pos rfl, if_neg (by omega)]
        have q1 := hX 0
        have q2 := hY 0
        rw [q1, q2, show mX (oN P (x0, y0, 0) 0) + (dx (oN P (x0, y0, 0) 0).2.2 + dx (oN P (x0, y0, 0) (0 + 1)).2.2) - mX (oN P (x0, y0, 0) 0) = dx (oN P (x0, y0, 0) 0).2.2 + dx (oN P (x0, y0, 0) (0 + 1)).2.2 by omega, show mY (oN P (x0, y0, 0) 0) + (dy (oN P (x0, y0, 0) 0).2.2 + dy (oN P (x0, y0, 0) (0 + 1)).2.2) - mY (oN P (x0, y0, 0) 0) = dy (oN P (x0, y0, 0) 0).2.2 + dy (oN P (x0, y0, 0) (0 + 1)).2.2 by omega]
        have hw := hW 0
        have hc := hC 0
        generalize (oN P (x0, y0, 0) 0).2.2 = w at hw hc ⊢
        generalize (oN P (x0, y0, 0) (0 + 1)).2.2 = v at hc ⊢
        rcases w_4 hw with rfl | rfl | rfl | rfl <;> rcases hc with rfl | rfl | rfl <;> decide
      · rw [if_neg e, if_neg (by omega)]
        have q1 := hX j
        have q2 := hY j
        have a := hdis 0 j (by omega) (by omega)
        have b := hdis 0 (j + 1) (by omega) (by omega)
        have x1 : mX (oN P (x0, y0, 0) (j + 1)) - mX (oN P (x0, y0, 0) 0) = mX (oN P (x0, y0, 0) j) - mX (oN P (x0, y0, 0) 0) + (dx (oN P (x0, y0, 0) j).2.2 + dx (oN P (x0, y0, 0) (j + 1)).2.2) := by omega
        have x2 : mY (oN P (x0, y0, 0) (j + 1)) - mY (oN P (x0, y0, 0) 0) = mY (oN P (x0, y0, 0) j) - mY (oN P (x0, y0, 0) 0) + (dy (oN P (x0, y0, 0) j).2.2 + dy (oN P (x0, y0, 0) (j + 1)).2.2) := by omega
        rw [x1, x2] at b ⊢
        have := (w8_st (mXY_2 (hW 0) (hW j)) a b st).1
        omega
  · intro j hj
    show tv _ _ = _
    have q1 := hX j
    have q2 := hY j
    unfold fW
    rw [if_pos rfl, if_pos rfl, if_neg (by omega), show mX (oN P (x0, y0, 0) (j + 1)) - mX (oN P (x0, y0, 0) j) = dx (oN P (x0, y0, 0) j).2.2 + dx (oN P (x0, y0, 0) (j + 1)).2.2 by omega, show mY (oN P (x0, y0, 0) (j + 1)) - mY (oN P (x0, y0, 0) j) = dy (oN P (x0, y0, 0) j).2.2 + dy (oN P (x0, y0, 0) (j + 1)).2.2 by omega]
    exact (tn_v (D := cn P (oN P (x0, y0, 0) (j + 1)).1 (oN P (x0, y0, 0) (j + 1)).2.1) (hW j)).symm
  · intro i j hij hj
    have q1 := hX j
    have q2 := hY j
    have p1 := hX i
    have p2 := hY i
    by_cases e : i + 1 = j
    · subst e
      unfold fW
      rw [if_neg (by omega), if_neg (by omega), if_neg (by omega), if_pos rfl]
      have z1 : mX (oN P (x0, y0, 0) (i + 1 + 1)) - mX (oN P (x0, y0, 0) i) = dx (oN P (x0, y0, 0) i).2.2 + dx (oN P (x0, y0, 0) (i + 1)).2.2 + (dx (oN P (x0, y0, 0) (i + 1)).2.2 + dx (oN P (x0, y0, 0) (i + 1 + 1)).2.2) := by omega
      have z2 : mY (oN P (x0, y0, 0) (i + 1 + 1)) - mY (oN P (x0, y0, 0) i) = dy (oN P (x0, y0, 0) i).2.2 + dy (oN P (x0, y0, 0) (i + 1)).2.2 + (dy (oN P (x0, y0, 0) (i + 1)).2.2 + dy (oN P (x0, y0, 0) (i + 1 + 1)).2.2) := by omega
      have z3 : mX (oN P (x0, y0, 0) (i + 1)) - mX (oN P (x0, y0, 0) i) = dx (oN P (x0, y0, 0) i).2.2 + dx (oN P (x0, y0, 0) (i + 1)).2.2 := by omega
      have z4 : mY (oN P (x0, y0, 0) (i + 1)) - mY (oN P (x0, y0, 0) i) = dy (oN P (x0, y0, 0) i).2.2 + dy (oN P (x0, y0, 0) (i + 1)).2.2 := by omega
      have z5 : mX (oN P (x0, y0, 0) (i + 1 + 1)) - mX (oN P (x0, y0, 0) (i + 1)) = dx (oN P (x0, y0, 0) (i + 1)).2.2 + dx (oN P (x0, y0, 0) (i + 1 + 1)).2.2 := by omega
      have z6 : mY (oN P (x0, y0, 0) (i + 1 + 1)) - mY (oN P (x0, y0, 0) (i + 1)) = dy (oN P (x0, y0, 0) (i + 1)).2.2 + dy (oN P (x0, y0, 0) (i + 1 + 1)).2.2 := by omega
      rw [z1, z2, z3, z4, z5, z6]
      exact sq_d (hW i) (hC i) (hC (i + 1))
    · unfold fW
      rw [if_neg (by omega), if_neg (by omega), if_neg (by omega), if_neg (by omega)]
      have a0 := hdis i j (by omega) (by omega)
      have a1 := hdis i (j + 1) (by omega) (by omega)
      have a2 := hdis (i + 1) j (by omega) (by omega)
      have a3 := hdis (i + 1) (j + 1) (by omega) (by omega)
      have sj := (tn_st (hW j) (hC j)).1
      have si := (tn_st (hW i) (hC i)).2
      have x1 : mX (oN P (x0, y0, 0) (j + 1)) - mX (oN P (x0, y0, 0) i) = mX (oN P (x0, y0, 0) j) - mX (oN P (x0, y0, 0) i) + (dx (oN P (x0, y0, 0) j).2.2 + dx (oN P (x0, y0, 0) (j + 1)).2.2) := by omega
      have y1 : mY (oN P (x0, y0, 0) (j + 1)) - mY (oN P (x0, y0, 0) i) = mY (oN P (x0, y0, 0) j) - mY (oN P (x0, y0, 0) i) + (dy (oN P (x0, y0, 0) j).2.2 + dy (oN P (x0, y0, 0) (j + 1)).2.2) := by omega
      have x2 : mX (oN P (x0, y0, 0) j) - mX (oN P (x0, y0, 0) (i + 1)) = mX (oN P (x0, y0, 0) j) - mX (oN P (x0, y0, 0) i) + -(dx (oN P (x0, y0, 0) i).2.2 + dx (oN P (x0, y0, 0) (i + 1)).2.2) := by omega
      have y2 : mY (oN P (x0, y0, 0) j) - mY (oN P (x0, y0, 0) (i + 1)) = mY (oN P (x0, y0, 0) j) - mY (oN P (x0, y0, 0) i) + -(dy (oN P (x0, y0, 0) i).2.2 + dy (oN P (x0, y0, 0) (i + 1)).2.2) := by omega
      have x3 : mX (oN P (x0, y0, 0) (j + 1)) - mX (oN P (x0, y0, 0) (i + 1)) = mX (oN P (x0, y0, 0) j) - mX (oN P (x0, y0, 0) i) + (dx (oN P (x0, y0, 0) j).2.2 + dx (oN P (x0, y0, 0) (j + 1)).2.2) + -(dx (oN P (x0, y0, 0) i).2.2 + dx (oN P (x0, y0, 0) (i + 1)).2.2) := by omega
      have y3 : mY (oN P (x0, y0, 0) (j + 1)) - mY (oN P (x0, y0, 0) (i + 1)) = mY (oN P (x0, y0, 0) j) - mY (oN P (x0, y0, 0) i) + (dy (oN P (x0, y0, 0) j).2.2 + dy (oN P (x0, y0, 0) (j + 1)).2.2) + -(dy (oN P (x0, y0, 0) i).2.2 + dy (oN P (x0, y0, 0) (i + 1)).2.2) := by omega
      have dj := dx2 (hW j) (hC j)
      have di := dx2 (hW i) (hC i)
      have nc := no_crs (hV j) (hV i) dj.1 dj.2 (p' := -(dx (oN P (x0, y0, 0) i).2.2 + dx (oN P (x0, y0, 0) (i + 1)).2.2)) (r' := -(dy (oN P (x0, y0, 0) i).2.2 + dy (oN P (x0, y0, 0) (i + 1)).2.2)) (by omega) (by omega)
      rw [x1, y1] at a1
      rw [x2, y2] at a2
      rw [x3, y3] at a3
      rw [x1, y1, x2, y2, x3, y3]
      exact w8_sq (mXY_2 (hW i) (hW j)) a0 a1 a2 a3 sj si nc
end TW1
