/-! MODEL: islands found. -/
section MD6
variable {l : Launch} {rf sz c r : Int} {G T : Int → Int} {le : Int} {Hh : Int → Int} {li ac : Int} {B I : Int → Int} {m : Int} {Fi Co Br Wt mk gy : Int → Int} {sd rt lf wy sp ou : Int} {b : Int → Int}
noncomputable def tkN (c r : Int) (b : Int → Int) (s : Int) : Nat → Int
  | 0 => -1
  | i + 1 => if 0 < brd c r b s (fo c r b i) ∧ (tkN c r b s i = -1 ∨ bet b (brd c r b s) s (fo c r b i) (fo c r b (tkN c r b s i))) then i else tkN c r b s i
theorem tkN_rg (s : Int) : ∀ i : Nat, tkN c r b s i = -1 ∨ (0 ≤ tkN c r b s i ∧ tkN c r b s i < i)
  | 0 => Or.inl rfl
  | i + 1 => by have := tkN_rg s i; simp only [tkN]; split <;> omega
theorem brd_first (hd : dim c r) {s L : Int} (h : 0 < brd c r b s L) : lw c r b L = L := by
  obtain ⟨k, w, h1, h2, h3, h4, h5, h6⟩ := (brd_pos hd).2.mp h
  rw [← h6]; exact lw_lw hd (nb_back hd h1 h3 h4).1
theorem tkN_K (hd : dim c r) (s : Int) : ∀ k : Nat, (k : Int) ≤ c * r → tkN c r b s (rk c r b k).toNat = nrk c r b (tkK c r b s k)
  | 0, _ => by
    have : rk c r b ((0 : Nat) : Int) = 0 := rfl
    rw [this]; rfl
  | k + 1, h => by
    have ih := tkN_K hd s k (by omega)
    have hk : cel c r k := ⟨by omega, by omega⟩
    have hr := rk_rg (c := c) (r := r) (B := b) k
    by_cases z : lw c r b k = k
    · have hf := fo_rk hd hk z
      have er : (((rk c r b k).toNat : Nat) : Int) = rk c r b k := Int.toNat_of_nonneg hr.1
      rw [rk_s z]
      simp only [tkN, tkK]
      rw [ih, er, hf]
      have hn : nrk c r b (tkK c r b s k) = -1 ↔ tkK c r b s k = -1 := nrk_n
      rcases (tkK_ok (c := c) (r := r) (B := b) (s := s) k).2 with y | y
      · have y2 := hn.mpr y
        by_cases w : 0 < brd c r b s k
        · rw [if_pos ⟨w, Or.inl y2⟩, if_pos ⟨w, Or.inl y⟩]; unfold nrk; rw [if_neg (by omega)]
        · rw [if_neg (fun q => w q.1), if_neg (fun q => w q.1)]
      · have hc2 : cel c r (tkK c r b s k) := ⟨y.1, by omega⟩
        have e2 := fo_nrk hd (by omega) hc2 (brd_first hd y.2.2)
        have y2 : nrk c r b (tkK c r b s k) ≠ -1 := fun q => by have := hn.mp q; omega
        rw [e2]
        by_cases w : 0 < brd c r b s k ∧ bet b (brd c r b s) s k (tkK c r b s k)
        · rw [if_pos ⟨w.1, Or.inr w.2⟩, if_pos ⟨w.1, Or.inr w.2⟩]; unfold nrk; rw [if_neg (by omega)]
        · rw [if_neg (fun q => w ⟨q.1, q.2.elim (fun e => absurd e y2) id⟩), if_neg (fun q => w ⟨q.1, q.2.elim (fun e => by omega) id⟩)]
    · rw [rk_n z, ih]
      simp only [tkK]
      rw [if_neg (fun q => z (brd_first hd q.1))]
theorem tkN_L (hd : dim c r) (s : Int) : tkN c r b s (mny c r b).toNat = nrk c r b (tkL c r b s) := by
  have hc := dim_cells hd
  have := tkN_K (b := b) hd s (c * r).toNat (by omega)
  rw [show (((c * r).toNat : Nat) : Int) = c * r by omega] at this
  exact this
/-- the bands of a plate with a least size -/
noncomputable def fb (c r : Int) (T : Int → Int) (n : Nat) (G : Int → Int) (le : Int) : Int → Int := mrg c r le 144 (bnd T n G)
theorem bnd_rg {n : Nat} (hn : n ≤ 5) (k : Int) : 0 ≤ bnd T n G k ∧ bnd T n G k ≤ 5 := by
  have := cntK_rg (fun j => decide (T j ≤ G k)) n
  unfold bnd bandN; omega
end MD6
