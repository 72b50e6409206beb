/-! MODEL: borders, who is better, the smallest. -/
section MD5
variable {l : Launch} {rf sz c r : Int} {G T : Int → Int} {le : Int} {Hh : Int → Int} {li ac : Int} {B I : Int → Int} {m : Int} {Fi Co Br Wt mk gy : Int → Int} {sd rt lf wy sp ou : Int} {b : Int → Int}
/-- the number of a first cell; none -/
noncomputable def nrk (c r : Int) (b : Int → Int) (x : Int) : Int := if x = -1 then -1 else rk c r b x
noncomputable def smN (c r : Int) (b : Int → Int) (le : Int) : Nat → Int
  | 0 => -1
  | i + 1 => if siz c r b (fo c r b i) < le ∧ (smN c r b le i = -1 ∨ siz c r b (fo c r b i) < siz c r b (fo c r b (smN c r b le i))) then i else smN c r b le i
theorem smN_rg (le : Int) : ∀ i : Nat, smN c r b le i = -1 ∨ (0 ≤ smN c r b le i ∧ smN c r b le i < i)
  | 0 => Or.inl rfl
  | i + 1 => by have := smN_rg le i; simp only [smN]; split <;> omega
theorem rk_s {k : Nat} (h : lw c r b k = k) : (rk c r b ((k + 1 : Nat) : Int)).toNat = (rk c r b k).toNat + 1 := by
  have a := cntK_t (p := fun j => decide (lw c r b j = j)) (decide_eq_true h)
  have d := rk_rg (c := c) (r := r) (B := b) k
  have e : rk c r b ((k + 1 : Nat) : Int) = rk c r b k + 1 := a
  omega
theorem rk_n {k : Nat} (h : lw c r b k ≠ k) : rk c r b ((k + 1 : Nat) : Int) = rk c r b k := cntK_f (p := fun j => decide (lw c r b j = j)) (decide_eq_false h)
theorem fo_nrk (hd : dim c r) {x : Int} (h : x ≠ -1) (h0 : cel c r x) (hl : lw c r b x = x) : fo c r b (nrk c r b x) = x := by unfold nrk; rw [if_neg h]; exact fo_rk hd h0 hl
theorem nrk_n {x : Int} : nrk c r b x = -1 ↔ x = -1 := by
  have := rk_rg (c := c) (r := r) (B := b) x
  unfold nrk; split <;> omega
theorem smN_K (hd : dim c r) (le : Int) : ∀ k : Nat, (k : Int) ≤ c * r → smN c r b le (rk c r b k).toNat = nrk c r b (smK c r b le k)
  | 0, _ => by
    have : rk c r b ((0 : Nat) : Int) = 0 := rfl
    rw [this]; rfl
  | k + 1, h => by
    have ih := smN_K hd le k (by omega)
    have hk : cel c r k := ⟨by omega, by omega⟩
    have hr := rk_rg (c := c) (r := r) (B := b) k
    by_cases z : lw c r b k = k
    · have hf := fo_rk hd hk z
      have er : (((rk c r b k).toNat : Nat) : Int) = rk c r b k := Int.toNat_of_nonneg hr.1
      rw [rk_s z]
      simp only [smN, smK]
      rw [ih, er, hf]
      have hn : nrk c r b (smK c r b le k) = -1 ↔ smK c r b le k = -1 := nrk_n
      rcases smK_ok (c := c) (r := r) (B := b) (le := le) k with y | y
      · have y2 := hn.mpr y
        by_cases w : siz c r b k < le
        · rw [if_pos ⟨w, Or.inl y2⟩, if_pos ⟨z, w, Or.inl y⟩]; unfold nrk; rw [if_neg (by omega)]
        · rw [if_neg (fun q => w q.1), if_neg (fun q => w q.2.1)]
      · have hc2 : cel c r (smK c r b le k) := ⟨y.1, by omega⟩
        have e2 := fo_nrk hd (by omega) hc2 y.2.2.1
        have y2 : nrk c r b (smK c r b le k) ≠ -1 := fun q => by have := hn.mp q; omega
        rw [e2]
        by_cases w : siz c r b k < le ∧ siz c r b k < siz c r b (smK c r b le k)
        · rw [if_pos ⟨w.1, Or.inr w.2⟩, if_pos ⟨z, w.1, Or.inr w.2⟩]; unfold nrk; rw [if_neg (by omega)]
        · rw [if_neg (fun q => w ⟨q.1, q.2.elim (fun e => absurd e y2) id⟩), if_neg (fun q => w ⟨q.2.1, q.2.2.elim (fun e => by omega) id⟩)]
    · rw [rk_n z, ih]
      simp only [smK]
      rw [if_neg (fun q => z q.1)]
theorem smN_L (hd : dim c r) (le : Int) : smN c r b le (mny c r b).toNat = nrk c r b (smL c r b le) := by
  have hc := dim_cells hd
  have := smN_K (b := b) hd le (c * r).toNat (by omega)
  rw [show (((c * r).toNat : Nat) : Int) = c * r by omega] at this
  exact this
/-- what the Model finds as the smallest -/
noncomputable def smM (c r : Int) (b : Int → Int) (le : Int) : Int := if 1 < mny c r b then nrk c r b (smL c r b le) else -1
end MD5
