/-! MODEL: marks, borders, who is better, the smallest. -/
section MD4
variable {l : Launch} {rf sz c r : Int} {G T : Int → Int} {le : Int} {Hh : Int → Int} {li ac : Int} {B I : Int → Int} {m : Int} {Fi Co Br Wt mk gy : Int → Int} {sd rt lf wy sp ou : Int} {b : Int → Int}
/-- what is held of the marks, told by some bands b -/
def JW (c r : Int) (b B I : Int → Int) (m : Int) (Fi Co : Int → Int) : Prop :=
  (∀ i, 0 ≤ B i ∧ B i ≤ 5) ∧ (∀ i, rg (I i)) ∧ (∀ k, cel c r k → B k = b k) ∧ (∀ k, cel c r k → I k = rk c r b (lw c r b k)) ∧ m = mny c r b ∧ ∀ L, cel c r L → lw c r b L = L → Fi (rk c r b L) = L ∧ Co (rk c r b L) = siz c r b L
theorem JW_congr (hd : dim c r) {I : Int → Int} {m : Int} {Fi Co : Int → Int} (h : JW c r B B I m Fi Co) (e : ∀ k, cel c r k → B k = b k) : JW c r b B I m Fi Co := by
  obtain ⟨h1, h2, h3, h4, h5, h6⟩ := h
  rw [rk_congr hd e, lwf_congr hd e] at h4 h6
  rw [siz_congr hd e] at h6
  rw [mny_congr hd e] at h5
  exact ⟨h1, h2, e, h4, h5, h6⟩
end MD4
