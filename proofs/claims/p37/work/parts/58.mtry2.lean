/-! MODEL: a box on the trial; a turn. -/
section MQ1
variable {l : Launch} {rf sz : Int} {S : St} {ac : Int} {B I : Int → Int} {m : Int} {Fi Co Br Wt mk gy : Int → Int} {S2 : St} {tx di ke ik ea : Int → Int} {sd rt lf wy sp ou : Int}
theorem boxF_le (c g x0 y0 : Int) (G : Int → Int) (w h : Nat) : 0 ≤ (boxF c g x0 w y0 h (G, 0)).2 ∧ (boxF c g x0 w y0 h (G, 0)).2 ≤ w * h := by
  induction h with
  | zero => exact ⟨Int.le_refl _, by show (0 : Int) ≤ w * ((0 : Nat) : Int); omega⟩
  | succ h ih =>
    rw [boxF_end]
    have := rowF_le c g (y0 + h) w x0 (boxF c g x0 w y0 h (G, 0))
    have e : (w : Int) * ((h + 1 : Nat) : Int) = w * h + w := by rw [show ((h + 1 : Nat) : Int) = h + 1 by omega, Int.mul_add, Int.mul_one]
    omega
theorem boxF_144 {c r g x0 x1 y0 y1 : Int} {G : Int → Int} (hd : dim c r) (a : 0 ≤ x0 ∧ x0 ≤ x1 ∧ x1 < c) (d : 0 ≤ y0 ∧ y0 ≤ y1 ∧ y1 < r) : 0 ≤ (boxF c g x0 (x1 - x0 + 1).toNat y0 (y1 - y0 + 1).toNat (G, 0)).2 ∧ (boxF c g x0 (x1 - x0 + 1).toNat y0 (y1 - y0 + 1).toNat (G, 0)).2 ≤ 144 := by
  have h := boxF_le c g x0 y0 G (x1 - x0 + 1).toNat (y1 - y0 + 1).toNat
  obtain ⟨d1, d2, d3, d4⟩ := hd
  have e : (((x1 - x0 + 1).toNat : Nat) : Int) * (((y1 - y0 + 1).toNat : Nat) : Int) ≤ 12 * 12 := Int.mul_le_mul (by omega) (by omega) (by omega) (by omega)
  omega
end MQ1
