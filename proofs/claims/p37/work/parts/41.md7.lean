/-! MODEL: greys taken over, blurred, spread, made noisy. -/
section MD9
variable {l : Launch} {rf sz c r : Int} {G T : Int → Int} {le : Int} {Hh : Int → Int} {li ac : Int} {B I : Int → Int} {m : Int} {Fi Co Br Wt mk gy : Int → Int} {sd rt lf wy sp ou : Int} {b : Int → Int}
theorem mapK_in {f : Int → Int} {k : Int} {j : Int} (h : 0 ≤ j ∧ j < k) : mapK f k G j = f j := if_pos h
theorem mapK_2 {f : Int → Int} (k : Int) : mapK (mapK f k gy) k G = mapK f k G := by
  funext j
  unfold mapK
  by_cases h : 0 ≤ j ∧ j < k
  · rw [if_pos h, if_pos h, if_pos h]
  · rw [if_neg h, if_neg h]
theorem cnt_mapK (hd : dim c r) {f : Int → Int} : cntK (fun j => decide (mapK f (c * r) gy j ≠ G j)) (c * r).toNat = cntK (fun j => decide (f j ≠ G j)) (c * r).toNat := by
  have hc := dim_cells hd
  exact cntK_congr _ fun j hj => by rw [mapK_in ⟨by omega, by omega⟩]
/-- a grey and its neighbours, up to a way -/
def bsK (c r : Int) (G : Int → Int) (k : Int) (w : Nat) : Int := 4 * G k + sumK (fun w => if nb c r k w = -1 then 0 else G (nb c r k w)) w
def bnK (c r : Int) (k : Int) (w : Nat) : Int := 4 + sumK (fun w => if nb c r k w = -1 then 0 else 1) w
theorem bsK_4 (hd : dim c r) {k : Int} (hk : cel c r k) : bsK c r G k 4 = blS c r G k (k % c) (k / c) ∧ bnK c r k 4 = blN c r (k % c) (k / c) := by
  have h := dim_k hd hk
  have hq := dim_x hd (x := 0) (y := k / c) ⟨h.2.2.1, h.2.2.2.1⟩
  have hk1 := hk.1
  obtain ⟨d1, d2, d3, d4⟩ := id hd
  have n0 : nb c r k 0 = if k % c < c - 1 then k + 1 else -1 := by unfold nb; rw [if_pos rfl]
  have n1 : nb c r k 1 = if k / c < r - 1 then k + c else -1 := by unfold nb; rw [if_neg (by decide), if_pos rfl]
  have n2 : nb c r k 2 = if 0 < k % c then k - 1 else -1 := by unfold nb; rw [if_neg (by decide), if_neg (by decide), if_pos rfl]
  have n3 : nb c r k 3 = if 0 < k / c then k - c else -1 := by unfold nb; rw [if_neg (by decide), if_neg (by decide), if_neg (by decide)]
  have f0 : (if nb c r k 0 = -1 then 0 else G (nb c r k 0)) = (if k % c < c - 1 then G (k + 1) else 0) ∧ (if nb c r k 0 = -1 then (0 : Int) else 1) = (if k % c < c - 1 then 1 else 0) := by
    by_cases z : k % c < c - 1
    · rw [n0, if_pos z, if_pos z, if_pos z, if_neg (by omega), if_neg (by omega)]; exact ⟨rfl, rfl⟩
    · rw [n0, if_neg z, if_neg z, if_neg z, if_pos rfl, if_pos rfl]; exact ⟨rfl, rfl⟩
  have f1 : (if nb c r k 1 = -1 then 0 else G (nb c r k 1)) = (if k / c < r - 1 then G (k + c) else 0) ∧ (if nb c r k 1 = -1 then (0 : Int) else 1) = (if k / c < r - 1 then 1 else 0) := by
    by_cases z : k / c < r - 1
    · rw [n1, if_pos z, if_pos z, if_pos z, if_neg (by omega), if_neg (by omega)]; exact ⟨rfl, rfl⟩
    · rw [n1, if_neg z, if_neg z, if_neg z, if_pos rfl, if_pos rfl]; exact ⟨rfl, rfl⟩
  have f2 : (if nb c r k 2 = -1 then 0 else G (nb c r k 2)) = (if 0 < k % c then G (k - 1) else 0) ∧ (if nb c r k 2 = -1 then (0 : Int) else 1) = (if 0 < k % c then 1 else 0) := by
    by_cases z : 0 < k % c
    · rw [n2, if_pos z, if_pos z, if_pos z, if_neg (by omega), if_neg (by omega)]; exact ⟨rfl, rfl⟩
    · rw [n2, if_neg z, if_neg z, if_neg z, if_pos rfl, if_pos rfl]; exact ⟨rfl, rfl⟩
  have f3 : (if nb c r k 3 = -1 then 0 else G (nb c r k 3)) = (if 0 < k / c then G (k - c) else 0) ∧ (if nb c r k 3 = -1 then (0 : Int) else 1) = (if 0 < k / c then 1 else 0) := by
    by_cases z : 0 < k / c
    · have := hq.1 z
      rw [n3, if_pos z, if_pos z, if_pos z, if_neg (by omega), if_neg (by omega)]; exact ⟨rfl, rfl⟩
    · rw [n3, if_neg z, if_neg z, if_neg z, if_pos rfl, if_pos rfl]; exact ⟨rfl, rfl⟩
  have s0 : bsK c r G k 4 = 4 * G k + (0 + (if nb c r k 0 = -1 then 0 else G (nb c r k 0)) + (if nb c r k 1 = -1 then 0 else G (nb c r k 1)) + (if nb c r k 2 = -1 then 0 else G (nb c r k 2)) + (if nb c r k 3 = -1 then 0 else G (nb c r k 3))) := rfl
  have s1 : bnK c r k 4 = 4 + (0 + (if nb c r k 0 = -1 then 0 else 1) + (if nb c r k 1 = -1 then 0 else 1) + (if nb c r k 2 = -1 then 0 else 1) + (if nb c r k 3 = -1 then 0 else 1)) := rfl
  rw [s0, s1, f0.1, f0.2, f1.1, f1.2, f2.1, f2.2, f3.1, f3.2]
  unfold blS blN
  omega
end MD9
