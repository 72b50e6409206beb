/-! MODEL's face: numbers, cells, thresholds, bands, ink. -/
section MP4
variable {l : Launch} {rf sz : Int} {S : St} {ac : Int} {B I : Int → Int} {m : Int} {Fi Co Br Wt mk gy : Int → Int} {S2 : St} {tx di ke ik ea : Int → Int} {sd rt lf wy sp ou : Int}
def kIn (v lo hi : Int) : Int := if lo ≤ v ∧ v ≤ hi then 0 else 1
theorem kIn_0 {v lo hi : Int} (h : kIn v lo hi = 0) : lo ≤ v ∧ v ≤ hi := by unfold kIn at h; split at h; assumption; omega
theorem kIn_1 {v lo hi : Int} (h : kIn v lo hi ≠ 0) : kIn v lo hi = 1 := by unfold kIn at h ⊢; split; rename_i z; rw [if_pos z] at h; exact absurd rfl h; rfl
noncomputable def aAbout (S : St) (what : Int) : Int :=
  if what = 0 then sC S else if what = 1 then sR S else if what = 2 then sN S else if what = 3 then sE S else if what = 4 then mS S else if what = 5 then mny (sC S) (sR S) (bnd (sT S) (sN S) (sG S)) else if what = 6 then cntK (fun k => decide (bS S k ≠ bnd (sT S) (sN S) (sG S) k)) (sC S * sR S).toNat else if what = 7 then asK (sC S) (sR S) (bS S) (sC S * sR S).toNat / 2 else if what = 8 then ahF (sC S) (sR S) (bS S) else if what = 9 then sI S else sumK (sG S) (sC S * sR S).toNat
noncomputable def kCell (S : St) (x y what hi : Int) : Int := if ¬ (0 ≤ x ∧ x < sC S) ∨ ¬ (0 ≤ y ∧ y < sR S) then 1 else if 0 ≤ what ∧ what ≤ hi then 0 else 2
theorem kCell_0 {x y what hi : Int} (h : kCell S x y what hi = 0) : (0 ≤ x ∧ x < sC S) ∧ (0 ≤ y ∧ y < sR S) ∧ 0 ≤ what ∧ what ≤ hi := by
  unfold kCell at h
  repeat' split at h
  all_goals omega
theorem kCell_rg {x y what hi : Int} : 0 ≤ kCell S x y what hi ∧ kCell S x y what hi ≤ 2 := by
  unfold kCell
  repeat' split
  all_goals omega
noncomputable def aCell (S : St) (x y what : Int) : Int :=
  if what = 0 then sG S (y * sC S + x) else if what = 1 then bandN (sT S) (sN S) (sG S (y * sC S + x)) else if what = 2 then bS S (y * sC S + x) else if what = 3 then rk (sC S) (sR S) (bS S) (lw (sC S) (sR S) (bS S) (y * sC S + x)) else if what = 4 then osK (sC S) (sR S) (bS S) (y * sC S + x) 4 else dstK (sT S) (sG S (y * sC S + x)) (sN S)
noncomputable def kBand (S : St) (x what : Int) : Int := if ¬ (0 ≤ x ∧ x ≤ sN S) then 1 else if 0 ≤ what ∧ what ≤ 3 then 0 else 2
theorem kBand_0 {x what : Int} (h : kBand S x what = 0) : (0 ≤ x ∧ x ≤ sN S) ∧ 0 ≤ what ∧ what ≤ 3 := by
  unfold kBand at h
  repeat' split at h
  all_goals omega
theorem kBand_rg {x what : Int} : 0 ≤ kBand S x what ∧ kBand S x what ≤ 2 := by
  unfold kBand
  repeat' split
  all_goals omega
noncomputable def aBand (S : St) (x what : Int) : Int :=
  if what = 0 then sH S x else if what = 1 then cntK (fun k => decide (bS S k = x)) (sC S * sR S).toNat else if what = 2 then cntK (fun j => decide (lw (sC S) (sR S) (bS S) j = j ∧ bS S j = x)) (sC S * sR S).toNat else cntK (fun k => decide (bS S k = x)) (sC S * sR S).toNat * sH S x
end MP4
