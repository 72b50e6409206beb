/-! MODEL's face: ifLeast, leastFor, ifCell. -/
section MP6
variable {l : Launch} {rf sz : Int} {S : St} {ac : Int} {B I : Int → Int} {m : Int} {Fi Co Br Wt mk gy : Int → Int} {S2 : St} {tx di ke ik ea : Int → Int} {sd rt lf wy sp ou : Int}
noncomputable def aIfL (S : St) (v w : Int) : Int := if w = 0 then mS (setE S v) else if w = 1 then cntK (fun k => decide (bS (setE S v) k ≠ bnd (sT S) (sN S) (sG S) k)) (sC S * sR S).toNat else inkF (sC S) (sR S) (bS (setE S v)) (sH S) (sI S)
def kIfL (v w : Int) : Int := if (1 ≤ v ∧ v ≤ 30) ∧ 0 ≤ w ∧ w ≤ 2 then 0 else 1
theorem kIfL_rg {v w : Int} : 0 ≤ kIfL v w ∧ kIfL v w ≤ 2 := by
  unfold kIfL
  repeat' split
  all_goals omega
theorem kIfL_0 {v w : Int} (e : kIfL v w = 0) : (1 ≤ v ∧ v ≤ 30) ∧ 0 ≤ w ∧ w ≤ 2 := by
  unfold kIfL at e
  repeat' split at e
  all_goals omega
/-- the first least size from v on, of f, with at most n islands -/
noncomputable def lfK (S : St) (n : Int) : Nat → Int → Int
  | 0, _ => -1
  | f + 1, v => if mS (setE S v) ≤ n then v else lfK S n f (v + 1)
end MP6
