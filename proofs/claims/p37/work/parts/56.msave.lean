/-! MODEL's face: save, restore. -/
section MP8
variable {l : Launch} {rf sz : Int} {S : St} {ac : Int} {B I : Int → Int} {m : Int} {Fi Co Br Wt mk gy : Int → Int} {S2 : St} {tx di ke ik ea : Int → Int} {sd rt lf wy sp ou : Int}
/-- what is kept after saving at v -/
def kP2 (S : St) (ke : Int → Int) (v : Int) : Int → Int := cpF (rowS S) 0 ke (160 * v) 160
/-- which exception: restore -/
def kRes (ik : Int → Int) (v : Int) : Int := if ¬ (0 ≤ v ∧ v ≤ 1) then 1 else if ik v = 0 then 2 else 0
theorem kRes_rg {v : Int} : 0 ≤ kRes ik v ∧ kRes ik v ≤ 2 := by
  unfold kRes
  repeat' split
  all_goals omega
theorem kRes_0 {v : Int} (h : kRes ik v = 0) : (0 ≤ v ∧ v ≤ 1) ∧ ik v ≠ 0 := by
  unfold kRes at h
  repeat' split at h
  all_goals omega
end MP8
