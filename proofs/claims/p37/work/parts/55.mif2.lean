/-! MODEL's face: ifCell, bestMove. -/
section MP7
variable {l : Launch} {rf sz : Int} {S : St} {ac : Int} {B I : Int → Int} {m : Int} {Fi Co Br Wt mk gy : Int → Int} {S2 : St} {tx di ke ik ea : Int → Int} {sd rt lf wy sp ou : Int}
theorem mdM_len {rf sz c r : Int} {G T : Int → Int} {n le : Int} {Hh : Int → Int} {li ac : Int} {B I : Int → Int} {m : Int} {Fi Co Br Wt mk gy : Int → Int} {sd rt lf wy sp ou : Int} : (mdM rf sz c r G T n le Hh li ac B I m Fi Co Br Wt mk gy sd rt lf wy sp ou).length = 10 := rfl
noncomputable def kIfC (S : St) (x y g w : Int) : Int := if ¬ (0 ≤ x ∧ x < sC S) ∨ ¬ (0 ≤ y ∧ y < sR S) then 1 else if (0 ≤ g ∧ g ≤ 99) ∧ 0 ≤ w ∧ w ≤ 2 then 0 else 2
theorem kIfC_rg {x y g w : Int} : 0 ≤ kIfC S x y g w ∧ kIfC S x y g w ≤ 2 := by
  unfold kIfC
  repeat' split
  all_goals omega
theorem kIfC_0 {x y g w : Int} (h : kIfC S x y g w = 0) : (0 ≤ x ∧ x < sC S) ∧ (0 ≤ y ∧ y < sR S) ∧ (0 ≤ g ∧ g ≤ 99) ∧ 0 ≤ w ∧ w ≤ 2 := by
  unfold kIfC at h
  repeat' split at h
  all_goals omega
theorem kIfC_is2 {x y g w : Int} (h1 : 0 ≤ x ∧ x < sC S) (h2 : 0 ≤ y ∧ y < sR S) : kIfC S x y g w = if (0 ≤ g ∧ g ≤ 99) ∧ 0 ≤ w ∧ w ≤ 2 then 0 else 2 := if_neg (fun z => z.elim (fun y => y h1) fun y => y h2)
/-- how many cells have another band in P than in S -/
noncomputable def dfK (S P : St) : Nat → Int := cntK (fun k => decide (bS P k ≠ bS S k))
noncomputable def aIfC (S P : St) (x y w : Int) : Int := if w = 0 then siz (sC S) (sR S) (bS P) (lw (sC S) (sR S) (bS P) (y * sC S + x)) else if w = 1 then mS P else dfK S P (sC S * sR S).toNat
end MP7
