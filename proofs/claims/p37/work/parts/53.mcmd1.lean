/-! MODEL's face: the diary, and commands that change a cell, a setting, a plate. -/
section MP5
variable {l : Launch} {rf sz : Int} {S : St} {ac : Int} {B I : Int → Int} {m : Int} {Fi Co Br Wt mk gy : Int → Int} {S2 : St} {tx di ke ik ea : Int → Int} {sd rt lf wy sp ou : Int}
/-- the diary with its first k numbers taken from a slot later -/
def shD (di : Int → Int) (k : Int) : Int → Int := fun j => if 0 ≤ j ∧ j < k then di (j + 160) else di j
theorem shD_0 {di : Int → Int} : shD di 0 = di := by funext j; unfold shD; rw [if_neg (by omega)]
theorem shD_up {di : Int → Int} {k : Int} (h : 0 ≤ k) : up (shD di k) k (shD di k (k + 160)) = shD di (k + 1) := by
  funext j
  unfold up shD
  repeat' split
  all_goals first | rfl | omega | (subst_vars; rfl)
/-- acts after one more -/
def aP (ac : Int) : Int := if ac = 14 then 14 else ac + 1
/-- the diary after one more -/
def dP (S : St) (ac : Int) (di : Int → Int) : Int → Int := cpF (rowS S) 0 (if ac = 14 then shD di 2080 else di) (160 * (aP ac - 1)) 160
theorem row_E (S : St) (v : Int) : up (rowS S) 8 v = rowS (setE S v) := by
  funext j; simp only [up, rowOf]; (repeat' split) <;> first | rfl | omega
theorem row_I (S : St) (v : Int) : up (rowS S) 15 v = rowS (setI S v) := by
  funext j; simp only [up, rowOf]; (repeat' split) <;> first | rfl | omega
theorem row_H (S : St) (v : Int) {b : Int} (hb : 0 ≤ b ∧ b < 6) : up (rowS S) (9 + b) v = rowS (setH S b v) := by
  show _ = rowOf (sC S) (sR S) (sG S) (sT S) (sN S) (sE S) (up (sH S) b v) (sI S)
  funext j; simp only [up, rowOf]; (repeat' split) <;> first | rfl | omega
theorem row_h (S : St) {b : Int} (hb : 0 ≤ b ∧ b < 6) : rowS S (9 + b) = sH S b := by
  simp only [rowOf]; (repeat' split) <;> first | (exfalso; omega) | (congr 1; omega)
def kHatch (i v : Int) : Int := if 0 ≤ i ∧ i ≤ 5 then (if 0 ≤ v ∧ v ≤ 9 then 0 else 2) else 1
def kPlate (w h : Int) : Int := if (1 ≤ w ∧ w ≤ 12) ∧ 1 ≤ h ∧ h ≤ 12 then 0 else 1
noncomputable def kPut (S : St) (x y g : Int) : Int := if ¬ (0 ≤ x ∧ x < sC S) ∨ ¬ (0 ≤ y ∧ y < sR S) then 1 else if 0 ≤ g ∧ g ≤ 99 then 0 else 2
noncomputable def kBox (S : St) (x0 x1 y0 y1 g : Int) : Int := if ¬ (0 ≤ x0 ∧ x0 < sC S) ∨ ¬ (0 ≤ x1 ∧ x1 < sC S) ∨ ¬ (0 ≤ y0 ∧ y0 < sR S) ∨ ¬ (0 ≤ y1 ∧ y1 < sR S) then 1 else if (0 ≤ g ∧ g ≤ 99) ∧ inP (sC S) (sR S) x0 y0 ∧ inP (sC S) (sR S) x1 y1 ∧ x0 ≤ x1 ∧ y0 ≤ y1 then 0 else 2
noncomputable def kPart (S : St) (v b : Int) : Int := if ¬ (1 ≤ v ∧ v ≤ 99) then 1 else if canT (sT S) (sN S) v b = true then 0 else 2
theorem kHatch_rg {i v : Int} : 0 ≤ kHatch i v ∧ kHatch i v ≤ 2 := by
  unfold kHatch
  repeat' split
  all_goals omega
theorem kPlate_rg {w h : Int} : 0 ≤ kPlate w h ∧ kPlate w h ≤ 2 := by
  unfold kPlate
  repeat' split
  all_goals omega
theorem kIn_rg {v lo hi : Int} : 0 ≤ kIn v lo hi ∧ kIn v lo hi ≤ 2 := by
  unfold kIn
  repeat' split
  all_goals omega
theorem kPut_rg {x y g : Int} : 0 ≤ kPut S x y g ∧ kPut S x y g ≤ 2 := by
  unfold kPut
  repeat' split
  all_goals omega
theorem kBox_rg {x0 x1 y0 y1 g : Int} : 0 ≤ kBox S x0 x1 y0 y1 g ∧ kBox S x0 x1 y0 y1 g ≤ 2 := by
  unfold kBox
  repeat' split
  all_goals omega
theorem kPart_rg {v b : Int} : 0 ≤ kPart S v b ∧ kPart S v b ≤ 2 := by
  unfold kPart
  repeat' split
  all_goals omega
theorem kHatch_0 {i v : Int} (h : kHatch i v = 0) : (0 ≤ i ∧ i ≤ 5) ∧ 0 ≤ v ∧ v ≤ 9 := by
  unfold kHatch at h
  repeat' split at h
  all_goals omega
theorem kPlate_0 {w h : Int} (e : kPlate w h = 0) : (1 ≤ w ∧ w ≤ 12) ∧ 1 ≤ h ∧ h ≤ 12 := by
  unfold kPlate at e
  repeat' split at e
  all_goals omega
theorem kPut_0 {x y g : Int} (h : kPut S x y g = 0) : (0 ≤ x ∧ x < sC S) ∧ (0 ≤ y ∧ y < sR S) ∧ 0 ≤ g ∧ g ≤ 99 := by
  unfold kPut at h
  repeat' split at h
  all_goals omega
theorem kBox_0 {x0 x1 y0 y1 g : Int} (h : kBox S x0 x1 y0 y1 g = 0) : (0 ≤ x0 ∧ x0 ≤ x1 ∧ x1 < sC S) ∧ (0 ≤ y0 ∧ y0 ≤ y1 ∧ y1 < sR S) ∧ 0 ≤ g ∧ g ≤ 99 := by
  unfold kBox at h
  repeat' split at h
  all_goals omega
theorem bz_y {p : Prop} [Decidable p] (h : ¬ bz p = 0) : p := Classical.byContradiction fun z => h (bz_0.mpr z)
theorem kBox_is1 {x0 x1 y0 y1 g : Int} (h : ¬ (0 ≤ x0 ∧ x0 < sC S) ∨ ¬ (0 ≤ x1 ∧ x1 < sC S) ∨ ¬ (0 ≤ y0 ∧ y0 < sR S) ∨ ¬ (0 ≤ y1 ∧ y1 < sR S)) : kBox S x0 x1 y0 y1 g = 1 := if_pos h
theorem kBox_is2 {x0 x1 y0 y1 g : Int} (h1 : 0 ≤ x0 ∧ x0 < sC S) (h2 : 0 ≤ x1 ∧ x1 < sC S) (h3 : 0 ≤ y0 ∧ y0 < sR S) (h4 : 0 ≤ y1 ∧ y1 < sR S) : kBox S x0 x1 y0 y1 g = if (0 ≤ g ∧ g ≤ 99) ∧ inP (sC S) (sR S) x0 y0 ∧ inP (sC S) (sR S) x1 y1 ∧ x0 ≤ x1 ∧ y0 ≤ y1 then 0 else 2 := if_neg (fun z => z.elim (fun y => y h1) fun z => z.elim (fun y => y h2) fun z => z.elim (fun y => y h3) fun y => y h4)
theorem kPart_0 {v b : Int} (h : kPart S v b = 0) : (1 ≤ v ∧ v ≤ 99) ∧ canT (sT S) (sN S) v b = true := by
  unfold kPart at h
  repeat' split at h
  · omega
  · rename_i z1 z2; exact ⟨Classical.byContradiction z1, z2⟩
  · omega
/-- slot k of the diary holds P -/
def atD (di : Int → Int) (k : Int) (P : St) : Prop := ∀ j : Int, 0 ≤ j → j < 160 → di (160 * k + j) = rowS P j
end MP5
