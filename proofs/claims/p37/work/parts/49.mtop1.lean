/-! MODEL's face: text, what there is. -/
section MP1
variable {l : Launch} {rf sz : Int} {S : St} {ac : Int} {B I : Int → Int} {m : Int} {Fi Co Br Wt mk gy : Int → Int} {S2 : St} {tx di ke ik ea : Int → Int} {sd rt lf wy sp ou : Int}
/-- the whole Model: now at 1, trial at 10, text, diary, kept, isKept, earlier behind it -/
abbrev mdW (rf sz : Int) (S : St) (ac : Int) (B I : Int → Int) (m : Int) (Fi Co Br Wt mk gy : Int → Int) (S2 : St) (tx di ke ik ea : Int → Int) (sd rt lf wy sp ou : Int) : List va_E :=
  [ob 7 [iv rf, .ref 11, iv sz, .ref 1, .ref 10, .ref 12, iv ac, .ref 13, .ref 14, .ref 2, .ref 3, iv m, .ref 4, .ref 5, .ref 6, .ref 7, .ref 8, .ref 9, .ref 15, iv sd, iv rt, iv lf, iv wy, iv sp, iv ou], ia 160 (rowS S), ia 144 B, ia 144 I, ia 144 Fi, ia 144 Co, ia 144 Br, ia 144 Wt, ia 144 mk, ia 144 gy, ia 160 (rowS S2), ia 120 tx, ia 2240 di, ia 320 ke, za 2 ik, ia 144 ea]
/-- what is told of the Model: all but its working rows -/
def WM (rf sz : Int) (S : St) (ac : Int) (tx di ke ik : Int → Int) (M : List va_E) : Prop := ∃ (B I : Int → Int) (m : Int) (Fi Co Br Wt mk gy : Int → Int) (S2 : St) (ea : Int → Int) (sd rt lf wy sp ou : Int), M = (mdW rf sz S ac B I m Fi Co Br Wt mk gy S2 tx di ke ik ea sd rt lf wy sp ou) ∧ (∀ i, 0 ≤ B i ∧ B i ≤ 5) ∧ (∀ i, rg (I i))
theorem WM_mk (hB : ∀ i, 0 ≤ B i ∧ B i ≤ 5) (hI : ∀ i, rg (I i)) : WM rf sz S ac tx di ke ik (mdW rf sz S ac B I m Fi Co Br Wt mk gy S2 tx di ke ik ea sd rt lf wy sp ou) := ⟨B, I, m, Fi, Co, Br, Wt, mk, gy, S2, ea, sd, rt, lf, wy, sp, ou, rfl, hB, hI⟩
theorem WM_len {M : List va_E} (h : WM rf sz S ac tx di ke ik M) : M.length = 16 := by obtain ⟨B, I, m, Fi, Co, Br, Wt, mk, gy, S2, ea, sd, rt, lf, wy, sp, ou, rfl, -, -⟩ := h; rfl
/-- the Model alone -/
abbrev obM (rf sz ac m sd rt lf wy sp ou : Int) : List va_E := [ob 7 [iv rf, .ref 1, iv sz, .ref 2, .ref 3, .ref 4, iv ac, .ref 5, .ref 6, .ref 7, .ref 8, iv m, .ref 9, .ref 10, .ref 11, .ref 12, .ref 13, .ref 14, .ref 15, iv sd, iv rt, iv lf, iv wy, iv sp, iv ou]]
/-- which exception: append -/
def kAppend (sz x : Int) : Int := if ¬ (0 ≤ x ∧ x ≤ 255) then 1 else if sz = 120 then 2 else 0
end MP1
