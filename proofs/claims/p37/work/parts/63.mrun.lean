/-! MODEL's face: runScript. -/
section MQ6
variable {l : Launch} {rf sz : Int} {S : St} {ac : Int} {B I : Int → Int} {m : Int} {Fi Co Br Wt mk gy : Int → Int} {S2 : St} {tx di ke ik ea : Int → Int} {sd rt lf wy sp ou : Int}
def kRun (n x : Int) : Int := if (1 ≤ n ∧ n ≤ 2) ∧ 0 ≤ x ∧ x ≤ (if n ≤ 0 then 1 else if n = 1 then 100000000 else 10000000000000000) - 1 then 0 else 1
theorem if01 {p : Prop} [Decidable p] : (if p then (0 : Int) else 1) = 0 ∨ (if p then (0 : Int) else 1) = 1 := by split <;> simp
theorem kRun_01 {n x : Int} : kRun n x = 0 ∨ kRun n x = 1 := if01
/-- the group of the command k -/
def grp (n x : Int) (k : Nat) : Int := if n = 1 then x else if k = 0 then x / 100000000 else x % 100000000
noncomputable def aRun (S : St) (n x : Int) : Int :=
  if cmZ S (grp n x 0 / 10000000) (grp n x 0 % 10000000) = 0 then 0 else if n = 1 then -1 else if cmZ (cmS S (grp n x 0 / 10000000) (grp n x 0 % 10000000)) (grp n x 1 / 10000000) (grp n x 1 % 10000000) = 0 then 1 else -1
theorem cmZ_01 {k a : Int} : cmZ S k a = 0 ∨ cmZ S k a = 1 := by
  unfold cmZ
  repeat' split
  all_goals first | exact bz_01 _ | exact Or.inl rfl
theorem CM_len {M : List va_E} (h : CM rf sz S ac S2 tx di ke ik ea M) : M.length = 16 := by obtain ⟨B, I, m, Fi, Co, Br, Wt, mk, gy, sd, rt, lf, wy, sp, ou, rfl, -, -⟩ := h; rfl
end MQ6
