/-! MODEL: a command of runScript. -/
section MQ4
variable {l : Launch} {rf sz : Int} {S : St} {ac : Int} {B I : Int → Int} {m : Int} {Fi Co Br Wt mk gy : Int → Int} {S2 : St} {tx di ke ik ea : Int → Int} {sd rt lf wy sp ou : Int}
/-- 1 if the command is obeyed or holds, 0 if not -/
noncomputable def cmZ (S : St) (k a : Int) : Int :=
  if k = 1 then bz (a % 10 = 0 ∧ kP S (a / 100000) (a / 1000 % 100) (a / 10 % 100))
  else if k = 2 then bz (kB S (a / 100000) (a / 100000 + a % 10) (a / 1000 % 100) (a / 1000 % 100 + a % 10) (a / 10 % 100))
  else if k = 3 then bz (a % 10000 = 0 ∧ a / 10000 % 10 < 2 ∧ kT S (a / 100000) (if a / 10000 % 10 = 1 then 1 else 0))
  else if k = 4 then bz (a % 100000 = 0 ∧ 1 ≤ a / 100000 ∧ a / 100000 ≤ 30)
  else if k = 5 ∨ k = 6 then bz (a = 0)
  else if k = 7 then bz (a / 1000 % 10 = 0 ∧ a / 10000 < mS S ∧ a % 1000 ≤ siz (sC S) (sR S) (bS S) (fS S (a / 10000)))
  else if k = 8 then bz (a < 1000 ∧ mS S ≤ a % 1000)
  else if k = 9 then bz (a / 10 % 100 = 0 ∧ (a / 100000 < sC S) ∧ (a / 1000 % 100 < sR S) ∧ bS S (a / 1000 % 100 * sC S + a / 100000) = a % 10)
  else 0
/-- the state after it -/
def cmS (S : St) (k a : Int) : St :=
  if k = 1 then (if a % 10 = 0 then stP S (a / 100000) (a / 1000 % 100) (a / 10 % 100) else S)
  else if k = 2 then stB S (a / 100000) (a / 100000 + a % 10) (a / 1000 % 100) (a / 1000 % 100 + a % 10) (a / 10 % 100)
  else if k = 3 then (if a % 10000 = 0 ∧ a / 10000 % 10 < 2 then stT S (a / 100000) (if a / 10000 % 10 = 1 then 1 else 0) else S)
  else if k = 4 then (if a % 100000 = 0 then stL S (a / 100000) else S)
  else if k = 5 then (if a = 0 then gU S else S)
  else if k = 6 then (if a = 0 then gI S else S)
  else S
theorem SV_cmS {k a : Int} (h : SV S) : SV (cmS S k a) := by
  unfold cmS
  repeat' split
  all_goals first | exact h | exact SV_stP h | exact SV_stB h | exact SV_stT h | exact SV_stL h | exact SV_gU h | exact SV_gI h
/-- what is told after a command -/
def CM (rf sz : Int) (S : St) (ac : Int) (S2 : St) (tx di ke ik ea : Int → Int) (M : List va_E) : Prop := ∃ (B I : Int → Int) (m : Int) (Fi Co Br Wt mk gy : Int → Int) (sd rt lf wy sp ou : Int), M = (mdW rf sz S ac B I m Fi Co Br Wt mk gy S2 tx di ke ik ea sd rt lf wy sp ou) ∧ (∀ i, 0 ≤ B i ∧ B i ≤ 5) ∧ (∀ i, rg (I i))
theorem CM_mk (hB : ∀ i, 0 ≤ B i ∧ B i ≤ 5) (hI : ∀ i, rg (I i)) : CM rf sz S ac S2 tx di ke ik ea (mdW rf sz S ac B I m Fi Co Br Wt mk gy S2 tx di ke ik ea sd rt lf wy sp ou) := ⟨B, I, m, Fi, Co, Br, Wt, mk, gy, sd, rt, lf, wy, sp, ou, rfl, hB, hI⟩
theorem CM_to {k a : Int} (hB : ∀ i, 0 ≤ B i ∧ B i ≤ 5) (hI : ∀ i, rg (I i)) {M : List va_E} {S3 : St} (e : M = (mdW rf sz S ac B I m Fi Co Br Wt mk gy (S3) tx di ke ik ea sd rt lf wy sp ou)) (e2 : S3 = cmS S2 k a) : CM rf sz S ac (cmS S2 k a) tx di ke ik ea M := by
  subst e; rw [e2]; exact CM_mk hB hI
theorem sumI {G : Int → Int} (hG : ∀ i, 0 ≤ G i ∧ G i ≤ 99) (n : Int) : ∀ N : Nat, 0 ≤ sumK (mapK (fun j => 99 - G j) n G) N ∧ sumK (mapK (fun j => 99 - G j) n G) N ≤ 99 * N
  | 0 => ⟨Int.le_refl _, by show (0 : Int) ≤ 99 * ((0 : Nat) : Int); omega⟩
  | N + 1 => by
    have ih := sumI hG n N
    have e : sumK (mapK (fun j => 99 - G j) n G) (N + 1) = sumK (mapK (fun j => 99 - G j) n G) N + mapK (fun j => 99 - G j) n G N := rfl
    have := mapK_rg (f := fun j => 99 - G j) (k := n) (G := G) (fun i _ _ => by have := hG i; show 0 ≤ 99 - G i ∧ 99 - G i ≤ 99; omega) hG N
    omega
end MQ4
