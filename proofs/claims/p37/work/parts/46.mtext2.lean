/-! MODEL's text: a cell, a box, commands, the whole. -/
section TM2
variable {l : Launch} {rf sz : Int} {S : St} {ac : Int} {B I : Int → Int} {m : Int} {Fi Co Br Wt mk gy : Int → Int} {sd rt lf wy sp ou : Int} {tx : Int → Int}
section
variable {t : Int → Int} {n k p : Int}
theorem dBad_le {i : Nat} (h : dBad t n k p (i + 1) = -1) : dBad t n k p i = -1 := by
  rw [dBad_s] at h
  by_cases z : dBad t n k p i = -1
  · exact z
  · rw [if_neg z] at h; exact h
theorem dBad_mono {i j : Nat} (hij : i ≤ j) (h : dBad t n k p j = -1) : dBad t n k p i = -1 := by
  induction j with
  | zero => rw [show i = 0 by omega]; exact h
  | succ j ih =>
    by_cases e : i = j + 1
    · rw [e]; exact h
    · exact ih (by omega) (dBad_le h)
theorem dBad_rg (m : Nat) : -1 ≤ dBad t n k p m ∧ dBad t n k p m < 2 * m := by
  have := fstK_rg (fun j => tr (¬ dOk t n k p j)) (2 * m)
  unfold dBad; omega
theorem fq_good (hn : n ≤ 120) (hp : 0 ≤ p) {m : Nat} (h : dBad t n k p m = -1) (i : Nat) (hi : i < m) (q : Int) (hq : q = p + 1 + 2 * i) : fq t n k p (i + 1) = (nmA t n q, q + 2) ∧ loO k ≤ nmA t n q ∧ nmA t n q ≤ hiO k i := by
  have h1 := (fq_spec (t := t) (k := k) hn hp (i + 1)).1 (dBad_mono (by omega) h)
  subst hq
  exact ⟨Prod.ext (h1.2.2.2 i (by omega)) (by rw [h1.1]; omega), h1.2.2.1 i (by omega)⟩
theorem fq_rg (i : Nat) : -1 ≤ (fq t n k p i).1 ∧ (fq t n k p i).1 ≤ 99 ∧ p + 1 ≤ (fq t n k p i).2 ∧ (fq t n k p i).2 ≤ p + 1 + 2 * i := by
  induction i with
  | zero => show -1 ≤ (0 : Int) ∧ (0 : Int) ≤ 99 ∧ p + 1 ≤ p + 1 ∧ p + 1 ≤ p + 1 + 2 * ((0 : Nat) : Int); omega
  | succ i ih =>
    simp only [fq]
    split
    · omega
    · have hl := loO_rg k
      have hh := hiO_rg k i
      have hv : -1 ≤ fV t n (fq t n k p i).2 (loO k) (hiO k i) ∧ fV t n (fq t n k p i).2 (loO k) (hiO k i) ≤ 99 := by
        unfold fV
        split
        · rename_i z; have := z.2.2.2; omega
        · omega
      have hP : (fq t n k p i).2 ≤ fP t n (fq t n k p i).2 (loO k) (hiO k i) ∧ fP t n (fq t n k p i).2 (loO k) (hiO k i) ≤ (fq t n k p i).2 + 2 := by
        unfold fP; repeat' split
        all_goals omega
      dsimp only; omega
theorem fq_bad (hn : n ≤ 120) (hp : 0 ≤ p) {m : Nat} (h : dBad t n k p m ≠ -1) : fq t n k p m = (-1, p + 1 + dBad t n k p m) := by
  have h1 := (fq_spec (t := t) (k := k) hn hp m).2 h
  exact Prod.ext h1.1 h1.2
/-- what a word does, and whether it would throw nothing -/
def exW (t : Int → Int) (n p : Int) (S : St) : St :=
  if sg t n p = 112 then stP S (nmA t n (p + 1)) (nmA t n (p + 3)) (nmA t n (p + 5))
  else if sg t n p = 98 then stB S (nmA t n (p + 1)) (nmA t n (p + 3)) (nmA t n (p + 5)) (nmA t n (p + 7)) (nmA t n (p + 9))
  else if sg t n p = 116 then stT S (nmA t n (p + 1)) 1
  else if sg t n p = 107 then stT S (nmA t n (p + 1)) 0
  else if sg t n p = 109 then stL S (nmA t n (p + 1))
  else if sg t n p = 115 then stQ S (nmA t n (p + 1))
  else if sg t n p = 117 then gU S else gI S
def okZ (t : Int → Int) (n p : Int) (S : St) : Int :=
  if sg t n p = 112 then bz (kP S (nmA t n (p + 1)) (nmA t n (p + 3)) (nmA t n (p + 5)))
  else if sg t n p = 98 then bz (kB S (nmA t n (p + 1)) (nmA t n (p + 3)) (nmA t n (p + 5)) (nmA t n (p + 7)) (nmA t n (p + 9)))
  else if sg t n p = 116 then bz (kT S (nmA t n (p + 1)) 1)
  else if sg t n p = 107 then bz (kT S (nmA t n (p + 1)) 0)
  else if sg t n p = 109 then bz (1 ≤ nmA t n (p + 1) ∧ nmA t n (p + 1) ≤ 30)
  else if sg t n p = 115 then bz (1 ≤ nmA t n (p + 1) ∧ nmA t n (p + 1) ≤ 49)
  else 1
theorem SV_exW (h : SV S) : SV (exW t n p S) := by
  unfold exW
  repeat' split
  all_goals first | exact SV_stP h | exact SV_stB h | exact SV_stT h | exact SV_stL h | exact SV_stQ h | exact SV_gU h | exact SV_gI h
theorem bz_01 (q : Prop) [Decidable q] : bz q = 0 ∨ bz q = 1 := by unfold bz; split <;> simp
theorem okZ_01 : okZ t n p S = 0 ∨ okZ t n p S = 1 := by
  unfold okZ
  repeat' split
  all_goals first | exact bz_01 _ | exact Or.inr rfl
end
end TM2
