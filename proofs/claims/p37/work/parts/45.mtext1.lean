/-! MODEL's text: numbers read digit by digit. -/
section TM1
variable {l : Launch} {rf sz : Int} {S : St} {ac : Int} {B I : Int → Int} {m : Int} {Fi Co Br Wt mk gy : Int → Int} {sd rt lf wy sp ou : Int} {tx : Int → Int}
/-- the Model with its text at 10 -/
abbrev mtM (rf sz : Int) (S : St) (ac : Int) (B I : Int → Int) (m : Int) (Fi Co Br Wt mk gy : Int → Int) (sd rt lf wy sp ou : Int) (tx : Int → Int) : List va_E :=
  [ob 7 [iv rf, .ref 10, iv sz, .ref 11, .ref 12, .ref 13, iv ac, .ref 14, .ref 15, .ref 2, .ref 3, iv m, .ref 4, .ref 5, .ref 6, .ref 7, .ref 8, .ref 9, .ref 16, iv sd, iv rt, iv lf, iv wy, iv sp, iv ou], ia 160 (rowS S), ia 144 B, ia 144 I, ia 144 Fi, ia 144 Co, ia 144 Br, ia 144 Wt, ia 144 mk, ia 144 gy, ia 120 tx]
/-- a digit, a second one; the number; where the reader is then -/
abbrev f1 (t : Int → Int) (n p lo hi : Int) : Prop := p < n ∧ (0 ≤ t p - 48 ∧ t p - 48 ≤ 9) ∧ (t p - 48) * 10 ≤ hi ∧ lo ≤ (t p - 48) * 10 + 9
abbrev f2 (t : Int → Int) (n p lo hi : Int) : Prop := p + 1 < n ∧ (0 ≤ t (p + 1) - 48 ∧ t (p + 1) - 48 ≤ 9) ∧ (t p - 48) * 10 + (t (p + 1) - 48) ≤ hi ∧ lo ≤ (t p - 48) * 10 + (t (p + 1) - 48)
def fV (t : Int → Int) (n p lo hi : Int) : Int := if f1 t n p lo hi ∧ f2 t n p lo hi then (t p - 48) * 10 + (t (p + 1) - 48) else -1
def fP (t : Int → Int) (n p lo hi : Int) : Int := if f1 t n p lo hi then (if f2 t n p lo hi then p + 2 else p + 1) else p
/-- numbers behind a sign k at p: the last one, and where the reader is -/
def fq (t : Int → Int) (n k p : Int) : Nat → Int × Int
  | 0 => (0, p + 1)
  | i + 1 => if (fq t n k p i).1 = -1 then fq t n k p i else (fV t n (fq t n k p i).2 (loO k) (hiO k i), fP t n (fq t n k p i).2 (loO k) (hiO k i))
section
variable {t : Int → Int} {n k p : Int}
theorem dBad_s (i : Nat) : dBad t n k p (i + 1) = if dBad t n k p i = -1 then (if tr (¬ dOk t n k p (2 * i : Nat)) = true then ((2 * i : Nat) : Int) else if tr (¬ dOk t n k p (2 * i + 1 : Nat)) = true then ((2 * i + 1 : Nat) : Int) else -1) else dBad t n k p i := by
  unfold dBad
  rw [show 2 * (i + 1) = (2 * i + 1) + 1 by omega]
  simp only [fstK]
  by_cases h : fstK (fun j => tr (¬ dOk t n k p j)) (2 * i) = -1
  · rw [if_pos h, if_pos h]
    by_cases h2 : tr (¬ dOk t n k p (2 * i : Nat)) = true
    · rw [if_pos h2, if_neg (by omega)]; rw [if_pos h2]
    · rw [if_neg h2, if_pos rfl]; rw [if_neg h2]
  · rw [if_neg h, if_neg h]; rw [if_neg h]
theorem fq_spec (hn : n ≤ 120) (hp : 0 ≤ p) : ∀ i : Nat, (dBad t n k p i = -1 → (fq t n k p i).2 = p + 1 + 2 * i ∧ 0 ≤ (fq t n k p i).1 ∧ (∀ j : Nat, j < i → loO k ≤ nmA t n (p + 1 + 2 * j) ∧ nmA t n (p + 1 + 2 * j) ≤ hiO k j) ∧ ∀ j : Nat, j < i → (fq t n k p (j + 1)).1 = nmA t n (p + 1 + 2 * j)) ∧ (dBad t n k p i ≠ -1 → (fq t n k p i).1 = -1 ∧ (fq t n k p i).2 = p + 1 + dBad t n k p i)
  | 0 => ⟨fun _ => ⟨by show p + 1 = p + 1 + 2 * ((0 : Nat) : Int); omega, Int.le_refl _, fun j hj => by omega, fun j hj => by omega⟩, fun h => absurd rfl h⟩
  | i + 1 => by
    obtain ⟨h1, h2⟩ := fq_spec hn hp i
    have hs := dBad_s (t := t) (n := n) (k := k) (p := p) i
    have hl := loO_rg k
    have hh := hiO_rg k i
    by_cases hb : dBad t n k p i = -1
    · obtain ⟨a1, a2, a3, a4⟩ := h1 hb
      rw [if_pos hb] at hs
      have e0 : fq t n k p (i + 1) = (fV t n (p + 1 + 2 * i) (loO k) (hiO k i), fP t n (p + 1 + 2 * i) (loO k) (hiO k i)) := by
        simp only [fq]; rw [if_neg (by omega), a1]
      have o1 : dOk t n k p (2 * i : Nat) ↔ f1 t n (p + 1 + 2 * i) (loO k) (hiO k i) := by
        unfold dOk f1
        have z1 : ((2 * i : Nat) : Int) % 2 = 0 := by omega
        have z2 : ((2 * i : Nat) : Int) / 2 = i := by omega
        have z3 : p + 1 + ((2 * i : Nat) : Int) = p + 1 + 2 * i := by omega
        rw [if_pos z1, z2, z3]
        omega
      have o2 : f1 t n (p + 1 + 2 * i) (loO k) (hiO k i) → (dOk t n k p (2 * i + 1 : Nat) ↔ f2 t n (p + 1 + 2 * i) (loO k) (hiO k i)) := fun hf => by
        unfold dOk f2
        have z1 : ¬ ((2 * i + 1 : Nat) : Int) % 2 = 0 := by omega
        have z2 : ((2 * i + 1 : Nat) : Int) / 2 = i := by omega
        have z3 : p + 1 + ((2 * i + 1 : Nat) : Int) = p + 1 + 2 * i + 1 := by omega
        have z4 : p + ((2 * i + 1 : Nat) : Int) = p + 1 + 2 * i := by omega
        rw [if_neg z1, z2, z3, z4]
        constructor
        · rintro ⟨q1, q2, q3, q4⟩
          unfold nmA at q3 q4
          have s1 : sg t n (p + 1 + 2 * i) = t (p + 1 + 2 * i) := if_pos (by omega)
          have s2 : sg t n (p + 1 + 2 * i + 1) = t (p + 1 + 2 * i + 1) := if_pos (by omega)
          rw [s1, s2] at q3 q4
          exact ⟨q1, q2, by omega, by omega⟩
        · rintro ⟨q1, q2, q3, q4⟩
          unfold nmA
          have s1 : sg t n (p + 1 + 2 * i) = t (p + 1 + 2 * i) := if_pos (by omega)
          have s2 : sg t n (p + 1 + 2 * i + 1) = t (p + 1 + 2 * i + 1) := if_pos (by omega)
          rw [s1, s2]
          exact ⟨q1, q2, by omega, by omega⟩
      by_cases c1 : f1 t n (p + 1 + 2 * i) (loO k) (hiO k i)
      · rw [tr_f.mpr (fun z => z (o1.mpr c1)), if_neg (by decide)] at hs
        by_cases c2 : f2 t n (p + 1 + 2 * i) (loO k) (hiO k i)
        · rw [tr_f.mpr (fun z => z ((o2 c1).mpr c2)), if_neg (by decide)] at hs
          have eV : fV t n (p + 1 + 2 * i) (loO k) (hiO k i) = nmA t n (p + 1 + 2 * i) := by
            unfold fV nmA
            have s1 : sg t n (p + 1 + 2 * i) = t (p + 1 + 2 * i) := if_pos (by have := c1.1; omega)
            have s2 : sg t n (p + 1 + 2 * i + 1) = t (p + 1 + 2 * i + 1) := if_pos (by have := c2.1; omega)
            rw [if_pos ⟨c1, c2⟩, s1, s2]; omega
          have eV2 : fV t n (p + 1 + 2 * i) (loO k) (hiO k i) = (t (p + 1 + 2 * i) - 48) * 10 + (t (p + 1 + 2 * i + 1) - 48) := if_pos ⟨c1, c2⟩
          have hr : loO k ≤ nmA t n (p + 1 + 2 * i) ∧ nmA t n (p + 1 + 2 * i) ≤ hiO k i := by rw [← eV, eV2]; exact ⟨c2.2.2.2, c2.2.2.1⟩
          refine ⟨fun _ => ⟨?_, ?_, fun j hj => ?_, fun j hj => ?_⟩, fun z => absurd hs z⟩
          · rw [e0]; show fP _ _ _ _ _ = _; unfold fP; rw [if_pos c1, if_pos c2]; omega
          · rw [e0]; show 0 ≤ fV _ _ _ _ _; rw [eV]; omega
          · rcases (show j < i ∨ j = i by omega) with z | z
            · exact a3 j z
            · rw [z]; exact hr
          · rcases (show j < i ∨ j = i by omega) with z | z
            · exact a4 j z
            · rw [z, e0]; exact eV
        · rw [tr_t.mpr (fun z => c2 ((o2 c1).mp z)), if_pos rfl] at hs
          refine ⟨fun z => by omega, fun _ => ⟨?_, ?_⟩⟩
          · rw [e0]; exact if_neg (fun z => c2 z.2)
          · rw [e0, hs]; show fP _ _ _ _ _ = _; unfold fP; rw [if_pos c1, if_neg c2]; omega
      · rw [tr_t.mpr (fun z => c1 (o1.mp z)), if_pos rfl] at hs
        refine ⟨fun z => by omega, fun _ => ⟨?_, ?_⟩⟩
        · rw [e0]; exact if_neg (fun z => c1 z.1)
        · rw [e0, hs]; show fP _ _ _ _ _ = _; unfold fP; rw [if_neg c1]; omega
    · obtain ⟨a1, a2⟩ := h2 hb
      rw [if_neg hb] at hs
      have e0 : fq t n k p (i + 1) = fq t n k p i := by simp only [fq]; rw [if_pos a1]
      rw [e0, hs]
      exact ⟨fun z => absurd z hb, fun _ => ⟨a1, a2⟩⟩
end
end TM1
