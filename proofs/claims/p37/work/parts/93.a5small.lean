/-! STATES of the law: plates of at most 8 by 8, hatchings and lines of one digit, thresholds above 0. -/
section SB1
def SB (S : St) : Prop := (sC S ≤ 8 ∧ sR S ≤ 8) ∧ (∀ b : Int, 0 ≤ b → b ≤ 5 → 0 ≤ sH S b ∧ sH S b ≤ 9) ∧ (0 ≤ sI S ∧ sI S ≤ 9) ∧ (∀ j : Int, 0 ≤ j → j < sN S → 1 ≤ sT S j)
variable {S : St}
theorem ins_1 {T : Int → Int} {n : Nat} {v : Int} (h : ∀ j : Int, 0 ≤ j → j < n → 1 ≤ T j) (hv : 1 ≤ v) : ∀ j : Int, 0 ≤ j → j < ((n + 1 : Nat) : Int) → 1 ≤ insT T n v j := by
  intro j h1 h2
  have hc := cntK_rg (fun k => decide (T k ≤ v)) n
  unfold insT
  repeat' split
  · exact h _ h1 (by omega)
  · exact hv
  · exact h _ (by omega) (by omega)
  · exact h _ h1 (by omega)
theorem rem_1 {T : Int → Int} {n : Nat} {p : Int} (h : ∀ j : Int, 0 ≤ j → j < n → 1 ≤ T j) : ∀ j : Int, 0 ≤ j → j < ((n - 1 : Nat) : Int) → 1 ≤ remT T n p j := by
  intro j h1 h2
  unfold remT
  split
  · exact h _ (by omega) (by omega)
  · exact h _ h1 (by omega)
theorem SB_gT (h : SB S) {v b : Int} (hv : 1 ≤ v) : SB (gT S v b) := by
  obtain ⟨h1, h2, h3, h4⟩ := h
  refine ⟨h1, h2, h3, ?_⟩
  show ∀ j : Int, 0 ≤ j → j < (chN (sN S) b : Int) → 1 ≤ chT (sT S) (sN S) v b j
  unfold chN chT
  by_cases z : b = 0
  · rw [if_pos z, if_pos z]; exact rem_1 h4
  · rw [if_neg z, if_neg z]; exact ins_1 h4 hv
theorem sh_1 (G : Int → Int) (C : Nat) (m : Int) (T : Int → Int) : ∀ k : Nat, ∀ j : Int, 0 ≤ j → j < (shK G C m T k).2 → 1 ≤ (shK G C m T k).1 j
  | 0, j, h1, h2 => by simp [shK] at h2; omega
  | k + 1, j, h1, h2 => by
    have ih := sh_1 G C m T k
    simp only [shK] at h2 ⊢
    have hl := lsUp_rg G C ((C : Int) * (k + 1 : Nat) / (m + 1)) 98 1
    split at h2
    · rename_i hh
      rw [if_pos hh]; exact ih j h1 h2
    · rename_i hh
      rw [if_neg hh]
      exact ins_1 ih (by omega) j h1 h2
theorem SB_gH (h : SB S) {m : Int} : SB (gH S m) := ⟨h.1, h.2.1, h.2.2.1, sh_1 _ _ _ _ _⟩
theorem SB_setG (h : SB S) {G : Int → Int} : SB (setG S G) := h
theorem SB_setE (h : SB S) {v : Int} : SB (setE S v) := h
theorem SB_setH (h : SB S) {b v : Int} (hv : 0 ≤ v ∧ v ≤ 9) : SB (setH S b v) := by
  refine ⟨h.1, fun k k1 k2 => ?_, h.2.2⟩
  show 0 ≤ up (sH S) b v k ∧ up (sH S) b v k ≤ 9
  unfold up
  split
  · exact hv
  · exact h.2.1 k k1 k2
theorem SB_setI (h : SB S) {v : Int} (hv : 0 ≤ v ∧ v ≤ 9) : SB (setI S v) := ⟨h.1, h.2.1, hv, h.2.2.2⟩
theorem SB_stN (h : SB S) {c r : Int} (hc : c ≤ 8) (hr : r ≤ 8) : SB (stN S c r) := ⟨⟨hc, hr⟩, h.2⟩
theorem SB_00 : SB S00 := by
  refine ⟨⟨Int.le_refl _, Int.le_refl _⟩, fun b h1 h2 => ?_, ⟨by show (0 : Int) ≤ 1; omega, by show (1 : Int) ≤ 9; omega⟩, fun j h1 h2 => ?_⟩
  · show 0 ≤ b ∧ b ≤ 9; omega
  · have e : j = 0 := by have : (j : Int) < ((1 : Nat) : Int) := h2; omega
    show 1 ≤ up zz 0 50 j
    rw [e, up_at]; omega
end SB1
