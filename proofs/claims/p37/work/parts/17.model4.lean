/-! MODEL's state: distances, new plates, copies of rows. -/
section MD4
variable {l : Launch} {c r le li : Int} {G T Hh : Int → Int}
/-- the distance to threshold j -/
def dsj (T : Int → Int) (g j : Int) : Int := if T j ≤ g then g - T j + 1 else T j - g
theorem dstK_min {g : Int} : ∀ k : Nat, 0 < k → (∀ j : Nat, 0 ≤ dsj T g j) → (∀ j : Nat, j < k → dstK T g k ≤ dsj T g j) ∧ (∃ j : Nat, j < k ∧ dstK T g k = dsj T g j)
  | 0, h, _ => by omega
  | k + 1, _, h0 => by
    have hs : dstK T g (k + 1) = if dstK T g k = -1 ∨ dsj T g k < dstK T g k then dsj T g k else dstK T g k := rfl
    rcases Nat.eq_zero_or_pos k with z | z
    · subst z
      have hz : dstK T g (0 + 1) = dsj T g (0 : Nat) := by rw [hs]; exact if_pos (Or.inl rfl)
      rw [hz]
      exact ⟨fun j hj => by rw [show j = 0 by omega]; exact Int.le_refl _, 0, by omega, rfl⟩
    · obtain ⟨h1, j0, h2, h3⟩ := dstK_min k z h0
      have := h0 j0
      rw [hs]
      split
      · rename_i hc
        refine ⟨fun j hj => ?_, k, by omega, rfl⟩
        rcases (show j = k ∨ j < k by omega) with e | e
        · subst e; exact Int.le_refl _
        · have := h1 j e; omega
      · rename_i hc
        refine ⟨fun j hj => ?_, j0, by omega, h3⟩
        rcases (show j = k ∨ j < k by omega) with e | e
        · subst e; omega
        · exact h1 j e
theorem dstK_two {n : Nat} {g : Int} (hT : ∀ i, 0 ≤ T i ∧ T i ≤ 99) (hs : srt T n) (hg : 0 ≤ g ∧ g ≤ 99) (hn : 0 < n) :
    dstK T g n = (if (if bandN T n g < n then T (bandN T n g) - g else 100) < (if 0 < bandN T n g then g - T (bandN T n g - 1) + 1 else 100) then (if bandN T n g < n then T (bandN T n g) - g else 100) else (if 0 < bandN T n g then g - T (bandN T n g - 1) + 1 else 100)) := by
  have h0 : ∀ j : Nat, 0 ≤ dsj T g j ∧ dsj T g j ≤ 100 := fun j => by have := hT j; unfold dsj; split <;> omega
  obtain ⟨h1, j0, h2, h3⟩ := dstK_min (T := T) (g := g) n hn (fun j => (h0 j).1)
  have hr := cntK_rg (fun k => decide (T k ≤ g)) n
  have hb : bandN T n g = cntK (fun k => decide (T k ≤ g)) n := rfl
  rw [← hb] at hr
  have hc := srt_cut (v := g) hs
  rw [← hb] at hc
  have hlo : ∀ j : Nat, (j : Int) < bandN T n g → dsj T g j = g - T j + 1 := fun j h => by unfold dsj; rw [if_pos ((hc j (by omega)).mpr h)]
  have hhi : ∀ j : Nat, bandN T n g ≤ j → j < n → dsj T g j = T j - g := fun j h h' => by unfold dsj; rw [if_neg (fun z => by have := (hc j h').mp z; omega)]
  have up0 : bandN T n g < n → dstK T g n ≤ T (bandN T n g) - g ∧ T (bandN T n g) - g ≤ 99 := fun h => by
    have a := h1 (bandN T n g).toNat (by omega)
    rw [hhi _ (by omega) (by omega), Int.toNat_of_nonneg hr.1] at a
    have := hT (bandN T n g); exact ⟨a, by omega⟩
  have dn0 : 0 < bandN T n g → dstK T g n ≤ g - T (bandN T n g - 1) + 1 ∧ g - T (bandN T n g - 1) + 1 ≤ 100 := fun h => by
    have a := h1 (bandN T n g - 1).toNat (by omega)
    rw [hlo _ (by omega), Int.toNat_of_nonneg (by omega)] at a
    have := hT (bandN T n g - 1); exact ⟨a, by omega⟩
  rcases (show (j0 : Int) < bandN T n g ∨ bandN T n g ≤ j0 by omega) with z | z
  · have e1 := hlo j0 z
    have e2 : (j0 : Int) ≠ bandN T n g - 1 → T j0 < T (bandN T n g - 1) := fun h => hs j0 (bandN T n g - 1) (by omega) (by omega) (by omega)
    have d := dn0 (by omega)
    have e3 : dstK T g n = g - T (bandN T n g - 1) + 1 := by
      by_cases e : (j0 : Int) = bandN T n g - 1
      · rw [h3, e1, e]
      · have := e2 e; omega
    rw [if_pos (show 0 < bandN T n g by omega)]
    by_cases hu : bandN T n g < n
    · rw [if_pos hu]; have := up0 hu
      split <;> omega
    · rw [if_neg hu, if_neg (by omega)]; exact e3
  · have e1 := hhi j0 z h2
    have u := up0 (by omega)
    have e2 : (j0 : Int) ≠ bandN T n g → T (bandN T n g) < T j0 := fun h => hs (bandN T n g) j0 hr.1 (by omega) (by omega)
    have e3 : dstK T g n = T (bandN T n g) - g := by
      by_cases e : (j0 : Int) = bandN T n g
      · rw [h3, e1, e]
      · have := e2 e; omega
    rw [if_pos (show bandN T n g < n by omega)]
    by_cases hd : 0 < bandN T n g
    · rw [if_pos hd]; have := dn0 hd
      split <;> omega
    · rw [if_neg hd, if_pos (by omega)]; exact e3
/-- 160 numbers of F, from a on, put into E from b on -/
def cpF (F : Int → Int) (a : Int) (E : Int → Int) (b : Int) (k : Int) : Int → Int := fun j => if b ≤ j ∧ j < b + k then F (j - b + a) else E j
end MD4
