/-! WHAT WAS TOLD comes: least sizes, cells, thresholds moved; what is undone. -/
section TD9
variable {S : St} {A : Ob}
/-- a least size that isn't greater leaves no fewer islands -/
theorem least_less (hS : SV S) {v : Int} (hv : v ≤ sE S) : mS S ≤ mS (setE S v) := by
  have hd := hS.1
  have e := mrg_on144 hd hv (bnd (sT S) (sN S) (sG S))
  have h := mrg_less hd (le := sE S) 144 (mrg (sC S) (sR S) v 144 (bnd (sT S) (sN S) (sG S)))
  rw [e] at h
  exact h
theorem isles_rg (hd : dim (sC S) (sR S)) : rg (mS S) := by have := mS_rg hd; unfold rg; omega
/-- the island that a cell is of, by its number -/
theorem cell_isle (hd : dim (sC S) (sR S)) {x y : Int} (hx : 0 ≤ x ∧ x < sC S) (hy : 0 ≤ y ∧ y < sR S) : 0 ≤ aCell S x y 3 ∧ aCell S x y 3 < mS S ∧ aIsland S (aCell S x y 3) 1 = siz (sC S) (sR S) (bS S) (lw (sC S) (sR S) (bS S) (y * sC S + x)) := by
  have hk := xy_cel hd hx hy
  have ho := own_rg (b := bS S) hd hk
  have e : aCell S x y 3 = own (sC S) (sR S) (bS S) (y * sC S + x) := rfl
  rw [e]
  refine ⟨ho.1.1, ho.2.1, ?_⟩
  show siz (sC S) (sR S) (bS S) (fo (sC S) (sR S) (bS S) (rk (sC S) (sR S) (bS S) (lw (sC S) (sR S) (bS S) (y * sC S + x)))) = _
  rw [fo_rk hd (lw_ok hd hk).1 (lw_lw hd hk)]
theorem gP_gP (S : St) (x y g : Int) : gP (gP S x y g) x y g = gP S x y g := by
  show setG (gP S x y g) (up (up (sG S) (y * sC S + x) g) (y * sC S + x) g) = _
  have : up (up (sG S) (y * sC S + x) g) (y * sC S + x) g = up (sG S) (y * sC S + x) g := by
    funext j; unfold up; split <;> rfl
  rw [this]
theorem same_cell (S : St) (x y g : Int) : aIfC (gP S x y g) (gP (gP S x y g) x y g) x y 2 = 0 := by
  rw [gP_gP]
  show dfK (gP S x y g) (gP S x y g) _ = 0
  unfold dfK
  exact cntK_none fun j _ => decide_eq_false (fun z => z rfl)
/-- the best value -/
theorem bm_best {ok : Int → Prop} {M : Int → Int} {u : Int} : ∀ k : Nat, ((bmK ok M u k).1 = -1 ∧ ∀ v : Int, 1 ≤ v → v ≤ k → ¬ ok v) ∨ ((1 ≤ (bmK ok M u k).1 ∧ (bmK ok M u k).1 ≤ k) ∧ ok (bmK ok M u k).1 ∧ (bmK ok M u k).2.1 = M (bmK ok M u k).1 ∧ (bmK ok M u k).2.2 = ab ((bmK ok M u k).1 - u) ∧ ∀ v : Int, 1 ≤ v → v ≤ k → ok v → M (bmK ok M u k).1 < M v ∨ (M v = M (bmK ok M u k).1 ∧ (ab ((bmK ok M u k).1 - u) < ab (v - u) ∨ (ab (v - u) = ab ((bmK ok M u k).1 - u) ∧ (bmK ok M u k).1 ≤ v))))
  | 0 => Or.inl ⟨rfl, fun v h1 h2 => by omega⟩
  | k + 1 => by
    have ih := bm_best (ok := ok) (M := M) (u := u) k
    by_cases h : ok (k + 1) ∧ bmB (bmK ok M u k) (M (k + 1)) (k + 1) (ab (k + 1 - u))
    · rw [bmK_t h.1 h.2]
      right
      refine ⟨⟨by dsimp only; omega, by dsimp only; omega⟩, h.1, rfl, rfl, fun v h1 h2 h3 => ?_⟩
      dsimp only
      rcases (show v ≤ k ∨ v = (k : Int) + 1 by omega) with z | z
      · rcases ih with ⟨_, i2⟩ | ⟨i1, i2, i3, i4, i5⟩
        · exact absurd h3 (i2 v h1 z)
        · have h5 := i5 v h1 z h3
          rcases h.2 with q | q | ⟨q1, q2⟩
          · omega
          · rw [i3] at q
            left; omega
          · rw [i3] at q1
            rw [i4] at q2
            rcases h5 with y | ⟨y1, y2⟩
            · left; omega
            · right; exact ⟨by omega, Or.inl (by omega)⟩
      · subst z
        exact Or.inr ⟨rfl, Or.inr ⟨rfl, Int.le_refl _⟩⟩
    · rw [bmK_f h]
      rcases ih with ⟨i1, i2⟩ | ⟨i1, i2, i3, i4, i5⟩
      · left
        refine ⟨i1, fun v h1 h2 h3 => ?_⟩
        rcases (show v ≤ k ∨ v = (k : Int) + 1 by omega) with z | z
        · exact i2 v h1 z h3
        · subst z
          exact h ⟨h3, Or.inl i1⟩
      · right
        refine ⟨⟨i1.1, by omega⟩, i2, i3, i4, fun v h1 h2 h3 => ?_⟩
        rcases (show v ≤ k ∨ v = (k : Int) + 1 by omega) with z | z
        · exact i5 v h1 z h3
        · subst z
          have hn : ¬ bmB (bmK ok M u k) (M (k + 1)) (k + 1) (ab (k + 1 - u)) := fun q => h ⟨h3, q⟩
          have h6 : ¬ (M ((k : Int) + 1) < (bmK ok M u k).2.1) := fun q => hn (Or.inr (Or.inl q))
          have h7 : ¬ (M ((k : Int) + 1) = (bmK ok M u k).2.1 ∧ ab ((k : Int) + 1 - u) < (bmK ok M u k).2.2) := fun q => hn (Or.inr (Or.inr q))
          rw [i3] at h6 h7
          rw [i4] at h7
          rcases (show M (bmK ok M u k).1 < M ((k : Int) + 1) ∨ M ((k : Int) + 1) = M (bmK ok M u k).1 by omega) with y | y
          · exact Or.inl y
          · right
            refine ⟨y, ?_⟩
            have h8 : ¬ ab ((k : Int) + 1 - u) < ab ((bmK ok M u k).1 - u) := fun q => h7 ⟨y, q⟩
            rcases (show ab ((bmK ok M u k).1 - u) < ab ((k : Int) + 1 - u) ∨ ab ((k : Int) + 1 - u) = ab ((bmK ok M u k).1 - u) by omega) with w | w
            · exact Or.inl w
            · exact Or.inr ⟨w, by omega⟩
theorem best_ok {k : Int} (hu : 1 ≤ sT S k ∧ sT S k ≤ 99) : (1 ≤ aBest S k ∧ aBest S k ≤ 99) ∧ bmO S (sT S k) (aBest S k) ∧ ∀ v : Int, 1 ≤ v → v ≤ 99 → bmO S (sT S k) v → mS (mvS S (sT S k) (aBest S k)) < mS (mvS S (sT S k) v) ∨ (mS (mvS S (sT S k) v) = mS (mvS S (sT S k) (aBest S k)) ∧ (ab (aBest S k - sT S k) < ab (v - sT S k) ∨ (ab (v - sT S k) = ab (aBest S k - sT S k) ∧ aBest S k ≤ v))) := by
  have h := bm_best (ok := bmO S (sT S k)) (M := fun v => mS (mvS S (sT S k) v)) (u := sT S k) 99
  rcases h with ⟨_, i2⟩ | ⟨i1, i2, i3, i4, i5⟩
  · exact absurd (Or.inl rfl) (i2 (sT S k) hu.1 (by omega))
  · exact ⟨⟨i1.1, by unfold aBest; omega⟩, i2, fun v h1 h2 h3 => i5 v h1 (by omega) h3⟩
theorem hasT_k {T : Int → Int} {n : Nat} {k : Int} (hk : 0 ≤ k ∧ k < n) : hasT T n (T k) = true := by
  refine hasT_iff.mpr ⟨k.toNat, by omega, ?_⟩
  rw [Int.toNat_of_nonneg hk.1]
/-! what is undone -/
theorem und_X (hx : 0 ≤ jX A ∧ jX A < 14) (T : St) : jX (jUndo (jAct A T)) = jX A := by
  show ((jX A + 1) % 14 + 13) % 14 = jX A
  omega
theorem und_G (T : St) (k : Nat) : jG (jUndo (jAct A T)) k = if k = (jX A).toNat then jS A else jG A k := rfl
theorem und_S (hx : 0 ≤ jX A ∧ jX A < 14) (T : St) : jS (jUndo (jAct A T)) = jS A := by
  show σP (jS A) (jX A) (jG A) (((jX A + 1) % 14 + 13) % 14).toNat = jS A
  unfold σP
  rw [if_pos (by omega)]
theorem und_C (T : St) : jC (jUndo (jAct A T)) = min (jC A + 1) 14 - 1 := rfl
theorem und_2 (hx : 0 ≤ jX A ∧ jX A < 14) (T1 T2 : St) : jS (jUndo (jUndo (jAct (jAct A T1) T2))) = jS A := by
  have hx1 : 0 ≤ jX (jAct A T1) ∧ jX (jAct A T1) < 14 := by show 0 ≤ (jX A + 1) % 14 ∧ (jX A + 1) % 14 < 14; omega
  have e1 := und_X hx1 T2
  show jG (jUndo (jAct (jAct A T1) T2)) ((jX (jUndo (jAct (jAct A T1) T2)) + 13) % 14).toNat = jS A
  rw [e1, und_G]
  have e2 : jX (jAct A T1) = (jX A + 1) % 14 := rfl
  rw [e2, if_neg (by omega)]
  show σP (jS A) (jX A) (jG A) _ = jS A
  unfold σP
  rw [if_pos (by omega)]
theorem und_3 (hx : 0 ≤ jX A ∧ jX A < 14) (T1 T2 T3 : St) : jS (jUndo (jUndo (jAct (jUndo (jAct (jAct A T1) T2)) T3))) = jS A := by
  have hx1 : 0 ≤ jX (jAct A T1) ∧ jX (jAct A T1) < 14 := by show 0 ≤ (jX A + 1) % 14 ∧ (jX A + 1) % 14 < 14; omega
  have e1 := und_X hx1 T2
  have hx2 : 0 ≤ jX (jUndo (jAct (jAct A T1) T2)) ∧ jX (jUndo (jAct (jAct A T1) T2)) < 14 := by rw [e1]; exact hx1
  have e3 := und_X hx2 T3
  show jG (jUndo (jAct (jUndo (jAct (jAct A T1) T2)) T3)) ((jX (jUndo (jAct (jUndo (jAct (jAct A T1) T2)) T3)) + 13) % 14).toNat = jS A
  rw [e3, e1, und_G, e1, und_G]
  have e2 : jX (jAct A T1) = (jX A + 1) % 14 := rfl
  rw [e2, if_neg (by omega), if_neg (by omega)]
  show σP (jS A) (jX A) (jG A) _ = jS A
  unfold σP
  rw [if_pos (by omega)]
end TD9
