/-! MODEL's face: bestMove. -/
section MQ5
variable {l : Launch} {rf sz : Int} {S : St} {ac : Int} {B I : Int → Int} {m : Int} {Fi Co Br Wt mk gy : Int → Int} {S2 : St} {tx di ke ik ea : Int → Int} {sd rt lf wy sp ou : Int}
theorem SV_gTo (h : SV S) {v b : Int} (hv : 0 ≤ v ∧ v ≤ 99) (k3 : canT (sT S) (sN S) v b = true) : SV (gT S v b) := by
  obtain ⟨h1, h2, h3, h4, h5, h6⟩ := h
  refine ⟨h1, h2, ?_, ?_, ?_, h6⟩
  · intro i
    show 0 ≤ chT (sT S) (sN S) v b i ∧ chT (sT S) (sN S) v b i ≤ 99
    unfold chT
    split
    · exact remT_rg h3 i
    · exact insT_rg h3 hv i
  · show srt (chT (sT S) (sN S) v b) (chN (sN S) b)
    unfold chT chN
    unfold canT at k3
    by_cases z : b = 0
    · rw [if_pos z] at k3 ⊢
      rw [if_pos z]
      have := hasT_at k3
      exact srt_rem h4 ⟨this.1, this.2.1⟩
    · rw [if_neg z] at k3 ⊢
      rw [if_neg z]
      have : hasT (sT S) (sN S) v = false := by
        cases e : hasT (sT S) (sN S) v
        · rfl
        · rw [e] at k3; simp at k3
      exact srt_ins h4 this
  · show chN (sN S) b ≤ 5
    unfold chN
    unfold canT at k3
    by_cases z : b = 0
    · rw [if_pos z]; omega
    · rw [if_neg z] at k3 ⊢
      simp at k3
      omega
theorem rem_free {T : Int → Int} {n : Nat} {p v : Int} (hs : srt T n) (hp : 0 ≤ p ∧ p < n) (hv : v = T p ∨ hasT T n v = false) : hasT (remT T n p) (n - 1) v = false := by
  cases e : hasT (remT T n p) (n - 1) v
  · rfl
  · exfalso
    obtain ⟨j, h1, h2⟩ := hasT_iff.mp e
    unfold remT at h2
    split at h2
    · rename_i z
      rcases hv with hv | hv
      · have := hs p (j + 1) hp.1 (by omega) (by omega)
        omega
      · have : hasT T n v = true := hasT_iff.mpr ⟨j + 1, by omega, h2⟩
        rw [hv] at this; cases this
    · rename_i z
      rcases hv with hv | hv
      · have := hs j p (by omega) (by omega) (by omega)
        omega
      · have : hasT T n v = true := hasT_iff.mpr ⟨j, by omega, h2⟩
        rw [hv] at this; cases this
/-- the state with the threshold u moved to v -/
abbrev mvS (S : St) (u v : Int) : St := gT (gT S u 0) v 1
def bmO (S : St) (u v : Int) : Prop := v = u ∨ hasT (sT S) (sN S) v = false
theorem mv_can {u v : Int} (hS : SV S) (hu : hasT (sT S) (sN S) u = true) (h : bmO S u v) : canT (sT (gT S u 0)) (sN (gT S u 0)) v 1 = true := by
  have hat := hasT_at hu
  have h5 := hS.2.2.2.2.1
  have e1 : sT (gT S u 0) = remT (sT S) (sN S) (fstK (fun k => sT S k == u) (sN S)) := by show chT (sT S) (sN S) u 0 = _; unfold chT; rw [if_pos rfl]
  have e2 : sN (gT S u 0) = sN S - 1 := by show chN (sN S) 0 = _; unfold chN; rw [if_pos rfl]
  rw [e1, e2]
  unfold canT
  rw [if_neg (by omega), rem_free hS.2.2.2.1 ⟨hat.1, hat.2.1⟩ (h.imp (fun z => z.trans hat.2.2.symm) id)]
  simp
  omega
theorem SV_mv {u v : Int} (hS : SV S) (hu : hasT (sT S) (sN S) u = true) (h0 : 0 ≤ u ∧ u ≤ 99) (hv : 0 ≤ v ∧ v ≤ 99) (h : bmO S u v) : SV (mvS S u v) := by
  refine SV_gTo (SV_gTo hS h0 ?_) hv (mv_can hS hu h)
  unfold canT; rw [if_pos rfl]; exact hu
/-- the best of the values up to k: value, islands, distance -/
abbrev bmB (q : Int × Int × Int) (n w d : Int) : Prop := q.1 = -1 ∨ n < q.2.1 ∨ (n = q.2.1 ∧ d < q.2.2)
noncomputable def bmK (ok : Int → Prop) (M : Int → Int) (u : Int) : Nat → Int × Int × Int
  | 0 => (-1, 0, 0)
  | k + 1 => if tr (ok (k + 1)) = true ∧ bmB (bmK ok M u k) (M (k + 1)) (k + 1) (ab (k + 1 - u)) then (k + 1, M (k + 1), ab (k + 1 - u)) else bmK ok M u k
theorem bmK_t {ok : Int → Prop} {M : Int → Int} {u : Int} {k : Nat} (h : ok (k + 1)) (hb : bmB (bmK ok M u k) (M (k + 1)) (k + 1) (ab (k + 1 - u))) : bmK ok M u (k + 1) = ((k : Int) + 1, M (k + 1), ab (k + 1 - u)) := if_pos ⟨tr_t.mpr h, hb⟩
theorem bmK_f {ok : Int → Prop} {M : Int → Int} {u : Int} {k : Nat} (h : ¬ (ok (k + 1) ∧ bmB (bmK ok M u k) (M (k + 1)) (k + 1) (ab (k + 1 - u)))) : bmK ok M u (k + 1) = bmK ok M u k := if_neg (fun z => h ⟨tr_t.mp z.1, z.2⟩)
theorem bmK_rg {ok : Int → Prop} {M : Int → Int} {u : Int} (hM : ∀ v, 0 ≤ M v ∧ M v ≤ 144) (hu : 0 ≤ u ∧ u ≤ 99) : ∀ k : Nat, k ≤ 99 → (-1 ≤ (bmK ok M u k).1 ∧ (bmK ok M u k).1 ≤ 99) ∧ (0 ≤ (bmK ok M u k).2.1 ∧ (bmK ok M u k).2.1 ≤ 144) ∧ (0 ≤ (bmK ok M u k).2.2 ∧ (bmK ok M u k).2.2 ≤ 99)
  | 0, _ => ⟨⟨Int.le_refl _, by show (-1 : Int) ≤ 99; omega⟩, ⟨Int.le_refl _, by show (0 : Int) ≤ 144; omega⟩, Int.le_refl _, by show (0 : Int) ≤ 99; omega⟩
  | k + 1, hk => by
    have ih := bmK_rg (ok := ok) hM hu k (by omega)
    by_cases h : ok (k + 1) ∧ bmB (bmK ok M u k) (M (k + 1)) (k + 1) (ab (k + 1 - u))
    · rw [bmK_t h.1 h.2]
      have := hM (k + 1)
      refine ⟨⟨?_, ?_⟩, this, ?_, ?_⟩
      all_goals (try unfold ab)
      all_goals dsimp only
      all_goals omega
    · rw [bmK_f h]; exact ih
noncomputable def aBest (S : St) (k : Int) : Int := (bmK (bmO S (sT S k)) (fun v => mS (mvS S (sT S k) v)) (sT S k) 99).1
theorem mS_rg (hd : dim (sC S) (sR S)) : 1 ≤ mS S ∧ mS S ≤ 144 := mny_1 hd
end MQ5
