/-! MODEL's state: cells, boxes, thresholds. -/
section MD2
variable {l : Launch} {c r le li : Int} {G T Hh : Int → Int}
/-- where a threshold is, or would be -/
def plK (T : Int → Int) (n : Nat) (v : Int) : Int := cntK (fun k => decide (T k < v)) n
theorem plK_spec {n : Nat} {v : Int} (hs : srt T n) : 0 ≤ plK T n v ∧ plK T n v ≤ n ∧ (∀ j : Int, 0 ≤ j → j < plK T n v → T j < v) ∧ (∀ j : Int, plK T n v ≤ j → j < n → v ≤ T j) := by
  have hr := cntK_rg (fun k => decide (T k < v)) n
  have e : plK T n v = cntK (fun k => decide (T k ≤ v - 1)) n := cntK_congr n (fun j _ => by by_cases h : T j < v <;> simp [h] <;> omega)
  have hc := srt_cut (v := v - 1) hs
  rw [← e] at hc
  refine ⟨hr.1, hr.2, fun j h1 h2 => ?_, fun j h1 h2 => ?_⟩
  · have h3 : plK T n v ≤ n := hr.2
    have := (hc j.toNat (by omega)).mpr (by omega)
    rw [Int.toNat_of_nonneg h1] at this; omega
  · have h3 : 0 ≤ plK T n v := hr.1
    have := (hc j.toNat (by omega)).mp
    rw [Int.toNat_of_nonneg (show 0 ≤ j by omega)] at this
    exact Int.le_of_not_gt fun z => by have := this (by omega); omega
theorem plK_there {n : Nat} {v : Int} (hs : srt T n) : hasT T n v = true ↔ (plK T n v < n ∧ T (plK T n v) = v) := by
  obtain ⟨p1, p2, p3, p4⟩ := plK_spec (v := v) hs
  rw [hasT_iff]
  constructor
  · rintro ⟨j, h1, h2⟩
    have e : (j : Int) = plK T n v := by
      rcases Int.lt_trichotomy j (plK T n v) with z | z | z
      · have := p3 j (by omega) z; omega
      · exact z
      · have := hs (plK T n v) j p1 z (by omega); have := p4 (plK T n v) (by omega) (by omega); omega
    exact ⟨by omega, by rw [← e]; exact h2⟩
  · rintro ⟨h1, h2⟩
    exact ⟨(plK T n v).toNat, by omega, by rw [Int.toNat_of_nonneg p1]; exact h2⟩
theorem plK_fst {n : Nat} {v : Int} (hs : srt T n) (h : hasT T n v = true) : fstK (fun k => T k == v) n = plK T n v := by
  have h1 := hasT_at h
  have h2 := (plK_there hs).mp h
  have h3 := (plK_spec (v := v) hs).1
  rcases Int.lt_trichotomy (fstK (fun k => T k == v) n) (plK T n v) with z | z | z
  · have := hs _ _ h1.1 z h2.1; omega
  · exact z
  · have := hs _ _ h3 z h1.2.1; omega
theorem plK_ins {n : Nat} {v : Int} (hs : srt T n) (h : hasT T n v = false) : cntK (fun k => decide (T k ≤ v)) n = plK T n v := by
  refine cntK_congr n (fun j hj => ?_)
  have : T j ≠ v := fun e => by have := (hasT_iff (T := T)).mpr ⟨j, hj, e⟩; rw [h] at this; cases this
  by_cases h : T j < v <;> simp [h] <;> omega
end MD2
