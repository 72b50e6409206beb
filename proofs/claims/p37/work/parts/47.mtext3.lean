/-! MODEL's text: commands, the whole. -/
section TM3
variable {l : Launch} {rf sz : Int} {S : St} {ac : Int} {B I : Int → Int} {m : Int} {Fi Co Br Wt mk gy : Int → Int} {sd rt lf wy sp ou : Int} {tx : Int → Int}
theorem wEr_k {t : Int → Int} {n p k : Int} {m : Nat} (hp : 0 ≤ p ∧ p < n) (hk : t p = k) (h69 : k ≠ 69) (hm : nuO k = m) : wEr t n p 0 = (if dBad t n k p m = -1 then -1 else p + 1 + dBad t n k p m) ∧ wE t n p = p + 1 + 2 * m := by
  have hs : sg t n p = k := by unfold sg; rw [if_pos hp]; exact hk
  have h := wEr_ok (t := t) (n := n) (p := p) (h := 0) ⟨hp.2, by rw [hs, if_neg h69], by rw [hs, hm]; omega⟩
  rw [hs, hm, Int.toNat_natCast] at h
  refine ⟨h, ?_⟩
  unfold wE
  rw [hs, hm]; omega
theorem wEr_d {t : Int → Int} {n p k : Int} (hp : 0 ≤ p ∧ p < n) (hk : t p = k) (h : k = 69 ∨ nuO k = -1) : wEr t n p 0 = p := by
  have hs : sg t n p = k := by unfold sg; rw [if_pos hp]; exact hk
  refine wEr_no fun z => ?_
  have a := z.2.1
  have d := z.2.2
  rw [hs] at a d
  rcases h with h | h
  · rw [if_pos h] at a; omega
  · exact d h
theorem rc_fin {p : Int} (hp : 0 ≤ p ∧ p < sz) : ∀ (k : Int) (m0 : Nat) (S1 : St) (o1 : Int) (gy1 : Int → Int), tx p = k → k ≠ 69 → nuO k = m0 → (dBad tx sz k p m0 = -1 → S1 = exW tx sz p S ∧ o1 = okZ tx sz p S) →
    (some (iv (bz (dBad tx sz k p m0 = -1))) = some (iv (bz (wEr tx sz p 0 = -1))) ∧ ∃ gy' : Int → Int, (mtM rf sz (if dBad tx sz k p m0 = -1 then S1 else S) ac B I m Fi Co Br Wt mk (gy1) sd rt lf wy (if dBad tx sz k p m0 = -1 then p + 1 + 2 * m0 else p + 1 + dBad tx sz k p m0) (if dBad tx sz k p m0 = -1 then ou + (1 - o1) else ou) tx) = (mtM rf sz (if wEr tx sz p 0 = -1 then exW tx sz p S else S) ac B I m Fi Co Br Wt mk (gy') sd rt lf wy (if wEr tx sz p 0 = -1 then wE tx sz p else wEr tx sz p 0) (if wEr tx sz p 0 = -1 then ou + (1 - okZ tx sz p S) else ou) tx)) := by
  intro k m0 S1 o1 gy1 h1 h2 h3 h4
  have hw := wEr_k hp h1 h2 h3
  have hr := dBad_rg (t := tx) (n := sz) (k := k) (p := p) m0
  rw [hw.1, hw.2]
  by_cases z : dBad tx sz k p m0 = -1
  · obtain ⟨e1, e2⟩ := h4 z
    rw [if_pos z, if_pos z, if_pos z, if_pos z, if_pos rfl, if_pos rfl, if_pos rfl, e1, e2, bz_pos z, bz_pos rfl]
    exact ⟨rfl, gy1, rfl⟩
  · have z2 : ¬ p + 1 + dBad tx sz k p m0 = -1 := by omega
    rw [if_neg z, if_neg z, if_neg z, if_neg z, if_neg z2, if_neg z2, if_neg z2, bz_neg z, bz_neg z2]
    exact ⟨rfl, gy1, rfl⟩
/-- the words from the k-th on, done; how many left out -/
def xF (t : Int → Int) (n : Int) : Nat → Nat → St × Int → St × Int
  | 0, _, s => s
  | f + 1, k, s => if n ≤ wS t n k then s else xF t n f (k + 1) (exW t n (wS t n k) s.1, s.2 + (1 - okZ t n (wS t n k) s.1))
/-- the state that a text tells, and how many commands are left out -/
def xT (t : Int → Int) (n : Int) (T : Int → Int) : St × Int := xF t n 120 1 (st0 T (nmA t n 1) (nmA t n 3), 0)
end TM3
