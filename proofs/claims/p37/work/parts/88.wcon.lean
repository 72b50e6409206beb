/-! THE LAW: its wrappers with the class behind them, answers and throws together. Printed by wip/whole/gen/mk88.py. -/
theorem CtW.mono {l : Launch} {y : MethodName} {cc : ByteArray} {nL : Nat} {ret : Option FieldType} {hh : List (Nat × Nat × Nat × Nat)} {rm : Room} {av : List Value} {M : List va_E} {post post2 : Option Value → List va_E → Prop} (h : CtW l y cc nL ret hh rm av M post) (hp : ∀ v M', post v M' → post2 v M') : CtW l y cc nL ret hh rm av M post2 := by
  intro D cT ad sz p e ha hc hk s m args below hf hap hP hT
  obtain ⟨k, o, h1, h2, h3, ⟨⟨⟨v, M', q1, q2, q3⟩, q4⟩, q5⟩⟩ := h D cT ad sz p e ha hc hk s m args below hf hap hP hT
  exact ⟨k, o, h1, h2, h3, ⟨⟨⟨v, M', q1, hp _ _ q2, q3⟩, q4⟩, q5⟩⟩
noncomputable def kLoad (tx : Int → Int) (sz : Int) : Int := if eP tx sz = -1 then 0 else 1
theorem kLoad_0 {tx : Int → Int} {sz : Int} (h : kLoad tx sz = 0) : eP tx sz = -1 := by unfold kLoad at h; split at h; assumption; cases h
theorem kLoad_1 {tx : Int → Int} {sz : Int} (h : kLoad tx sz = 1) : eP tx sz ≠ -1 := by unfold kLoad at h; split at h; cases h; assumption
def kUndo (cnt : Int) : Int := if cnt ≠ 0 then 0 else 1
theorem kUndo_0 {cnt : Int} (h : kUndo cnt = 0) : cnt ≠ 0 := by unfold kUndo at h; split at h; assumption; cases h
theorem kUndo_1 {cnt : Int} (h : kUndo cnt = 1) : cnt = 0 := by unfold kUndo at h; split at h; cases h; omega
theorem wEr_rg {t : Int → Int} {n p h : Int} (hp : 0 ≤ p) : -1 ≤ wEr t n p h ∧ wEr t n p h ≤ p + 100 := by
  by_cases z : wOk t n p h
  · rw [wEr_ok z]
    have h1 := fstK_rg (fun j => tr (¬ dOk t n (sg t n p) p j)) (2 * (nuO (sg t n p)).toNat)
    have hu := nuO_rg (sg t n p)
    have e : dBad t n (sg t n p) p (nuO (sg t n p)).toNat = fstK (fun j => tr (¬ dOk t n (sg t n p) p j)) (2 * (nuO (sg t n p)).toNat) := rfl
    split <;> omega
  · rw [wEr_no z]; omega
theorem wS_up (t : Int → Int) (n : Int) : ∀ k : Nat, wS t n k ≤ 11 * k
  | 0 => by simp only [wS]; omega
  | k + 1 => by have := (wS_rg t n k).2; have := wS_up t n k; omega
theorem eF_rg (t : Int → Int) (n : Int) : ∀ (f k : Nat), f + k ≤ 1000 → -1 ≤ eF t n f k ∧ eF t n f k ≤ 100000
  | 0, _, _ => ⟨Int.le_refl _, by simp only [eF]; omega⟩
  | f + 1, k, h => by
    simp only [eF]
    have h1 := wS_up t n k
    have h0 := (wS_rg t n k).1
    have h2 := wEr_rg (t := t) (n := n) (p := wS t n k) (h := if k = 0 then 1 else 0) (by omega)
    have h3 := eF_rg t n f (k + 1) (by omega)
    generalize wEr t n (wS t n k) (if k = 0 then 1 else 0) = z at h2 ⊢
    split
    · omega
    · split
      · omega
      · exact h3
theorem eP_rg (t : Int → Int) (n : Int) : rg (eP t n) := by have := eF_rg t n 121 0 (by omega); unfold eP rg; omega
theorem cm_t {K : Int} (h : K = 0) {kn nk cnt nx kn' nk' cnt' nx' : Int} {S S' : St} {gb : Int → Int} {σ σ' : Nat → St} : clM (ringP 6) kn nk S gb cnt nx σ = clM (ringP 6) (if K = 0 then kn else kn') (if K = 0 then nk else nk') (if K = 0 then S else S') gb (if K = 0 then cnt else cnt') (if K = 0 then nx else nx') (if K = 0 then σ else σ') := by rw [if_pos h, if_pos h, if_pos h, if_pos h, if_pos h, if_pos h]
theorem cu_t {K : Int} (h : K = 0) {kn nk cnt nx kn' nk' cnt' nx' : Int} {S S' : St} {gb : Int → Int} {σ : Nat → St} : clM (ringP 6) kn nk S gb cnt nx σ = clM (ringP 6) (if K = 0 then kn else kn') (if K = 0 then nk else nk') (if K = 0 then S else S') gb (if K = 0 then cnt else cnt') (if K = 0 then nx else nx') σ := by rw [if_pos h, if_pos h, if_pos h, if_pos h, if_pos h]
theorem cm_f {K : Int} (h : ¬ (K = 0)) {kn nk cnt nx kn' nk' cnt' nx' : Int} {S S' : St} {gb : Int → Int} {σ σ' : Nat → St} : clM (ringP 6) kn' nk' S' gb cnt' nx' σ' = clM (ringP 6) (if K = 0 then kn else kn') (if K = 0 then nk else nk') (if K = 0 then S else S') gb (if K = 0 then cnt else cnt') (if K = 0 then nx else nx') (if K = 0 then σ else σ') := by rw [if_neg h, if_neg h, if_neg h, if_neg h, if_neg h, if_neg h]
theorem cu_f {K : Int} (h : ¬ (K = 0)) {kn nk cnt nx kn' nk' cnt' nx' : Int} {S S' : St} {gb : Int → Int} {σ : Nat → St} : clM (ringP 6) kn' nk' S' gb cnt' nx' σ = clM (ringP 6) (if K = 0 then kn else kn') (if K = 0 then nk else nk') (if K = 0 then S else S') gb (if K = 0 then cnt else cnt') (if K = 0 then nx else nx') σ := by rw [if_neg h, if_neg h, if_neg h, if_neg h, if_neg h]
section WC
variable {l : Launch} {S : St} {kn nk c0 r0 m0 ct : Int} {B F Z Br Q Fo No Ho Mo In Sn Qn : Int → Int} {sd rt lf wy : Int} {S2 : St} {c1 r1 m1 ct1 : Int} {B1 F1 Z1 Br1 Q1 Fo1 No1 gb : Int → Int} {sz : Int} {tx : Int → Int} {cnt nx : Int} {σ : Nat → St} {P0 P1 : St} {sv fo : Int → Int}
end WC
