/-! A FLOOD in the abstract: what is marked, what waits. -/
section BF
theorem cntK_ins {p q : Int → Bool} {b : Nat} (hp : p b = true) (hq : q b = false) (h : ∀ j : Nat, j ≠ b → p j = q j) : ∀ {N : Nat}, b < N → cntK p N = cntK q N + 1
  | 0, hb => by omega
  | N + 1, hb => by
    simp only [cntK]
    rcases (show b < N ∨ b = N by omega) with z | z
    · rw [cntK_ins hp hq h z, h N (by omega)]; omega
    · subst z
      rw [cntK_congr b (fun j hj => h j (by omega)), hp, hq]; simp
theorem cntK_lt {p : Int → Bool} {b N : Nat} (hb : b < N) (h : p b = false) : cntK p N < N := by
  have hp : (fun j : Int => decide (j = (b : Int)) || p j) b = true := by simp
  have hq : ∀ j : Nat, j ≠ b → (fun j : Int => decide (j = (b : Int)) || p j) j = p j := by
    intro j hj
    have : (j : Int) ≠ b := by omega
    simp [this]
  have h1 := cntK_ins (p := fun j : Int => decide (j = (b : Int)) || p j) hp h hq hb
  have := cntK_rg (fun j : Int => decide (j = (b : Int)) || p j) N
  omega
theorem cntK_none {p : Int → Bool} : ∀ {N : Nat}, (∀ j : Nat, j < N → p j = false) → cntK p N = 0
  | 0, _ => rfl
  | N + 1, h => by simp only [cntK]; rw [cntK_none (fun j hj => h j (by omega)), h N (by omega)]; simp
theorem cntK_or {p q : Int → Bool} : ∀ {N : Nat}, (∀ j : Nat, j < N → ¬ (p j = true ∧ q j = true)) → cntK (fun j => p j || q j) N = cntK p N + cntK q N
  | 0, _ => rfl
  | N + 1, h => by
    simp only [cntK]; rw [cntK_or (fun j hj => h j (by omega))]
    have := h N (by omega)
    by_cases hp : p N = true <;> by_cases hq : q N = true <;> simp_all <;> omega
noncomputable def mkF (F : Int → Int) (mk : Int → Prop) (v : Int) : Int → Int := fun j => if tr (mk j) = true then v else F j
theorem mkF_t {F : Int → Int} {mk : Int → Prop} {v j : Int} (h : mk j) : mkF F mk v j = v := if_pos (tr_t.mpr h)
theorem mkF_f {F : Int → Int} {mk : Int → Prop} {v j : Int} (h : ¬ mk j) : mkF F mk v j = F j := if_neg (fun z => h (tr_t.mp z))
theorem mkF_up {F : Int → Int} {mk : Int → Prop} {v b : Int} : up (mkF F mk v) b v = mkF F (fun j => j = b ∨ mk j) v := by
  funext j; unfold up
  by_cases h : j = b
  · rw [if_pos h, mkF_t (Or.inl h)]
  · rw [if_neg h]; by_cases h2 : mk j
    · rw [mkF_t h2, mkF_t (Or.inr h2)]
    · rw [mkF_f h2, mkF_f (fun z => z.elim h h2)]
theorem mkF_one {F : Int → Int} {v b : Int} : up F b v = mkF F (fun j => j = b) v := by
  funext j; unfold up
  by_cases h : j = b
  · rw [if_pos h]; exact (mkF_t (mk := fun j => j = b) h).symm
  · rw [if_neg h]; exact (mkF_f (mk := fun j => j = b) h).symm
theorem mkF_congr {F : Int → Int} {mk mk2 : Int → Prop} {v : Int} (h : ∀ j, mk j ↔ mk2 j) : mkF F mk v = mkF F mk2 v := by
  funext j; by_cases h2 : mk j
  · rw [mkF_t h2, mkF_t ((h j).mp h2)]
  · rw [mkF_f h2, mkF_f (fun z => h2 ((h j).mpr z))]
def BI (E : Int → Int → Prop) (N : Nat) (s : Int) (mk : Int → Prop) (Q : Int → Int) (had : Int) : Prop :=
  mk s ∧ (∀ j, mk j → con E s j) ∧ (∀ i, 0 ≤ i → i < had → mk (Q i)) ∧ (∀ j, mk j → ∃ i, 0 ≤ i ∧ i < had ∧ Q i = j) ∧ had = cntK (fun j => tr (mk j)) N
def CL (E : Int → Int → Prop) (mk : Int → Prop) (Q : Int → Int) (got : Int) : Prop := ∀ i, 0 ≤ i → i < got → ∀ b, E (Q i) b → mk b
section
variable {E : Int → Int → Prop} {N : Nat} {s : Int} {mk : Int → Prop} {Q : Int → Int} {had got b : Int}
theorem cntK_mk (hb : 0 ≤ b ∧ b < N) (h : ¬ mk b) (P : Int → Prop) [DecidablePred P] : cntK (fun j => tr ((j = b ∨ mk j) ∧ P j)) N = cntK (fun j => tr (mk j ∧ P j)) N + if P b then 1 else 0 := by
  have eb : ((b.toNat : Nat) : Int) = b := Int.toNat_of_nonneg hb.1
  by_cases hP : P b
  · rw [if_pos hP]
    refine cntK_ins (b := b.toNat) ?_ ?_ (fun j hj => tr_iff ⟨fun z => ⟨z.1.elim (fun e => absurd e (by omega)) id, z.2⟩, fun z => ⟨Or.inr z.1, z.2⟩⟩) (by omega)
    · rw [eb]; exact tr_t.mpr ⟨Or.inl rfl, hP⟩
    · rw [eb]; exact tr_f.mpr (fun z => h z.1)
  · rw [if_neg hP, Int.add_zero]
    refine cntK_congr N fun j _ => tr_iff ⟨fun z => ⟨z.1.elim (fun e => absurd (e ▸ z.2) hP) id, z.2⟩, fun z => ⟨Or.inr z.1, z.2⟩⟩
theorem cntK_one (hb : 0 ≤ b ∧ b < N) (P : Int → Prop) [DecidablePred P] : cntK (fun j => tr (j = b ∧ P j)) N = if P b then 1 else 0 := by
  have h := cntK_mk (mk := fun _ => False) hb (fun z => z) P
  rw [cntK_none (p := fun j => tr (False ∧ P j)) (fun j _ => tr_f.mpr (fun z => z.1)), Int.zero_add] at h
  rw [← h]
  exact cntK_congr N fun j _ => tr_iff ⟨fun z => ⟨Or.inl z.1, z.2⟩, fun z => ⟨z.1.elim id False.elim, z.2⟩⟩
theorem BI_start (hs : 0 ≤ s ∧ s < N) (hQ : Q 0 = s) : BI E N s (fun j => j = s) Q 1 := by
  refine ⟨rfl, fun j h => by rw [h]; exact con_refl s, fun i h1 h2 => by rw [show i = 0 by omega]; exact hQ, fun j h => ⟨0, by omega, by omega, by rw [hQ]; exact h.symm⟩, ?_⟩
  have := cntK_one (b := s) hs (fun _ => True)
  rw [if_pos trivial] at this
  rw [← this]
  exact cntK_congr N fun j _ => tr_iff ⟨fun z => z.1, fun z => ⟨z, trivial⟩⟩
theorem BI_0 (h : BI E N s mk Q had) : 1 ≤ had ∧ had ≤ N := by
  have := cntK_rg (fun j => tr (mk j)) N
  obtain ⟨i, h1, h2, -⟩ := h.2.2.2.1 s h.1
  have := h.2.2.2.2
  omega
theorem BI_lt (h : BI E N s mk Q had) (hb : 0 ≤ b ∧ b < N) (hm : ¬ mk b) : had < N := by
  rw [h.2.2.2.2]
  exact cntK_lt (b := b.toNat) (by omega) (by rw [Int.toNat_of_nonneg hb.1]; exact tr_f.mpr hm)
theorem BI_add (h : BI E N s mk Q had) (hb : 0 ≤ b ∧ b < N) (hc : con E s b) (hm : ¬ mk b) : BI E N s (fun j => j = b ∨ mk j) (up Q had b) (had + 1) := by
  obtain ⟨h1, h2, h3, h4, h5⟩ := h
  refine ⟨Or.inr h1, fun j hj => hj.elim (fun e => e ▸ hc) (h2 j), fun i a1 a2 => ?_, fun j hj => ?_, ?_⟩
  · unfold up; split
    · exact Or.inl rfl
    · exact Or.inr (h3 i a1 (by omega))
  · have h0 : 0 ≤ had := by rw [h5]; exact (cntK_rg _ N).1
    rcases hj with e | hj
    · exact ⟨had, h0, by omega, by unfold up; rw [if_pos rfl, e]⟩
    · obtain ⟨i, a1, a2, a3⟩ := h4 j hj
      exact ⟨i, a1, by omega, by unfold up; rw [if_neg (by omega)]; exact a3⟩
  · have := cntK_mk (mk := mk) hb hm (fun _ => True)
    rw [if_pos trivial] at this
    show had + 1 = cntK (fun j => tr (j = b ∨ mk j)) N
    have e1 : cntK (fun j => tr ((j = b ∨ mk j) ∧ True)) N = cntK (fun j => tr (j = b ∨ mk j)) N := cntK_congr N fun j _ => tr_iff (Iff.intro (fun z => z.1) (fun z => ⟨z, trivial⟩))
    have e2 : cntK (fun j => tr (mk j ∧ True)) N = cntK (fun j => tr (mk j)) N := cntK_congr N fun j _ => tr_iff (Iff.intro (fun z => z.1) (fun z => ⟨z, trivial⟩))
    omega
theorem CL_add (h : CL E mk Q got) (hg : got ≤ had) : CL E (fun j => j = b ∨ mk j) (up Q had b) got := fun i h1 h2 d hd => by
  unfold up at hd; rw [if_neg (by omega)] at hd
  exact Or.inr (h i h1 h2 d hd)
theorem BI_done (h : BI E N s mk Q had) (hc : CL E mk Q had) (j : Int) : mk j ↔ con E s j := by
  refine ⟨h.2.1 j, fun hj => con_inv (P := mk) (fun x y hx e => ?_) h.1 hj⟩
  obtain ⟨i, a1, a2, a3⟩ := h.2.2.2.1 x hx
  exact hc i a1 a2 y (by rw [a3]; exact e)
end
end BF
