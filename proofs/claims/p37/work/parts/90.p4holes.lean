/-! HOLES AND OUTLINES: the outline has all sides just if there is no hole. -/
section HW
theorem oV_0 {P : Int → Int → Prop} {x y : Int} : oV P (x, y, 0) ↔ P x y ∧ ¬ P x (y - 1) := by
  unfold oV cn
  rw [tr_t, tr_f]
  show ((0 : Int) ≤ 0 ∧ (0 : Int) < 4) ∧ P x y ∧ ¬ P x (y - 1) ↔ _
  exact ⟨fun h => h.2, fun h => ⟨by omega, h⟩⟩
theorem oV_1 {P : Int → Int → Prop} {x y : Int} : oV P (x, y, 1) ↔ P (x - 1) y ∧ ¬ P x y := by
  unfold oV cn
  rw [tr_t, tr_f]
  show ((0 : Int) ≤ 1 ∧ (1 : Int) < 4) ∧ P (x - 1) y ∧ ¬ P x y ↔ _
  exact ⟨fun h => h.2, fun h => ⟨by omega, h⟩⟩
theorem oV_2 {P : Int → Int → Prop} {x y : Int} : oV P (x, y, 2) ↔ P (x - 1) (y - 1) ∧ ¬ P (x - 1) y := by
  unfold oV cn
  rw [tr_t, tr_f]
  show ((0 : Int) ≤ 2 ∧ (2 : Int) < 4) ∧ P (x - 1) (y - 1) ∧ ¬ P (x - 1) y ↔ _
  exact ⟨fun h => h.2, fun h => ⟨by omega, h⟩⟩
theorem oV_3 {P : Int → Int → Prop} {x y : Int} : oV P (x, y, 3) ↔ P x (y - 1) ∧ ¬ P (x - 1) (y - 1) := by
  unfold oV cn
  rw [tr_t, tr_f]
  show ((0 : Int) ≤ 3 ∧ (3 : Int) < 4) ∧ P x (y - 1) ∧ ¬ P (x - 1) (y - 1) ↔ _
  exact ⟨fun h => h.2, fun h => ⟨by omega, h⟩⟩
noncomputable def tz (p : Prop) : Int := if tr p = true then 1 else 0
theorem tz_t {p : Prop} (h : p) : tz p = 1 := if_pos (tr_t.mpr h)
theorem tz_f {p : Prop} (h : ¬ p) : tz p = 0 := if_neg (fun z => h (tr_t.mp z))
theorem tz_01 (p : Prop) : tz p = 0 ∨ tz p = 1 := by unfold tz; split <;> simp
theorem tz_iff {p q : Prop} (h : p ↔ q) : tz p = tz q := by rw [show p = q from propext h]
theorem tz_or {p q : Prop} (h : p → q → False) : tz (p ∨ q) = tz p + tz q := by
  by_cases hp : p
  · rw [tz_t (Or.inl hp), tz_t hp, tz_f (fun z => h hp z)]; rfl
  · by_cases hq : q
    · rw [tz_t (Or.inr hq), tz_f hp, tz_t hq]; rfl
    · rw [tz_f hp, tz_f hq, tz_f (fun z => z.elim hp hq)]; rfl
theorem tz_1 {p : Prop} (h : tz p ≠ 0) : p := Classical.byContradiction fun z => h (tz_f z)
/-- what comes to a corner goes on from it -/
theorem vtx {D : Int → Bool} {I O : Int → Prop} (h1 : ∀ w, (0 ≤ w ∧ w < 4) → I w → O (tn D w) ∧ D ((w + 1) % 4) = true ∧ D ((w + 2) % 4) = false) (h2 : ∀ v, (0 ≤ v ∧ v < 4) → O v → I (pw D v) ∧ D v = true ∧ D ((v + 3) % 4) = false) : (tz (I 1 ∨ O 3) + tz (O 1 ∨ I 3) + tz (I 0 ∨ O 2) + tz (O 0 ∨ I 2)) % 2 = 0 := by
  have F : ∀ w, (0 ≤ w ∧ w < 4) → tz (I w) = if D ((w + 1) % 4) = true ∧ D ((w + 2) % 4) = false then (if D w = false then tz (O ((w + 1) % 4)) else if D ((w + 3) % 4) = true then tz (O ((w + 3) % 4)) else tz (O w)) else 0 := by
    intro w hw
    by_cases z : D ((w + 1) % 4) = true ∧ D ((w + 2) % 4) = false
    · rw [if_pos z]
      have e : tz (I w) = tz (O (tn D w)) := tz_iff ⟨fun h => (h1 w hw h).1, fun h => by
        have := (h2 _ (tn_rg hw) h).1
        rw [(tn_pw hw z.1 z.2).1] at this
        exact this⟩
      rw [e]
      unfold tn
      split
      · rfl
      · split <;> rfl
    · rw [if_neg z]
      exact tz_f fun h => z ⟨(h1 w hw h).2.1, (h1 w hw h).2.2⟩
  have G : ∀ v, (0 ≤ v ∧ v < 4) → (D v = true ∧ D ((v + 3) % 4) = false) ∨ tz (O v) = 0 := fun v hv => by
    by_cases z : O v
    · exact Or.inl (h2 v hv z).2
    · exact Or.inr (tz_f z)
  rw [tz_or (fun a d => by
      have q1 : D 3 = false := (h1 1 (by omega) a).2.2
      have q2 : D 3 = true := (h2 3 (by omega) d).2.1
      rw [q1] at q2; cases q2), tz_or (fun a d => by
      have q1 : D 0 = true := (h1 3 (by omega) d).2.1
      have q2 : D 0 = false := (h2 1 (by omega) a).2.2
      rw [q1] at q2; cases q2), tz_or (fun a d => by
      have q1 : D 1 = true := (h1 0 (by omega) a).2.1
      have q2 : D 1 = false := (h2 2 (by omega) d).2.2
      rw [q1] at q2; cases q2), tz_or (fun a d => by
      have q1 : D 0 = false := (h1 2 (by omega) d).2.2
      have q2 : D 0 = true := (h2 0 (by omega) a).2.1
      rw [q1] at q2; cases q2)]
  have F0 : tz (I 0) = if D 1 = true ∧ D 2 = false then (if D 0 = false then tz (O 1) else if D 3 = true then tz (O 3) else tz (O 0)) else 0 := F 0 (by omega)
  have F1 : tz (I 1) = if D 2 = true ∧ D 3 = false then (if D 1 = false then tz (O 2) else if D 0 = true then tz (O 0) else tz (O 1)) else 0 := F 1 (by omega)
  have F2 : tz (I 2) = if D 3 = true ∧ D 0 = false then (if D 2 = false then tz (O 3) else if D 1 = true then tz (O 1) else tz (O 2)) else 0 := F 2 (by omega)
  have F3 : tz (I 3) = if D 0 = true ∧ D 1 = false then (if D 3 = false then tz (O 0) else if D 2 = true then tz (O 2) else tz (O 3)) else 0 := F 3 (by omega)
  have G0 : (D 0 = true ∧ D 3 = false) ∨ tz (O 0) = 0 := G 0 (by omega)
  have G1 : (D 1 = true ∧ D 0 = false) ∨ tz (O 1) = 0 := G 1 (by omega)
  have G2 : (D 2 = true ∧ D 1 = false) ∨ tz (O 2) = 0 := G 2 (by omega)
  have G3 : (D 3 = true ∧ D 2 = false) ∨ tz (O 3) = 0 := G 3 (by omega)
  cases d0 : D 0 <;> cases d1 : D 1 <;> cases d2 : D 2 <;> cases d3 : D 3 <;> rw [d0, d1, d2, d3] at F0 F1 F2 F3 <;> rw [d0, d3] at G0 <;> rw [d1, d0] at G1 <;> rw [d2, d1] at G2 <;> rw [d3, d2] at G3 <;> simp at F0 F1 F2 F3 G0 G1 G2 G3 <;> omega
variable {c r L : Int} {b : Int → Int}
/-- the outline's sides -/
def onW (c r : Int) (b : Int → Int) (L : Int) (q : Q3) : Prop := ∃ j : Nat, oN (inI c r b L) (o0 c L) j = q
abbrev eV (c r : Int) (b : Int → Int) (L x y : Int) : Prop := onW c r b L (x, y, 1) ∨ onW c r b L (x, y + 1, 3)
abbrev eH (c r : Int) (b : Int → Int) (L x y : Int) : Prop := onW c r b L (x, y, 0) ∨ onW c r b L (x + 1, y, 2)
theorem onW_V (hd : dim c r) (hL : cel c r L) (hl : lw c r b L = L) {q : Q3} (h : onW c r b L q) : oV (inI c r b L) q := by
  obtain ⟨j, rfl⟩ := h
  exact oN_V (o0_V hd hL hl) j
theorem onW_S {q : Q3} (h : onW c r b L q) : onW c r b L (oS (inI c r b L) q) := by
  obtain ⟨j, rfl⟩ := h
  exact ⟨j + 1, rfl⟩
theorem onW_P (hd : dim c r) (hL : cel c r L) (hl : lw c r b L = L) {q : Q3} (h : onW c r b L q) : ∃ q', onW c r b L q' ∧ oS (inI c r b L) q' = q := by
  obtain ⟨j, rfl⟩ := h
  have ho := oN1_ok hd hL hl
  cases j with
  | zero => exact ⟨_, ⟨(oN1 c r b L).toNat - 1, rfl⟩, by
      have e : oN (inI c r b L) (o0 c L) ((oN1 c r b L).toNat - 1 + 1) = o0 c L := by rw [show (oN1 c r b L).toNat - 1 + 1 = (oN1 c r b L).toNat by omega]; exact ho.2.2.1
      exact e⟩
  | succ j => exact ⟨_, ⟨j, rfl⟩, rfl⟩
theorem oN_per (hd : dim c r) (hL : cel c r L) (hl : lw c r b L = L) : ∀ k : Nat, oN (inI c r b L) (o0 c L) (k + (oN1 c r b L).toNat) = oN (inI c r b L) (o0 c L) k
  | 0 => by rw [Nat.zero_add]; exact (oN1_ok hd hL hl).2.2.1
  | k + 1 => by
    rw [show k + 1 + (oN1 c r b L).toNat = (k + (oN1 c r b L).toNat) + 1 by omega]
    show oS _ _ = oS _ _
    rw [oN_per hd hL hl k]
theorem onW_e (hd : dim c r) (hL : cel c r L) (hl : lw c r b L = L) {q : Q3} (h : onW c r b L q) : enc c q ∈ wkL c r b L := by
  obtain ⟨j, rfl⟩ := h
  have ho := oN1_ok hd hL hl
  induction j using Nat.strongRecOn with
  | ind j ih =>
    by_cases z : j < (oN1 c r b L).toNat
    · exact List.mem_map.mpr ⟨j, List.mem_range.mpr z, rfl⟩
    · have := ih (j - (oN1 c r b L).toNat) (by omega)
      rw [← oN_per hd hL hl, show j - (oN1 c r b L).toNat + (oN1 c r b L).toNat = j by omega] at this
      exact this
theorem onW_of (h : ∃ e, e ∈ wkL c r b L) : True := trivial
theorem eV_P (hd : dim c r) (hL : cel c r L) (hl : lw c r b L = L) {x y : Int} (h : eV c r b L x y) : (inI c r b L (x - 1) y ∧ ¬ inI c r b L x y) ∨ (inI c r b L x y ∧ ¬ inI c r b L (x - 1) y) := by
  rcases h with h | h
  · exact Or.inl (oV_1.mp (onW_V hd hL hl h))
  · have := oV_3.mp (onW_V hd hL hl h)
    rw [show y + 1 - 1 = y by omega] at this
    exact Or.inr this
theorem eH_P (hd : dim c r) (hL : cel c r L) (hl : lw c r b L = L) {x y : Int} (h : eH c r b L x y) : (inI c r b L x y ∧ ¬ inI c r b L x (y - 1)) ∨ (inI c r b L x (y - 1) ∧ ¬ inI c r b L x y) := by
  rcases h with h | h
  · exact Or.inl (oV_0.mp (onW_V hd hL hl h))
  · have := oV_2.mp (onW_V hd hL hl h)
    rw [show x + 1 - 1 = x by omega] at this
    exact Or.inr this
/-- a corner meets an even number of the outline's sides -/
theorem vtx_W (hd : dim c r) (hL : cel c r L) (hl : lw c r b L = L) (x y : Int) : (tz (eV c r b L x (y - 1)) + tz (eV c r b L x y) + tz (eH c r b L (x - 1) y) + tz (eH c r b L x y)) % 2 = 0 := by
  have h := vtx (D := cn (inI c r b L) x y) (I := fun w => onW c r b L (x - dx w, y - dy w, w)) (O := fun w => onW c r b L (x, y, w)) (fun w hw h => by
      have v := onW_V hd hL hl h
      have m := cn_mv (P := inI c r b L) (x := x - dx w) (y := y - dy w) hw
      rw [show x - dx w + dx w = x by omega, show y - dy w + dy w = y by omega] at m
      have s := onW_S h
      unfold oS at s
      dsimp only at s
      rw [show x - dx w + dx w = x by omega, show y - dy w + dy w = y by omega] at s
      exact ⟨s, m.1.trans v.2.1, m.2.trans v.2.2⟩) (fun v hv h => by
      obtain ⟨q', h1, h2⟩ := onW_P hd hL hl h
      have a := oV_step (onW_V hd hL hl h1)
      have e1 : q'.1 + dx q'.2.2 = x := congrArg Prod.fst h2
      have e2 : q'.2.1 + dy q'.2.2 = y := congrArg (fun z => z.2.1) h2
      have e3 := a.2
      rw [e1, e2, h2] at e3
      have e3 : pw (cn (inI c r b L) x y) v = q'.2.2 := e3
      have hv2 := onW_V hd hL hl h
      refine ⟨?_, hv2.2.1, hv2.2.2⟩
      rw [e3, show x - dx q'.2.2 = q'.1 by omega, show y - dy q'.2.2 = q'.2.1 by omega]
      exact h1)
  have d0 : dx 0 = 1 ∧ dy 0 = 0 ∧ dx 1 = 0 ∧ dy 1 = 1 ∧ dx 2 = -1 ∧ dy 2 = 0 ∧ dx 3 = 0 ∧ dy 3 = -1 := by decide
  obtain ⟨a0, b0, a1, b1, a2, b2, a3, b3⟩ := d0
  rw [a0, b0, a1, b1, a2, b2, a3, b3] at h
  have f1 : eV c r b L x (y - 1) ↔ onW c r b L (x - 0, y - 1, 1) ∨ onW c r b L (x, y, 3) := by rw [show x - 0 = x by omega]; unfold eV; rw [show y - 1 + 1 = y by omega]
  have f2 : eV c r b L x y ↔ onW c r b L (x, y, 1) ∨ onW c r b L (x - 0, y - -1, 3) := by rw [show x - 0 = x by omega, show y - -1 = y + 1 by omega]
  have f3 : eH c r b L (x - 1) y ↔ onW c r b L (x - 1, y - 0, 0) ∨ onW c r b L (x, y, 2) := by rw [show y - 0 = y by omega]; unfold eH; rw [show x - 1 + 1 = x by omega]
  have f4 : eH c r b L x y ↔ onW c r b L (x, y, 0) ∨ onW c r b L (x - -1, y - 0, 2) := by rw [show y - 0 = y by omega, show x - -1 = x + 1 by omega]
  rw [tz_iff f1, tz_iff f2, tz_iff f3, tz_iff f4]
  exact h
/-- how many of the outline's upright sides are left of a cell -/
noncomputable def cC (c r : Int) (b : Int → Int) (L x y : Int) : Int := sumK (fun u => tz (eV c r b L u y)) (x + 1).toNat
theorem eV_in (hd : dim c r) (hL : cel c r L) (hl : lw c r b L = L) {x y : Int} (h : eV c r b L x y) : 0 ≤ x ∧ 0 ≤ y ∧ y < r := by
  rcases eV_P hd hL hl h with ⟨h, -⟩ | ⟨h, -⟩
  · have := h.1; omega
  · have := h.1; omega
theorem eH_in (hd : dim c r) (hL : cel c r L) (hl : lw c r b L = L) {x y : Int} (h : eH c r b L x y) : 0 ≤ x := by
  rcases eH_P hd hL hl h with ⟨h, -⟩ | ⟨h, -⟩
  · have := h.1; omega
  · have := h.1; omega
theorem cC_h (hd : dim c r) (hL : cel c r L) (hl : lw c r b L = L) (x y : Int) : cC c r b L x y = cC c r b L (x - 1) y + tz (eV c r b L x y) := by
  unfold cC
  by_cases z : 0 ≤ x
  · rw [show (x + 1).toNat = x.toNat + 1 by omega, show (x - 1 + 1).toNat = x.toNat by omega]
    simp only [sumK]
    rw [Int.toNat_of_nonneg z]
  · rw [show (x + 1).toNat = 0 by omega, show (x - 1 + 1).toNat = 0 by omega, tz_f (fun h => z (eV_in hd hL hl h).1)]
    rfl
theorem cC_v (hd : dim c r) (hL : cel c r L) (hl : lw c r b L = L) (x y : Int) : (cC c r b L x y + cC c r b L x (y - 1) + tz (eH c r b L x y)) % 2 = 0 := by
  have key : ∀ N : Nat, (sumK (fun u => tz (eV c r b L u y)) N + sumK (fun u => tz (eV c r b L u (y - 1))) N + tz (eH c r b L ((N : Int) - 1) y)) % 2 = 0 := by
    intro N
    induction N with
    | zero => rw [tz_f (fun h => by have := eH_in hd hL hl h; omega)]; rfl
    | succ N ih =>
      have h := vtx_W hd hL hl (N : Int) y
      simp only [sumK]
      rw [show ((N + 1 : Nat) : Int) - 1 = N by omega]
      omega
  by_cases z : 0 ≤ x
  · have := key (x + 1).toNat
    rw [show (((x + 1).toNat : Nat) : Int) - 1 = x by omega] at this
    exact this
  · unfold cC
    rw [show (x + 1).toNat = 0 by omega, tz_f (fun h => z (eH_in hd hL hl h))]
    rfl
section CO
variable (hd : dim c r) (hL : cel c r L) (hl : lw c r b L = L)
theorem cp_h (hd : dim c r) (hL : cel c r L) (hl : lw c r b L = L) {x y : Int} (h : inI c r b L (x - 1) y ↔ inI c r b L x y) : cC c r b L x y = cC c r b L (x - 1) y := by
  rw [cC_h hd hL hl, tz_f (fun z => by
    rcases eV_P hd hL hl z with ⟨a, d⟩ | ⟨a, d⟩
    · exact d (h.mp a)
    · exact d (h.mpr a))]
  omega
theorem cp_v (hd : dim c r) (hL : cel c r L) (hl : lw c r b L = L) {x y : Int} (h : inI c r b L x y ↔ inI c r b L x (y - 1)) : cC c r b L x y % 2 = cC c r b L x (y - 1) % 2 := by
  have := cC_v hd hL hl x y
  rw [tz_f (fun z => by
    rcases eH_P hd hL hl z with ⟨a, d⟩ | ⟨a, d⟩
    · exact d (h.mp a)
    · exact d (h.mpr a))] at this
  omega
/-- across a corner, from north-west to south-east -/
theorem cp_d (hd : dim c r) (hL : cel c r L) (hl : lw c r b L = L) {x y : Int} (h0 : ¬ inI c r b L x y) (h2 : ¬ inI c r b L (x - 1) (y - 1)) : cC c r b L x y % 2 = cC c r b L (x - 1) (y - 1) % 2 := by
  by_cases h1 : inI c r b L (x - 1) y
  · by_cases h3 : inI c r b L x (y - 1)
    · have e : eV c r b L x y ↔ eH c r b L (x - 1) y := by
        constructor
        · intro h
          rcases h with h | h
          · left
            obtain ⟨q', q1, q2⟩ := onW_P hd hL hl h
            have a := oV_step (onW_V hd hL hl q1)
            have e1 : q'.1 + dx q'.2.2 = x := congrArg Prod.fst q2
            have e2 : q'.2.1 + dy q'.2.2 = y := congrArg (fun z => z.2.1) q2
            have e3 := a.2
            rw [e1, e2, q2] at e3
            have g : cn (inI c r b L) x y ((1 + 1) % 4) = false := tr_f.mpr h2
            have e3 : pw (cn (inI c r b L) x y) 1 = q'.2.2 := e3
            unfold pw at e3
            rw [if_pos g] at e3
            have e4 : q'.2.2 = 0 := e3.symm
            rw [e4] at e1 e2
            have d1 : dx 0 = 1 := by decide
            have d2 : dy 0 = 0 := by decide
            rw [d1] at e1
            rw [d2] at e2
            have : q' = (x - 1, y, 0) := by
              obtain ⟨u, v, w⟩ := q'
              dsimp only at e1 e2 e4
              rw [e4, show u = x - 1 by omega, show v = y by omega]
            rw [← this]; exact q1
          · exfalso
            have := (oV_3.mp (onW_V hd hL hl h)).1
            rw [show y + 1 - 1 = y by omega] at this
            exact h0 this
        · intro h
          rcases h with h | h
          · left
            have s := onW_S h
            unfold oS at s
            dsimp only at s
            have d1 : dx 0 = 1 := by decide
            have d2 : dy 0 = 0 := by decide
            rw [d1, d2, show x - 1 + 1 = x by omega, show y + 0 = y by omega] at s
            have g : cn (inI c r b L) x y 0 = false := tr_f.mpr h0
            unfold tn at s
            rw [if_pos g] at s
            exact s
          · exfalso
            have := (oV_2.mp (onW_V hd hL hl h)).1
            rw [show x - 1 + 1 = x by omega] at this
            exact h2 this
      have a := cC_h hd hL hl x y
      have d := cC_v hd hL hl (x - 1) y
      rw [tz_iff e] at a
      omega
    · have a := cp_v hd hL hl (x := x) (y := y) ⟨fun z => absurd z h0, fun z => absurd z h3⟩
      have d := cp_h hd hL hl (x := x) (y := y - 1) ⟨fun z => absurd z h2, fun z => absurd z h3⟩
      omega
  · have a := cp_h hd hL hl (x := x) (y := y) ⟨fun z => absurd z h1, fun z => absurd z h0⟩
    have d := cp_v hd hL hl (x := x - 1) (y := y) ⟨fun z => absurd z h1, fun z => absurd z h2⟩
    omega
/-- .. from south-west to north-east -/
theorem cp_e (hd : dim c r) (hL : cel c r L) (hl : lw c r b L = L) {x y : Int} (h1 : ¬ inI c r b L (x - 1) y) (h3 : ¬ inI c r b L x (y - 1)) : cC c r b L (x - 1) y % 2 = cC c r b L x (y - 1) % 2 := by
  by_cases h0 : inI c r b L x y
  · by_cases h2 : inI c r b L (x - 1) (y - 1)
    · have e : eV c r b L x y ↔ eH c r b L x y := by
        constructor
        · intro h
          rcases h with h | h
          · exfalso
            exact h1 (oV_1.mp (onW_V hd hL hl h)).1
          · left
            have s := onW_S h
            unfold oS at s
            dsimp only at s
            have d1 : dx 3 = 0 := by decide
            have d2 : dy 3 = -1 := by decide
            rw [d1, d2, show x + 0 = x by omega, show y + 1 + -1 = y by omega] at s
            have g : cn (inI c r b L) x y 3 = false := tr_f.mpr h3
            unfold tn at s
            rw [if_pos g] at s
            exact s
        · intro h
          rcases h with h | h
          · right
            obtain ⟨q', q1, q2⟩ := onW_P hd hL hl h
            have a := oV_step (onW_V hd hL hl q1)
            have e1 : q'.1 + dx q'.2.2 = x := congrArg Prod.fst q2
            have e2 : q'.2.1 + dy q'.2.2 = y := congrArg (fun z => z.2.1) q2
            have e3 := a.2
            rw [e1, e2, q2] at e3
            have g : cn (inI c r b L) x y ((0 + 1) % 4) = false := tr_f.mpr h1
            have e3 : pw (cn (inI c r b L) x y) 0 = q'.2.2 := e3
            unfold pw at e3
            rw [if_pos g] at e3
            have e4 : q'.2.2 = 3 := e3.symm
            rw [e4] at e1 e2
            have d1 : dx 3 = 0 := by decide
            have d2 : dy 3 = -1 := by decide
            rw [d1] at e1
            rw [d2] at e2
            have : q' = (x, y + 1, 3) := by
              obtain ⟨u, v, w⟩ := q'
              dsimp only at e1 e2 e4
              rw [e4, show u = x by omega, show v = y + 1 by omega]
            rw [← this]; exact q1
          · exfalso
            have := (oV_2.mp (onW_V hd hL hl h)).1
            rw [show x + 1 - 1 = x by omega] at this
            exact h3 this
      have a := cC_h hd hL hl x y
      have d := cC_v hd hL hl x y
      rw [tz_iff e] at a
      omega
    · have a := cp_v hd hL hl (x := x - 1) (y := y) ⟨fun z => absurd z h1, fun z => absurd z h2⟩
      have d := cp_h hd hL hl (x := x) (y := y - 1) ⟨fun z => absurd z h2, fun z => absurd z h3⟩
      omega
  · have a := cp_h hd hL hl (x := x) (y := y) ⟨fun z => absurd z h1, fun z => absurd z h0⟩
    have d := cp_v hd hL hl (x := x) (y := y) ⟨fun z => absurd z h0, fun z => absurd z h3⟩
    omega
/-- neighbours, across too, that aren't of the island -/
theorem cp_8 (hd : dim c r) (hL : cel c r L) (hl : lw c r b L = L) {x y x' y' : Int} (h : ¬ inI c r b L x y) (h' : ¬ inI c r b L x' y') (hx : x - 1 ≤ x' ∧ x' ≤ x + 1) (hy : y - 1 ≤ y' ∧ y' ≤ y + 1) : cC c r b L x y % 2 = cC c r b L x' y' % 2 := by
  rcases (show x' = x - 1 ∨ x' = x ∨ x' = x + 1 by omega) with rfl | rfl | rfl <;> rcases (show y' = y - 1 ∨ y' = y ∨ y' = y + 1 by omega) with rfl | rfl | rfl
  · exact cp_d hd hL hl h h'
  · have := cp_h hd hL hl (x := x) (y := y') ⟨fun z => absurd z h', fun z => absurd z h⟩
    omega
  · have := cp_e hd hL hl (x := x) (y := y + 1) h' (by rw [show y + 1 - 1 = y by omega]; exact h)
    rw [show y + 1 - 1 = y by omega] at this
    omega
  · exact cp_v hd hL hl ⟨fun z => absurd z h, fun z => absurd z h'⟩
  · rfl
  · have := cp_v hd hL hl (x := x') (y := y + 1) ⟨fun z => absurd z h', fun z => absurd (by rw [show y + 1 - 1 = y by omega] at z; exact z) h⟩
    rw [show y + 1 - 1 = y by omega] at this
    omega
  · have := cp_e hd hL hl (x := x + 1) (y := y) (by rw [show x + 1 - 1 = x by omega]; exact h) h'
    rw [show x + 1 - 1 = x by omega] at this
    omega
  · have := cp_h hd hL hl (x := x + 1) (y := y') ⟨fun z => absurd (by rw [show x + 1 - 1 = x by omega] at z; exact z) h, fun z => absurd z h'⟩
    rw [show x + 1 - 1 = x by omega] at this
    omega
  · have := cp_d hd hL hl (x := x + 1) (y := y + 1) h' (by rw [show x + 1 - 1 = x by omega, show y + 1 - 1 = y by omega]; exact h)
    rw [show x + 1 - 1 = x by omega, show y + 1 - 1 = y by omega] at this
    omega
theorem cp_row (hd : dim c r) (hL : cel c r L) (hl : lw c r b L = L) {x y : Int} (h : y < 0 ∨ r ≤ y) : cC c r b L x y = 0 := by
  unfold cC
  have : ∀ N : Nat, sumK (fun u => tz (eV c r b L u y)) N = 0 := by
    intro N
    induction N with
    | zero => rfl
    | succ N ih => simp only [sumK]; rw [ih, tz_f (fun z => by have := eV_in hd hL hl z; omega)]; rfl
  exact this _
theorem cp_out (hd : dim c r) (hL : cel c r L) (hl : lw c r b L = L) {x y : Int} (h : ¬ inP c r x y) : cC c r b L x y % 2 = 0 := by
  by_cases z : y < 0 ∨ r ≤ y
  · rw [cp_row hd hL hl z]; rfl
  · by_cases z2 : x < 0
    · unfold cC; rw [show (x + 1).toNat = 0 by omega]; rfl
    · have hx : c ≤ x := by unfold inP at h; omega
      have key : ∀ n : Nat, cC c r b L x ((n : Int) - 1) % 2 = 0 := by
        intro n
        induction n with
        | zero => rw [cp_row hd hL hl (by omega)]; rfl
        | succ n ih =>
          have := cp_v hd hL hl (x := x) (y := (n : Int)) ⟨fun q => absurd q.1.2.1 (by omega), fun q => absurd q.1.2.1 (by omega)⟩
          rw [show ((n + 1 : Nat) : Int) - 1 = n by omega]
          omega
      have := key (y + 1).toNat
      rw [show (((y + 1).toNat : Nat) : Int) - 1 = y by omega] at this
      exact this
end CO
theorem edg_out {x y : Int} (h : inP c r x y) (he : edg c r (y * c + x)) : ∃ x' y', ¬ inP c r x' y' ∧ (x - 1 ≤ x' ∧ x' ≤ x + 1) ∧ (y - 1 ≤ y' ∧ y' ≤ y + 1) := by
  have hm := dm_xy (c := c) (x := x) (y := y) ⟨h.1, h.2.1⟩
  unfold edg at he
  rw [hm.1, hm.2] at he
  unfold inP at h ⊢
  rcases he with e | e | e | e
  · exact ⟨x - 1, y, by omega, by omega, by omega⟩
  · exact ⟨x + 1, y, by omega, by omega, by omega⟩
  · exact ⟨x, y - 1, by omega, by omega, by omega⟩
  · exact ⟨x, y + 1, by omega, by omega, by omega⟩
/-- without holes: what isn't of the island is even -/
theorem cp_not (hd : dim c r) (hL : cel c r L) (hl : lw c r b L = L) (hno : ∀ k, cel c r k → lw c r b k ≠ L → ¬ inr c r b L k) {x y : Int} (h : ¬ inI c r b L x y) : cC c r b L x y % 2 = 0 := by
  by_cases z : inP c r x y
  · have hk := xy_cel hd (x := x) (y := y) ⟨z.1, z.2.1⟩ ⟨z.2.2.1, z.2.2.2⟩
    have hm := dm_xy (c := c) (x := x) (y := y) ⟨z.1, z.2.1⟩
    have hne : lw c r b (y * c + x) ≠ L := fun q => h ⟨z, q⟩
    have h1 := hno _ hk hne
    unfold inr at h1
    obtain ⟨i, h2⟩ := Classical.not_forall.mp h1
    obtain ⟨h3, h4⟩ := Classical.not_imp.mp h2
    have h4 : edg c r i := Classical.not_not.mp h4
    have hi := EH_con ⟨hk, hne⟩ h3
    have hmi := dim_k hd hi.1
    have inX : ∀ k, cel c r k → lw c r b k ≠ L → ¬ inI c r b L (k % c) (k / c) := fun k hk hn q => by
      have := dim_k hd hk
      have q2 : lw c r b (k / c * c + k % c) = L := q.2
      rw [← this.2.2.2.2] at q2
      exact hn q2
    have e : cC c r b L x y % 2 = cC c r b L (i % c) (i / c) % 2 := by
      have := con_inv (E := EH c r b L) (P := fun k => cC c r b L x y % 2 = cC c r b L (k % c) (k / c) % 2) (fun a d ha hE => by
        have := cp_8 hd hL hl (inX a hE.1.1 hE.1.2) (inX d hE.2.1.1 hE.2.1.2) hE.2.2.1 hE.2.2.2
        omega) (by rw [hm.1, hm.2]) h3
      exact this
    have hp : inP c r (i % c) (i / c) := ⟨hmi.1, hmi.2.1, hmi.2.2.1, hmi.2.2.2.1⟩
    obtain ⟨x', y', o1, o2, o3⟩ := edg_out hp (by rw [← hmi.2.2.2.2]; exact h4)
    have f := cp_8 hd hL hl (inX i hi.1 hi.2) (fun q => o1 q.1) o2 o3
    have g := cp_out hd hL hl o1
    omega
  · exact cp_out hd hL hl z
/-- .. and the island is odd -/
theorem cp_isl (hd : dim c r) (hL : cel c r L) (hl : lw c r b L = L) (hno : ∀ k, cel c r k → lw c r b k ≠ L → ¬ inr c r b L k) {x y : Int} (h : inI c r b L x y) : cC c r b L x y % 2 = 1 := by
  have hk := dim_k hd hL
  have hz := h.1
  have hm := dm_xy (c := c) (x := x) (y := y) ⟨hz.1, hz.2.1⟩
  have hc := xy_cel hd (x := x) (y := y) ⟨hz.1, hz.2.1⟩ ⟨hz.2.2.1, hz.2.2.2⟩
  have v0 := o0_V (b := b) hd hL hl
  have v1 := oV_0.mp (show oV (inI c r b L) (L % c, L / c, 0) from v0)
  have start : cC c r b L (L % c) (L / c) % 2 = 1 := by
    have a := cC_v hd hL hl (L % c) (L / c)
    rw [tz_t (Or.inl ⟨0, rfl⟩)] at a
    have d := cp_not hd hL hl hno v1.2
    omega
  have hcon : con (EB c r b) L (y * c + x) := by
    have := (lw_ok (B := b) hd hc).2.2.1
    rw [h.2] at this
    exact con_symm (EB_symm hd) this
  have fin := con_inv (E := EB c r b) (P := fun k => (cel c r k ∧ lw c r b k = L) ∧ cC c r b L (k % c) (k / c) % 2 = 1) (fun a d ha hE => by
    obtain ⟨⟨a1, a2⟩, a3⟩ := ha
    have hd2 := EB_cel hd hE
    have e2 : lw c r b d = L := (lw_eq hd (con_one hE)).symm.trans a2
    refine ⟨⟨hd2, e2⟩, ?_⟩
    obtain ⟨u, v, hu, hv, rfl⟩ := cel_xy hd a1
    have hm2 := dm_xy (c := c) (x := u) (y := v) hu
    rw [hm2.1, hm2.2] at a3
    obtain ⟨w, hw, n1, n2⟩ := hE.2.1
    have nd := nb_d (r := r) hu hv hw
    have hin : inP c r (u + dx w) (v + dy w) := Classical.byContradiction fun q => n2 (n1.symm.trans (nd.2 q))
    have n3 := n1.symm.trans (nd.1 hin)
    have hm3 := dm_xy (c := c) (x := u + dx w) (y := v + dy w) ⟨hin.1, hin.2.1⟩
    rw [n3, hm3.1, hm3.2]
    have p1 : inI c r b L u v := ⟨⟨hu.1, hu.2, hv.1, hv.2⟩, a2⟩
    have p2 : inI c r b L (u + dx w) (v + dy w) := ⟨hin, by rw [← n3]; exact e2⟩
    rcases dxy_0 hw with ⟨z1, z2, -⟩ | ⟨z1, z2, -⟩ | ⟨z1, z2, -⟩ | ⟨z1, z2, -⟩ <;> rw [z1, z2] at p2 ⊢
    · rw [show v + 0 = v by omega] at p2 ⊢
      have := cp_h hd hL hl (x := u + 1) (y := v) ⟨fun _ => p2, fun _ => by rw [show u + 1 - 1 = u by omega]; exact p1⟩
      rw [show u + 1 - 1 = u by omega] at this
      omega
    · rw [show u + 0 = u by omega] at p2 ⊢
      have := cp_v hd hL hl (x := u) (y := v + 1) ⟨fun _ => by rw [show v + 1 - 1 = v by omega]; exact p1, fun _ => p2⟩
      rw [show v + 1 - 1 = v by omega] at this
      omega
    · rw [show v + 0 = v by omega, show u + -1 = u - 1 by omega] at p2 ⊢
      have := cp_h hd hL hl (x := u) (y := v) ⟨fun _ => p1, fun _ => p2⟩
      omega
    · rw [show u + 0 = u by omega, show v + -1 = v - 1 by omega] at p2 ⊢
      have := cp_v hd hL hl (x := u) (y := v) ⟨fun _ => p2, fun _ => p1⟩
      omega) ⟨⟨hL, hl⟩, start⟩ hcon
  have := fin.2
  rw [hm.1, hm.2] at this
  exact this
/-- without holes every side is the outline's -/
theorem all_W (hd : dim c r) (hL : cel c r L) (hl : lw c r b L = L) (hno : ∀ k, cel c r k → lw c r b k ≠ L → ¬ inr c r b L k) {q : Q3} (h : oV (inI c r b L) q) : onW c r b L q := by
  have pin := fun {x y : Int} (h : inI c r b L x y) => cp_isl hd hL hl hno h
  have pout := fun {x y : Int} (h : ¬ inI c r b L x y) => cp_not hd hL hl hno h
  obtain ⟨x, y, w⟩ := q
  have hw := h.1
  dsimp only at hw
  rcases w_4 hw with rfl | rfl | rfl | rfl
  · obtain ⟨h1, h2⟩ := oV_0.mp h
    have a := cC_v hd hL hl x y
    have a1 := pin h1
    have a2 := pout h2
    have e : eH c r b L x y := tz_1 (by omega)
    rcases e with e | e
    · exact e
    · have := (oV_2.mp (onW_V hd hL hl e)).1
      rw [show x + 1 - 1 = x by omega] at this
      exact absurd this h2
  · obtain ⟨h1, h2⟩ := oV_1.mp h
    have a := cC_h hd hL hl x y
    have a1 := pin h1
    have a2 := pout h2
    have e : eV c r b L x y := tz_1 (by omega)
    rcases e with e | e
    · exact e
    · have := (oV_3.mp (onW_V hd hL hl e)).1
      rw [show y + 1 - 1 = y by omega] at this
      exact absurd this h2
  · obtain ⟨h1, h2⟩ := oV_2.mp h
    have a := cC_v hd hL hl (x - 1) y
    have a1 := pin h1
    have a2 := pout h2
    have e : eH c r b L (x - 1) y := tz_1 (by omega)
    rcases e with e | e
    · exact absurd (oV_0.mp (onW_V hd hL hl e)).1 h2
    · rw [show x - 1 + 1 = x by omega] at e
      exact e
  · obtain ⟨h1, h2⟩ := oV_3.mp h
    have a := cC_h hd hL hl x (y - 1)
    have a1 := pin h1
    have a2 := pout h2
    have e : eV c r b L x (y - 1) := tz_1 (by omega)
    rcases e with e | e
    · exact absurd (oV_1.mp (onW_V hd hL hl e)).1 h2
    · rw [show y - 1 + 1 = y by omega] at e
      exact e
/-- beside the outline: outside, or not in a hole -/
def oR9 (c r : Int) (b : Int → Int) (L x y : Int) : Prop := ¬ inP c r x y ∨ ¬ inr c r b L (y * c + x)
theorem oR9_8 (hd : dim c r) {x y x' y' : Int} (h : ¬ inI c r b L x y) (h' : ¬ inI c r b L x' y') (hx : x - 1 ≤ x' ∧ x' ≤ x + 1) (hy : y - 1 ≤ y' ∧ y' ≤ y + 1) (hr : oR9 c r b L x y) : oR9 c r b L x' y' := by
  by_cases z' : inP c r x' y'
  · right
    have hk' := xy_cel hd (x := x') (y := y') ⟨z'.1, z'.2.1⟩ ⟨z'.2.2.1, z'.2.2.2⟩
    have hm' := dm_xy (c := c) (x := x') (y := y') ⟨z'.1, z'.2.1⟩
    by_cases z : inP c r x y
    · have hk := xy_cel hd (x := x) (y := y) ⟨z.1, z.2.1⟩ ⟨z.2.2.1, z.2.2.2⟩
      have hm := dm_xy (c := c) (x := x) (y := y) ⟨z.1, z.2.1⟩
      have hc : con (EH c r b L) (y * c + x) (y' * c + x') := con_one ⟨⟨hk, fun q => h ⟨z, q⟩⟩, ⟨hk', fun q => h' ⟨z', q⟩⟩, by unfold near8; rw [hm.1, hm.2, hm'.1, hm'.2]; exact ⟨hx, hy⟩⟩
      rcases hr with q | q
      · exact absurd z q
      · exact fun t => q ((inr_con hc).mpr t)
    · intro t
      refine t _ (con_refl _) ?_
      unfold edg
      rw [hm'.1, hm'.2]
      unfold inP at z z'
      omega
  · exact Or.inl z'
theorem oS_c {P : Int → Int → Prop} (q : Q3) : (oS P q).2.2 = q.2.2 ∨ (oS P q).2.2 = (q.2.2 + 1) % 4 ∨ (oS P q).2.2 = (q.2.2 + 3) % 4 := tn_c
/-- nothing beside the outline is in a hole -/
theorem W_left (hd : dim c r) (hL : cel c r L) (hl : lw c r b L = L) (n : Nat) : oR9 c r b L (lX (oN (inI c r b L) (o0 c L) n)) (lY (oN (inI c r b L) (o0 c L) n)) := by
  have v0 := o0_V (b := b) hd hL hl
  have nl : ∀ q, oV (inI c r b L) q → ¬ inI c r b L (lX q) (lY q) := fun q h => tr_f.mp h.2.2
  induction n with
  | zero =>
    have hk := dim_k hd hL
    have key : ∀ n : Nat, (n : Int) ≤ L / c → oR9 c r b L (L % c) ((n : Int) - 1) := by
      intro n
      induction n with
      | zero => intro _; left; unfold inP; omega
      | succ n ih =>
        intro hn
        have no : ∀ y : Int, y < L / c → ¬ inI c r b L (L % c) y := fun y hy q => by
          have q1 := q.1
          have hx := xy_cel hd (x := L % c) (y := y) ⟨q1.1, q1.2.1⟩ ⟨q1.2.2.1, q1.2.2.2⟩
          have := (lw_ok (B := b) hd hx).2.1
          rw [q.2] at this
          have h4 : (y + 1) * c ≤ L / c * c := Int.mul_le_mul_of_nonneg_right (by omega) (by have := hd.1; omega)
          rw [Int.add_mul, Int.one_mul] at h4
          have := hd.1
          omega
        exact oR9_8 hd (no _ (by omega)) (no _ (by omega)) (by omega) (by omega) (ih (by omega))
    have := key (L / c).toNat (by omega)
    rw [show (((L / c).toNat : Nat) : Int) - 1 = L / c - 1 by omega] at this
    exact this
  | succ n ih =>
    have hv := oN_V v0 n
    have hv2 := oN_V v0 (n + 1)
    refine oR9_8 hd (nl _ hv) (nl _ hv2) ?_ ?_ ih
    · show lX (oN (inI c r b L) (o0 c L) n) - 1 ≤ lX (oS (inI c r b L) (oN (inI c r b L) (o0 c L) n)) ∧ _
      have hw := hv.1
      have ht := oS_c (P := inI c r b L) (oN (inI c r b L) (o0 c L) n)
      have hx : (oS (inI c r b L) (oN (inI c r b L) (o0 c L) n)).1 = (oN (inI c r b L) (o0 c L) n).1 + dx (oN (inI c r b L) (o0 c L) n).2.2 := rfl
      show lX (oN (inI c r b L) (o0 c L) n) - 1 ≤ lX (oS (inI c r b L) (oN (inI c r b L) (o0 c L) n)) ∧ lX (oS (inI c r b L) (oN (inI c r b L) (o0 c L) n)) ≤ lX (oN (inI c r b L) (o0 c L) n) + 1
      unfold lX
      rw [hx]
      generalize (oS (inI c r b L) (oN (inI c r b L) (o0 c L) n)).2.2 = v at ht ⊢
      generalize (oN (inI c r b L) (o0 c L) n).2.2 = w at hw ht ⊢
      rcases w_4 hw with rfl | rfl | rfl | rfl <;> rcases ht with rfl | rfl | rfl <;> simp [rx, dx] <;> omega
    · have hw := hv.1
      have ht := oS_c (P := inI c r b L) (oN (inI c r b L) (o0 c L) n)
      have hx : (oS (inI c r b L) (oN (inI c r b L) (o0 c L) n)).2.1 = (oN (inI c r b L) (o0 c L) n).2.1 + dy (oN (inI c r b L) (o0 c L) n).2.2 := rfl
      show lY (oN (inI c r b L) (o0 c L) n) - 1 ≤ lY (oS (inI c r b L) (oN (inI c r b L) (o0 c L) n)) ∧ lY (oS (inI c r b L) (oN (inI c r b L) (o0 c L) n)) ≤ lY (oN (inI c r b L) (o0 c L) n) + 1
      unfold lY
      rw [hx]
      generalize (oS (inI c r b L) (oN (inI c r b L) (o0 c L) n)).2.2 = v at ht ⊢
      generalize (oN (inI c r b L) (o0 c L) n).2.2 = w at hw ht ⊢
      rcases w_4 hw with rfl | rfl | rfl | rfl <;> rcases ht with rfl | rfl | rfl <;> simp [ry, dy] <;> omega
/-- beside a hole a side isn't the outline's -/
theorem hole_side (hd : dim c r) (hL : cel c r L) (hl : lw c r b L = L) {k : Int} (hk : cel c r k) (hn : lw c r b k ≠ L) (hi : inr c r b L k) : ∃ e, (0 ≤ e ∧ e < ((4 * (c * r).toNat : Nat) : Int)) ∧ sdB c r b L e = true ∧ e ∉ wkL c r b L := by
  have hc := dim_cells hd
  have key : ∀ (n : Nat) (x y : Int), x = n → (0 ≤ x ∧ x < c) → (0 ≤ y ∧ y < r) → lw c r b (y * c + x) ≠ L → inr c r b L (y * c + x) → ∃ e, (0 ≤ e ∧ e < ((4 * (c * r).toNat : Nat) : Int)) ∧ sdB c r b L e = true ∧ e ∉ wkL c r b L := by
    intro n
    induction n with
    | zero =>
      intro x y hx0 hx hy h1 h2
      exfalso
      refine h2 _ (con_refl _) ?_
      unfold edg
      rw [(dm_xy (y := y) hx).1]
      omega
    | succ n ih =>
      intro x y hx0 hx hy h1 h2
      have hx' : 0 ≤ x - 1 ∧ x - 1 < c := by omega
      have k1 := xy_cel hd hx' hy
      have k2 := xy_cel hd hx hy
      by_cases z : lw c r b (y * c + (x - 1)) = L
      · have e1 : (4 * (y * c + (x - 1))) / 4 = y * c + (x - 1) := by omega
        have e2 : (4 * (y * c + (x - 1))) % 4 = 0 := by omega
        have hnb : nb c r (y * c + (x - 1)) 0 = y * c + x := by
          rw [nb_xy hx', if_pos rfl, if_pos (by omega), show x - 1 + 1 = x by omega]
        refine ⟨4 * (y * c + (x - 1)), ⟨by have := k1.1; omega, by have := k1.2; omega⟩, ?_, ?_⟩
        · unfold sdB
          rw [e1, e2, hnb]
          exact decide_eq_true ⟨z, Or.inr h1⟩
        · intro hm
          obtain ⟨j, -, hj⟩ := List.mem_map.mp hm
          have v := oN_V (o0_V (b := b) hd hL hl) j
          have w := W_left hd hL hl j
          have ek := enc_k (c := c) (q := oN (inI c r b L) (o0 c L) j)
          rw [hj, e1, e2] at ek
          have a := (tr_t.mp v.2.1).1
          have d := dm_xy (c := c) (x := rx (oN (inI c r b L) (o0 c L) j).1 (oN (inI c r b L) (o0 c L) j).2.2) (y := ry (oN (inI c r b L) (o0 c L) j).2.1 (oN (inI c r b L) (o0 c L) j).2.2) ⟨a.1, a.2.1⟩
          rw [← ek.1] at d
          have d' := dm_xy (c := c) (x := x - 1) (y := y) hx'
          have l := left_nb v.1
          rw [← ek.2] at l
          have d1 : dx 0 = 1 := by decide
          have d2 : dy 0 = 0 := by decide
          rw [d1, d2] at l
          have lx : lX (oN (inI c r b L) (o0 c L) j) = x := by omega
          have ly : lY (oN (inI c r b L) (o0 c L) j) = y := by omega
          rw [lx, ly] at w
          rcases w with w | w
          · exact w ⟨hx.1, hx.2, hy.1, hy.2⟩
          · exact w h2
      · refine ih (x - 1) y (by omega) hx' hy z ?_
        have m1 := dm_xy (c := c) (x := x - 1) (y := y) hx'
        have m2 := dm_xy (c := c) (x := x) (y := y) hx
        exact (inr_con (con_one ⟨⟨k2, h1⟩, ⟨k1, z⟩, by unfold near8; rw [m1.1, m1.2, m2.1, m2.2]; omega⟩)).mp h2
  obtain ⟨x, y, hx, hy, rfl⟩ := cel_xy hd hk
  exact key x.toNat x y (by omega) hx hy hn hi
/-- a hole is counted just if a cell lies in one -/
theorem hoF_ex (hd : dim c r) : 0 < hoF c r b L ↔ ∃ k, cel c r k ∧ lw c r b k ≠ L ∧ inr c r b L k := by
  have hc := dim_cells hd
  constructor
  · intro h
    obtain ⟨k, h1, h2⟩ := cntK_ex h
    have h2 := tr_t.mp h2
    exact ⟨k, ⟨by omega, by omega⟩, h2.1, h2.2.2⟩
  · rintro ⟨k, hk, h1, h2⟩
    have a := hlw_ok (b := b) (L := L) hd hk
    have d := EH_con ⟨hk, h1⟩ a.2.2
    have e : tr (lw c r b (hlw c r b L k) ≠ L ∧ hlw c r b L (hlw c r b L k) = hlw c r b L k ∧ inr c r b L (hlw c r b L k)) = true := tr_t.mpr ⟨d.2, hlw_hlw hd hk, (inr_con a.2.2).mp h2⟩
    have := cntK_pos (p := fun j => tr (lw c r b j ≠ L ∧ hlw c r b L j = j ∧ inr c r b L j)) (k := (hlw c r b L k).toNat) (by rw [Int.toNat_of_nonneg a.1]; exact e) (c * r).toNat (by have := d.1.2; omega)
    exact this
theorem EB_EH (hd : dim c r) {a d : Int} (ha : lw c r b a ≠ L) (h : EB c r b a d) : EH c r b L a d := by
  have h1 := EB_cel hd h
  refine ⟨⟨h.1, ha⟩, ⟨h1, fun z => ha ((lw_eq hd (con_one h)).trans z)⟩, ?_⟩
  obtain ⟨u, v, hu, hv, rfl⟩ := cel_xy hd h.1
  have hm2 := dm_xy (c := c) (x := u) (y := v) hu
  obtain ⟨w, hw, n1, n2⟩ := h.2.1
  have nd := nb_d (r := r) hu hv hw
  have hin : inP c r (u + dx w) (v + dy w) := Classical.byContradiction fun q => n2 (n1.symm.trans (nd.2 q))
  have n3 := n1.symm.trans (nd.1 hin)
  have hm3 := dm_xy (c := c) (x := u + dx w) (y := v + dy w) ⟨hin.1, hin.2.1⟩
  unfold near8
  rw [n3, hm3.1, hm3.2, hm2.1, hm2.2]
  rcases dxy_0 hw with ⟨z1, z2, -⟩ | ⟨z1, z2, -⟩ | ⟨z1, z2, -⟩ | ⟨z1, z2, -⟩ <;> rw [z1, z2] <;> omega
theorem con_EH (hd : dim c r) {a d : Int} (ha : lw c r b a ≠ L) (h : con (EB c r b) a d) : con (EH c r b L) a d ∧ lw c r b d ≠ L :=
  con_inv (E := EB c r b) (P := fun x => con (EH c r b L) a x ∧ lw c r b x ≠ L) (fun x y hx e => ⟨con_step hx.1 (EB_EH hd hx.2 e), fun z => hx.2 ((lw_eq hd (con_one e)).trans z)⟩) ⟨con_refl a, ha⟩ h
/-- .. and just if an island lies in one -/
theorem inF_ex (hd : dim c r) : 0 < inF c r b L ↔ ∃ k, cel c r k ∧ lw c r b k ≠ L ∧ inr c r b L k := by
  have hc := dim_cells hd
  constructor
  · intro h
    obtain ⟨k, h1, h2⟩ := cntK_ex h
    have h2 := tr_t.mp h2
    exact ⟨k, ⟨by omega, by omega⟩, by rw [h2.1]; exact h2.2.1, h2.2.2⟩
  · rintro ⟨k, hk, h1, h2⟩
    have a := lw_ok (B := b) hd hk
    have d := con_EH hd h1 a.2.2.1
    have e : tr (lw c r b (lw c r b k) = lw c r b k ∧ lw c r b k ≠ L ∧ inr c r b L (lw c r b k)) = true := tr_t.mpr ⟨lw_lw hd hk, h1, (inr_con d.1).mp h2⟩
    exact cntK_pos (p := fun j => tr (lw c r b j = j ∧ j ≠ L ∧ inr c r b L j)) (k := (lw c r b k).toNat) (by rw [Int.toNat_of_nonneg a.1.1]; exact e) (c * r).toNat (by have := a.1.2; omega)
/-- the outline is shorter than all sides just if there is a hole -/
theorem out_hole (hd : dim c r) (hL : cel c r L) (hl : lw c r b L = L) : 0 < hoF c r b L ↔ oN1 c r b L < soK c r b L (c * r).toNat + esK c r b L (c * r).toNat := by
  rw [hoF_ex hd]
  constructor
  · rintro ⟨k, hk, h1, h2⟩
    obtain ⟨e, h3, h4, h5⟩ := hole_side hd hL hl hk h1 h2
    exact out_lt hd hL hl h3 h4 h5
  · intro h
    refine Classical.byContradiction fun z => ?_
    have hno : ∀ k, cel c r k → lw c r b k ≠ L → ¬ inr c r b L k := fun k hk h1 h2 => z ⟨k, hk, h1, h2⟩
    have := out_eq hd hL hl fun e he hs => by
      obtain ⟨q, h1, h2⟩ := sd_q hd ⟨by omega, by omega⟩ hs
      rw [← h2]
      exact onW_e hd hL hl (all_W hd hL hl hno h1)
    omega
end HW
