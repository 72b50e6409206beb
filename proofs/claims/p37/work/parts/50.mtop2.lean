/-! MODEL's face: what there is of islands. -/
section MP2
variable {l : Launch} {rf sz : Int} {S : St} {ac : Int} {B I : Int → Int} {m : Int} {Fi Co Br Wt mk gy : Int → Int} {S2 : St} {tx di ke ik ea : Int → Int} {sd rt lf wy sp ou : Int} {c r : Int} {b : Int → Int}
/-- the bands of a state's islands; how many islands -/
noncomputable def bS (S : St) : Int → Int := fb (sC S) (sR S) (sT S) (sN S) (sG S) (sE S)
noncomputable def mS (S : St) : Int := mny (sC S) (sR S) (bS S)
abbrev JS (S : St) (B I Fi Co : Int → Int) : Prop := JW (sC S) (sR S) (bS S) B I (mS S) Fi Co
theorem SV_rg (h : SV S) : (∀ i, rg (sG S i)) ∧ rg (sE S) := ⟨fun i => by have := h.2.1 i; unfold rg; omega, by have := h.2.2.2.2.2; unfold rg; omega⟩
/-- sides with others, of all cells of an island -/
noncomputable def soK (c r : Int) (b : Int → Int) (L : Int) (N : Nat) : Int := sumK (fun k => if lw c r b k = L then osK c r b k 4 else 0) N
theorem sumK_add (f g : Int → Int) : ∀ N : Nat, sumK (fun j => f j + g j) N = sumK f N + sumK g N
  | 0 => rfl
  | N + 1 => by simp only [sumK]; rw [sumK_add f g N]; omega
theorem sumK_swap (f : Int → Int → Int) (M : Nat) : ∀ N : Nat, sumK (fun j => sumK (fun k => f j k) N) M = sumK (fun k => sumK (fun j => f j k) M) N
  | 0 => by
    simp only [sumK]
    have : ∀ M : Nat, sumK (fun _ => (0 : Int)) M = 0 := fun M => by
      induction M with
      | zero => rfl
      | succ M ih => simp only [sumK]; omega
    exact this M
  | N + 1 => by
    simp only [sumK]
    rw [← sumK_swap f M N, sumK_add]
theorem sumK_if (p : Prop) [Decidable p] (f : Int → Int) (M : Nat) : sumK (fun j => if p then f j else 0) M = if p then sumK f M else 0 := by
  by_cases h : p
  · simp only [if_pos h]
  · simp only [if_neg h]
    induction M with
    | zero => rfl
    | succ M ih => simp only [sumK]; omega
theorem sum_cnt (q : Int → Int) (P : Int → Prop) [DecidablePred P] {M : Nat} (hq : ∀ w : Int, P w → 0 ≤ q w ∧ q w < M) : ∀ W : Nat, sumK (fun j => cntK (fun w => decide (P w ∧ q w = j)) W) M = cntK (fun w => decide (P w)) W
  | 0 => by
    simp only [cntK]
    induction M with
    | zero => rfl
    | succ M _ =>
      have : ∀ M : Nat, sumK (fun _ => (0 : Int)) M = 0 := fun M => by
        induction M with
        | zero => rfl
        | succ M ih => simp only [sumK]; omega
      exact this _
  | W + 1 => by
    have ih := sum_cnt q P hq W
    have one : ∀ (a : Int), sumK (fun j => if P W ∧ q W = j then (1 : Int) else 0) M = if P W then 1 else 0 := fun _ => by
      by_cases hp : P W
      · obtain ⟨h1, h2⟩ := hq W hp
        rw [if_pos hp]
        have key : ∀ M : Nat, sumK (fun j => if P W ∧ q W = j then (1 : Int) else 0) M = if q W < M then 1 else 0 := fun M => by
          induction M with
          | zero => rw [if_neg (by omega)]; rfl
          | succ M ih =>
            simp only [sumK]
            rw [ih]
            by_cases e : q W = M
            · rw [if_neg (by omega), if_pos ⟨hp, e⟩, if_pos (by omega)]; rfl
            · rw [if_neg (fun z : P W ∧ q W = M => e z.2)]
              by_cases f : q W < M
              · rw [if_pos f, if_pos (by omega)]; rfl
              · rw [if_neg f, if_neg (by omega)]; rfl
        rw [key M, if_pos h2]
      · rw [if_neg hp]
        have : (fun j : Int => if P W ∧ q W = j then (1 : Int) else 0) = fun _ => 0 := by funext j; exact if_neg (fun z => hp z.1)
        rw [this]
        have : ∀ M : Nat, sumK (fun _ => (0 : Int)) M = 0 := fun M => by
          induction M with
          | zero => rfl
          | succ M ih => simp only [sumK]; omega
        exact this M
    have e : (fun j : Int => cntK (fun w => decide (P w ∧ q w = j)) (W + 1)) = fun j => cntK (fun w => decide (P w ∧ q w = j)) W + if P W ∧ q W = j then 1 else 0 := by
      funext j
      by_cases h : P W ∧ q W = j
      · rw [if_pos h]; exact cntK_t (p := fun w => decide (P w ∧ q w = j)) (decide_eq_true h)
      · rw [if_neg h, Int.add_zero]; exact cntK_f (p := fun w => decide (P w ∧ q w = j)) (decide_eq_false h)
    rw [e, sumK_add, ih, one 0]
    by_cases hp : P W
    · rw [if_pos hp]; exact (cntK_t (p := fun w => decide (P w)) (decide_eq_true hp)).symm
    · rw [if_neg hp, Int.add_zero]; exact (cntK_f (p := fun w => decide (P w)) (decide_eq_false hp)).symm
theorem so_brd (hd : dim c r) (L : Int) : sumK (fun j => brd c r b L j) (c * r).toNat = soK c r b L (c * r).toNat := by
  have hc := dim_cells hd
  unfold brd
  rw [sumK_swap (fun j k => if lw c r b k = L then cntK (fun w => decide (nb c r k w ≠ -1 ∧ lw c r b (nb c r k w) ≠ L ∧ lw c r b (nb c r k w) = j)) 4 else 0)]
  refine sumK_congr _ fun k hk => ?_
  rw [sumK_if]
  by_cases e : lw c r b k = L
  · rw [if_pos e, if_pos e]
    have h1 := sum_cnt (fun w => lw c r b (nb c r k w)) (fun w => (0 ≤ w ∧ w < 4) ∧ nb c r k w ≠ -1 ∧ lw c r b (nb c r k w) ≠ L) (M := (c * r).toNat) (fun w hw => by
      have := (nb_back hd (k := k) ⟨by omega, by omega⟩ hw.1 hw.2.1).1
      have := (lw_ok (B := b) hd this).1
      have a := this.1; have d := this.2
      omega) 4
    have e1 : ∀ j : Int, cntK (fun w => decide (nb c r k w ≠ -1 ∧ lw c r b (nb c r k w) ≠ L ∧ lw c r b (nb c r k w) = j)) 4 = cntK (fun w => decide (((0 ≤ w ∧ w < 4) ∧ nb c r k w ≠ -1 ∧ lw c r b (nb c r k w) ≠ L) ∧ lw c r b (nb c r k w) = j)) 4 := fun j => cntK_congr 4 fun w hw => by
      by_cases z : nb c r k w ≠ -1 ∧ lw c r b (nb c r k w) ≠ L ∧ lw c r b (nb c r k w) = j
      · rw [decide_eq_true z]; exact (decide_eq_true ⟨⟨by omega, z.1, z.2.1⟩, z.2.2⟩).symm
      · rw [decide_eq_false z]; exact (decide_eq_false fun y => z ⟨y.1.2.1, y.1.2.2, y.2⟩).symm
    rw [show (fun j => cntK (fun w => decide (nb c r k w ≠ -1 ∧ lw c r b (nb c r k w) ≠ L ∧ lw c r b (nb c r k w) = j)) 4) = _ from funext e1, h1]
    unfold osK
    refine cntK_congr 4 fun w hw => ?_
    by_cases z : nb c r k w ≠ -1 ∧ lw c r b (nb c r k w) ≠ L
    · rw [decide_eq_true (⟨by omega, z⟩ : (0 ≤ (w : Int) ∧ (w : Int) < 4) ∧ nb c r k w ≠ -1 ∧ lw c r b (nb c r k w) ≠ L)]
      exact (decide_eq_true (by rw [e]; exact z)).symm
    · rw [decide_eq_false (fun y : (0 ≤ (w : Int) ∧ (w : Int) < 4) ∧ nb c r k w ≠ -1 ∧ lw c r b (nb c r k w) ≠ L => z y.2)]
      exact (decide_eq_false (by rw [e]; exact z)).symm
  · rw [if_neg e, if_neg e]
theorem cnt_brd (hd : dim c r) (L : Int) : cnP c r b (fun j => 0 < brd c r b L j) (mny c r b) = cntK (fun j => decide (0 < brd c r b L j)) (c * r).toNat := by
  rw [cnP_all hd]
  refine cntK_congr _ fun j hj => ?_
  by_cases z : 0 < brd c r b L j
  · rw [decide_eq_true z]; exact decide_eq_true ⟨brd_first hd z, z⟩
  · rw [decide_eq_false z]; exact decide_eq_false fun y => z y.2
end MP2
