/-! THE LAW: what holds on each plate: an island's numbers. Printed by wip/p37/gen/mkhold.py. -/
section HO6
variable {c r L : Int} {b : Int → Int}
theorem moN_sp (x : Int) : ∀ i : Nat, moN c r b x i ≠ -1 → fo c r b (moN c r b x i) ≠ x ∧ inr c r b (fo c r b (moN c r b x i)) x
  | 0, h => absurd rfl h
  | i + 1, h => by
    have ih := moN_sp x i
    simp only [moN] at h ⊢
    split
    · rename_i hh
      exact (tr_t.mp hh).1
    · rename_i hh
      rw [if_neg hh] at h
      exact ih h
theorem nb_in (hd : dim c r) {k w : Int} (hk : cel c r k) (he : ¬ edg c r k) (hw : 0 ≤ w ∧ w < 4) : nb c r k w ≠ -1 := by
  obtain ⟨x, y, hx, hy, rfl⟩ := cel_xy hd hk
  have hm := dm_xy (c := c) (x := x) (y := y) hx
  unfold edg at he
  rw [hm.1, hm.2] at he
  have nd := nb_d (r := r) hx hy hw
  have hin : inP c r (x + dx w) (y + dy w) := by
    unfold inP
    rcases dxy_0 hw with ⟨z1, z2, -⟩ | ⟨z1, z2, -⟩ | ⟨z1, z2, -⟩ | ⟨z1, z2, -⟩ <;> rw [z1, z2] <;> omega
  rw [nd.1 hin]
  have := (xy_cel hd (x := x + dx w) (y := y + dy w) ⟨hin.1, hin.2.1⟩ ⟨hin.2.2.1, hin.2.2.2⟩).1
  omega
/-- an island that lies in a hole of another -/
theorem mother_ok (hd : dim c r) {x q : Int} (hx : cel c r x) (hl : lw c r b x = x) (hL : q ≠ x) (hi : inr c r b q x) : esK c r b x (c * r).toNat = 0 ∧ 0 < inF c r b q ∧ 8 ≤ siz c r b q := by
  have hc := dim_cells hd
  have hne : lw c r b x ≠ q := fun z => hL (z.symm.trans hl)
  refine ⟨?_, (inF_ex hd).mpr ⟨x, hx, hne, hi⟩, siz_8 hd hx hne hi⟩
  unfold esK
  refine sumK_0 _ fun k hk => ?_
  by_cases z : lw c r b k = x
  · rw [if_pos z]
    have hk1 : cel c r (k : Int) := ⟨by omega, by omega⟩
    have hkx := (lw_ok (B := b) hd hk1).2.2.1
    rw [z] at hkx
    have hcon := con_EH (L := q) hd (by rw [z]; exact fun y => hL y.symm) hkx
    have he : ¬ edg c r k := ((inr_con hcon.1).mpr hi) k (con_refl _)
    unfold egK
    exact cntK_none fun w hw => decide_eq_false (nb_in hd hk1 he (by omega))
  · rw [if_neg z]
theorem soK_rg (hd : dim c r) : 0 ≤ soK c r b L (c * r).toNat ∧ soK c r b L (c * r).toNat ≤ 576 := by
  have hc := dim_cells hd
  have := sumK_rg (f := fun k => if lw c r b k = L then osK c r b k 4 else 0) (d := 4) (fun k => by
    have := osK_rg (c := c) (r := r) (b := b) k 4
    split <;> omega) (c * r).toNat
  unfold soK
  omega
theorem esK_rg (hd : dim c r) : 0 ≤ esK c r b L (c * r).toNat ∧ esK c r b L (c * r).toNat ≤ 576 := by
  have hc := dim_cells hd
  have := sumK_rg (f := fun k => if lw c r b k = L then egK c r k 4 else 0) (d := 4) (fun k => by
    have := cntK_rg (fun w => decide (nb c r k w = -1)) 4
    show 0 ≤ (if lw c r b k = L then egK c r k 4 else 0) ∧ (if lw c r b k = L then egK c r k 4 else 0) ≤ 4
    unfold egK
    split <;> omega) (c * r).toNat
  unfold esK
  omega
theorem inF_rg (hd : dim c r) (L : Int) : 0 ≤ inF c r b L ∧ inF c r b L ≤ 144 := by
  have hc := dim_cells hd
  have := cntK_rg (fun j => tr (lw c r b j = j ∧ j ≠ L ∧ inr c r b L j)) (c * r).toNat
  unfold inF; omega
variable {S : St}
theorem isl_ok (hS : SV S) {i : Int} (hi : 0 ≤ i ∧ i < mS S) :
    (aOutline S i 1 = aOutline S i 2 + 4 ∧ 0 ≤ aOutline S i 2 ∧ aOutline S i 2 ≤ 576) ∧ (1 ≤ aOutline S i 0 ∧ aOutline S i 0 ≤ 576) ∧ (0 ≤ aIsland S i 3 ∧ aIsland S i 3 ≤ 576) ∧ (0 ≤ aIsland S i 4 ∧ aIsland S i 4 ≤ 576) ∧ aOutline S i 0 ≤ aIsland S i 3 + aIsland S i 4 ∧
    (0 ≤ aIsland S i 6 ∧ aIsland S i 6 ≤ 144) ∧ (0 ≤ aIsland S i 8 ∧ aIsland S i 8 ≤ 144) ∧ (0 < aIsland S i 6 ↔ 0 < aIsland S i 8) ∧ (0 < aIsland S i 6 ↔ aOutline S i 0 < aIsland S i 3 + aIsland S i 4) ∧
    (aIsland S i 7 = -1 ∨ ((0 ≤ aIsland S i 7 ∧ aIsland S i 7 < mS S) ∧ aIsland S i 4 = 0 ∧ 0 < aIsland S (aIsland S i 7) 8 ∧ 1 < aIsland S (aIsland S i 7) 1)) := by
  have hd := hS.1
  have hf := fo_ok (b := bS S) hd hi.1 hi.2
  have ho := oN1_ok (b := bS S) hd hf.1 hf.2.1
  have ht := out_turn (b := bS S) hd hf.1 hf.2.1
  have hR := oR_rg (P := inI (sC S) (sR S) (bS S) (fS S i)) (q := o0 (sC S) (fS S i)) (oN1 (sC S) (sR S) (bS S) (fS S i)).toNat
  have e3 : aIsland S i 3 = soK (sC S) (sR S) (bS S) (fS S i) (sC S * sR S).toNat := rfl
  have e4 : aIsland S i 4 = esK (sC S) (sR S) (bS S) (fS S i) (sC S * sR S).toNat := rfl
  have e6 : aIsland S i 6 = hoF (sC S) (sR S) (bS S) (fS S i) := rfl
  have e7 : aIsland S i 7 = moN (sC S) (sR S) (bS S) (fS S i) (mS S).toNat := rfl
  have e8 : ∀ j, aIsland S j 8 = inF (sC S) (sR S) (bS S) (fS S j) := fun _ => rfl
  have e1 : ∀ j, aIsland S j 1 = siz (sC S) (sR S) (bS S) (fS S j) := fun _ => rfl
  have o0' : aOutline S i 0 = oN1 (sC S) (sR S) (bS S) (fS S i) := by unfold aOutline; rw [if_pos rfl]
  have o1' : aOutline S i 1 = oR (inI (sC S) (sR S) (bS S) (fS S i)) (o0 (sC S) (fS S i)) (oN1 (sC S) (sR S) (bS S) (fS S i)).toNat := by unfold aOutline; rw [if_neg (by decide), if_pos rfl]
  have o2' : aOutline S i 2 = oL (inI (sC S) (sR S) (bS S) (fS S i)) (o0 (sC S) (fS S i)) (oN1 (sC S) (sR S) (bS S) (fS S i)).toNat := by unfold aOutline; rw [if_neg (by decide), if_neg (by decide)]
  have hb2 : oL (inI (sC S) (sR S) (bS S) (fS S i)) (o0 (sC S) (fS S i)) (oN1 (sC S) (sR S) (bS S) (fS S i)).toNat ≤ 576 := by
    have q1 : oN1 (sC S) (sR S) (bS S) (fS S i) ≤ 576 := ho.2.1
    have q2 := hR.2.2
    omega
  rw [e3, e4, e6, e8, o0', o1', o2']
  refine ⟨⟨ht, hR.2.1, hb2⟩, ⟨ho.1, ho.2.1⟩, soK_rg hd, esK_rg hd, out_le hd hf.1 hf.2.1, hoF_rg hd _, inF_rg hd _, (hoF_ex hd).trans (inF_ex hd).symm, out_hole hd hf.1 hf.2.1, ?_⟩
  rw [e7]
  by_cases z : moN (sC S) (sR S) (bS S) (fS S i) (mS S).toNat = -1
  · exact Or.inl z
  · right
    have h1 := moN_rg (c := sC S) (r := sR S) (b := bS S) (fS S i) (mS S).toNat
    have h2 := moN_sp (c := sC S) (r := sR S) (b := bS S) (fS S i) (mS S).toNat z
    have h3 := mother_ok (b := bS S) hd hf.1 hf.2.1 h2.1 h2.2
    rw [e8, e1]
    exact ⟨by rcases h1 with y | y; exact absurd y z; exact ⟨y.1, by omega⟩, h3.1, h3.2.1, by have := h3.2.2; show 1 < siz (sC S) (sR S) (bS S) (fo (sC S) (sR S) (bS S) _); omega⟩
theorem ink_ok (hS : SV S) : aInk S = sI S * sumK (s2 (sC S) (sR S) (bS S)) (sC S * sR S).toNat + sumK (fun u => cntK (fun j => decide (bS S j = u)) (sC S * sR S).toNat * sH S u) (sN S + 1) := by
  have hd := hS.1
  show sI S * (asK (sC S) (sR S) (bS S) (sC S * sR S).toNat / 2) + sumK (fun k => sH S (bS S k)) (sC S * sR S).toNat = _
  rw [sides_ok hd, sum_bands (b := bS S) (sH S) (m := sN S + 1) (fun k => by have := bS_rg S k; omega)]
end HO6
