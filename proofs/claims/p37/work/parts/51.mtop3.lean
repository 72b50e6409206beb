/-! MODEL's face: islands, outlines, borders told. -/
section MP3
variable {l : Launch} {rf sz : Int} {S : St} {ac : Int} {B I : Int → Int} {m : Int} {Fi Co Br Wt mk gy : Int → Int} {S2 : St} {tx di ke ik ea : Int → Int} {sd rt lf wy sp ou : Int}
/-- which exception: an island and a number of it -/
noncomputable def kIsle (S : St) (i what hi : Int) : Int := if ¬ (0 ≤ i ∧ i < mS S) then 1 else if 0 ≤ what ∧ what ≤ hi then 0 else 2
noncomputable abbrev fS (S : St) (i : Int) : Int := fo (sC S) (sR S) (bS S) i
noncomputable def aIsland (S : St) (i what : Int) : Int :=
  if what = 0 then fS S i else if what = 1 then siz (sC S) (sR S) (bS S) (fS S i) else if what = 2 then bS S (fS S i) else if what = 3 then soK (sC S) (sR S) (bS S) (fS S i) (sC S * sR S).toNat else if what = 4 then esK (sC S) (sR S) (bS S) (fS S i) (sC S * sR S).toNat else if what = 5 then cntK (fun j => decide (0 < brd (sC S) (sR S) (bS S) (fS S i) j)) (sC S * sR S).toNat else if what = 6 then hoF (sC S) (sR S) (bS S) (fS S i) else if what = 7 then moN (sC S) (sR S) (bS S) (fS S i) (mS S).toNat else inF (sC S) (sR S) (bS S) (fS S i)
theorem kIsle_rg {i what hi : Int} : 0 ≤ kIsle S i what hi ∧ kIsle S i what hi ≤ 2 := by
  unfold kIsle
  repeat' split
  all_goals omega
theorem kIsle_0 {i what hi : Int} (h : kIsle S i what hi = 0) : (0 ≤ i ∧ i < mS S) ∧ 0 ≤ what ∧ what ≤ hi := by
  unfold kIsle at h
  repeat' split at h
  all_goals omega
theorem fS_ok (hS : SV S) {i : Int} (h : 0 ≤ i ∧ i < mS S) : cel (sC S) (sR S) (fS S i) ∧ lw (sC S) (sR S) (bS S) (fS S i) = fS S i ∧ rk (sC S) (sR S) (bS S) (fS S i) = i := fo_ok hS.1 h.1 h.2
noncomputable def aOutline (S : St) (i what : Int) : Int :=
  if what = 0 then oN1 (sC S) (sR S) (bS S) (fS S i) else if what = 1 then oR (inI (sC S) (sR S) (bS S) (fS S i)) (o0 (sC S) (fS S i)) (oN1 (sC S) (sR S) (bS S) (fS S i)).toNat else oL (inI (sC S) (sR S) (bS S) (fS S i)) (o0 (sC S) (fS S i)) (oN1 (sC S) (sR S) (bS S) (fS S i)).toNat
noncomputable abbrev wS1 (S : St) (i a : Int) : Int := oA (inI (sC S) (sR S) (bS S) (fS S i)) (o0 (sC S) (fS S i)) a (oN1 (sC S) (sR S) (bS S) (fS S i)).toNat
noncomputable def kWay (S : St) (i k : Int) : Int := if (0 ≤ i ∧ i < mS S) ∧ 0 ≤ k ∧ k < oN1 (sC S) (sR S) (bS S) (fS S i) then 0 else 1
noncomputable def kBor (S : St) (i j : Int) : Int := if (0 ≤ i ∧ i < mS S) ∧ 0 ≤ j ∧ j < mS S then 0 else 1
end MP3
