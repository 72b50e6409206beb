/-! MODEL: a turn of simulate. -/
section MQ2
variable {l : Launch} {rf sz : Int} {S : St} {ac : Int} {B I : Int → Int} {m : Int} {Fi Co Br Wt mk gy : Int → Int} {S2 : St} {tx di ke ik ea : Int → Int} {sd rt lf wy sp ou : Int}
/-- what a turn with n does -/
def tnF (S : St) (n : Int) : St :=
  if n % 8 ≤ 2 then stP S (n / 8 % 12) (n / 8 / 12 % 12) (n / 8 / 144 % 100)
  else if n % 8 = 3 then stB S (n / 8 % 12) (n / 8 % 12 + n / 8 / 144 % 4) (n / 8 / 12 % 12) (n / 8 / 12 % 12 + n / 8 / 576 % 4) (n / 8 / 2304 % 100)
  else if n % 8 = 4 then stT S (1 + n / 8 % 99) (if n / 8 / 128 % 2 = 0 then 1 else 0)
  else if n % 8 = 5 then (if n / 8 / 32 % 3 = 0 then stL S (1 + n / 8 % 30) else gI S)
  else if n % 8 = 6 then gU S else gQ S (1 + n / 8 % 49)
theorem tn_p {n : Int} (h : n % 8 ≤ 2) : tnF S n = stP S (n / 8 % 12) (n / 8 / 12 % 12) (n / 8 / 144 % 100) := if_pos h
theorem tn_3 {n : Int} (h : n % 8 = 3) : tnF S n = stB S (n / 8 % 12) (n / 8 % 12 + n / 8 / 144 % 4) (n / 8 / 12 % 12) (n / 8 / 12 % 12 + n / 8 / 576 % 4) (n / 8 / 2304 % 100) := by
  unfold tnF; rw [if_neg (by omega), if_pos h]
theorem tn_4 {n : Int} (h : n % 8 = 4) : tnF S n = stT S (1 + n / 8 % 99) (if n / 8 / 128 % 2 = 0 then 1 else 0) := by
  unfold tnF; rw [if_neg (by omega), if_neg (by omega), if_pos h]
theorem tn_5 {n : Int} (h : n % 8 = 5) : tnF S n = if n / 8 / 32 % 3 = 0 then stL S (1 + n / 8 % 30) else gI S := by
  unfold tnF; rw [if_neg (by omega), if_neg (by omega), if_neg (by omega), if_pos h]
theorem tn_6 {n : Int} (h : n % 8 = 6) : tnF S n = gU S := by
  unfold tnF; rw [if_neg (by omega), if_neg (by omega), if_neg (by omega), if_neg (by omega), if_pos h]
theorem tn_7 {n : Int} (h : n % 8 = 7) : tnF S n = gQ S (1 + n / 8 % 49) := by
  unfold tnF; rw [if_neg (by omega), if_neg (by omega), if_neg (by omega), if_neg (by omega), if_neg (by omega)]
theorem SV_tnF {n : Int} (h : SV S) : SV (tnF S n) := by
  unfold tnF
  repeat' split
  · exact SV_stP h
  · exact SV_stB h
  · exact SV_stT h
  · exact SV_stT h
  · exact SV_stL h
  · exact SV_gI h
  · exact SV_gU h
  · exact SV_gQ h (by omega)
end MQ2
