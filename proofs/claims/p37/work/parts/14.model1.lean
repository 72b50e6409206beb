/-! MODEL's rows: a state in 160 numbers. -/
def rowOf (c r : Int) (G T : Int → Int) (n le : Int) (Hh : Int → Int) (li : Int) : Int → Int := fun j =>
  if j = 0 then c else if j = 1 then r else if j = 2 then n else if j < 8 then T (j - 3) else if j = 8 then le else if j < 15 then Hh (j - 9) else if j = 15 then li else G (j - 16)
section MR
variable {X : Cx} {cc : ByteArray} {own : String} {ret : Option FieldType} {rm : Room} {post : Option Value → List va_E → Prop} {mc ms kc ks pc q : Nat} {L : List (Option Value)} {st : List Value} {M : List va_E}
variable {c r n le li v : Int} {G T Hh : Int → Int}
theorem a_rldC (ok : OK X cc own ret rm post mc ms) (hd : decode cc pc = .ok (.iaload, 1)) (he : M[q]? = some (ia 160 (rowOf c r G T n le Hh li))) (k : AW X kc ks (pc + 1) L (iv c :: st) M) : AW X kc ks pc L (iv 0 :: .ref q :: st) M := by
  refine a_iald ok hd he (by omega) (by omega) ?_
  rw [show rowOf c r G T n le Hh li 0 = c from by simp [rowOf]]; exact k
theorem a_rstC (ok : OK X cc own ret rm post mc ms) (hd : decode cc pc = .ok (.iastore, 1)) (he : M[q]? = some (ia 160 (rowOf c r G T n le Hh li))) (k : AW X kc ks (pc + 1) L st (M.set q (ia 160 (rowOf v r G T n le Hh li)))) : AW X kc ks pc L (iv v :: iv 0 :: .ref q :: st) M := by
  refine a_iast ok hd he (by omega) (by omega) ?_
  rw [show up (rowOf c r G T n le Hh li) 0 v = rowOf v r G T n le Hh li from by funext j; simp only [up, rowOf]; (repeat' split) <;> first | rfl | omega]; exact k
theorem a_rldR (ok : OK X cc own ret rm post mc ms) (hd : decode cc pc = .ok (.iaload, 1)) (he : M[q]? = some (ia 160 (rowOf c r G T n le Hh li))) (k : AW X kc ks (pc + 1) L (iv r :: st) M) : AW X kc ks pc L (iv 1 :: .ref q :: st) M := by
  refine a_iald ok hd he (by omega) (by omega) ?_
  rw [show rowOf c r G T n le Hh li 1 = r from by simp [rowOf]]; exact k
theorem a_rstR (ok : OK X cc own ret rm post mc ms) (hd : decode cc pc = .ok (.iastore, 1)) (he : M[q]? = some (ia 160 (rowOf c r G T n le Hh li))) (k : AW X kc ks (pc + 1) L st (M.set q (ia 160 (rowOf c v G T n le Hh li)))) : AW X kc ks pc L (iv v :: iv 1 :: .ref q :: st) M := by
  refine a_iast ok hd he (by omega) (by omega) ?_
  rw [show up (rowOf c r G T n le Hh li) 1 v = rowOf c v G T n le Hh li from by funext j; simp only [up, rowOf]; (repeat' split) <;> first | rfl | omega]; exact k
theorem a_rldN (ok : OK X cc own ret rm post mc ms) (hd : decode cc pc = .ok (.iaload, 1)) (he : M[q]? = some (ia 160 (rowOf c r G T n le Hh li))) (k : AW X kc ks (pc + 1) L (iv n :: st) M) : AW X kc ks pc L (iv 2 :: .ref q :: st) M := by
  refine a_iald ok hd he (by omega) (by omega) ?_
  rw [show rowOf c r G T n le Hh li 2 = n from by simp [rowOf]]; exact k
theorem a_rstN (ok : OK X cc own ret rm post mc ms) (hd : decode cc pc = .ok (.iastore, 1)) (he : M[q]? = some (ia 160 (rowOf c r G T n le Hh li))) (k : AW X kc ks (pc + 1) L st (M.set q (ia 160 (rowOf c r G T v le Hh li)))) : AW X kc ks pc L (iv v :: iv 2 :: .ref q :: st) M := by
  refine a_iast ok hd he (by omega) (by omega) ?_
  rw [show up (rowOf c r G T n le Hh li) 2 v = rowOf c r G T v le Hh li from by funext j; simp only [up, rowOf]; (repeat' split) <;> first | rfl | omega]; exact k
theorem a_rldS (ok : OK X cc own ret rm post mc ms) (hd : decode cc pc = .ok (.iaload, 1)) (he : M[q]? = some (ia 160 (rowOf c r G T n le Hh li))) (k : AW X kc ks (pc + 1) L (iv le :: st) M) : AW X kc ks pc L (iv 8 :: .ref q :: st) M := by
  refine a_iald ok hd he (by omega) (by omega) ?_
  rw [show rowOf c r G T n le Hh li 8 = le from by simp [rowOf]]; exact k
theorem a_rstS (ok : OK X cc own ret rm post mc ms) (hd : decode cc pc = .ok (.iastore, 1)) (he : M[q]? = some (ia 160 (rowOf c r G T n le Hh li))) (k : AW X kc ks (pc + 1) L st (M.set q (ia 160 (rowOf c r G T n v Hh li)))) : AW X kc ks pc L (iv v :: iv 8 :: .ref q :: st) M := by
  refine a_iast ok hd he (by omega) (by omega) ?_
  rw [show up (rowOf c r G T n le Hh li) 8 v = rowOf c r G T n v Hh li from by funext j; simp only [up, rowOf]; (repeat' split) <;> first | rfl | omega]; exact k
theorem a_rldL (ok : OK X cc own ret rm post mc ms) (hd : decode cc pc = .ok (.iaload, 1)) (he : M[q]? = some (ia 160 (rowOf c r G T n le Hh li))) (k : AW X kc ks (pc + 1) L (iv li :: st) M) : AW X kc ks pc L (iv 15 :: .ref q :: st) M := by
  refine a_iald ok hd he (by omega) (by omega) ?_
  rw [show rowOf c r G T n le Hh li 15 = li from by simp [rowOf]]; exact k
theorem a_rstL (ok : OK X cc own ret rm post mc ms) (hd : decode cc pc = .ok (.iastore, 1)) (he : M[q]? = some (ia 160 (rowOf c r G T n le Hh li))) (k : AW X kc ks (pc + 1) L st (M.set q (ia 160 (rowOf c r G T n le Hh v)))) : AW X kc ks pc L (iv v :: iv 15 :: .ref q :: st) M := by
  refine a_iast ok hd he (by omega) (by omega) ?_
  rw [show up (rowOf c r G T n le Hh li) 15 v = rowOf c r G T n le Hh v from by funext j; simp only [up, rowOf]; (repeat' split) <;> first | rfl | omega]; exact k
theorem a_rldT (ok : OK X cc own ret rm post mc ms) {i b : Int} (hd : decode cc pc = .ok (.iaload, 1)) (he : M[q]? = some (ia 160 (rowOf c r G T n le Hh li))) (hi : i = 3 + b) (hb : 0 ≤ b ∧ b < 5) (k : AW X kc ks (pc + 1) L (iv (T b) :: st) M) : AW X kc ks pc L (iv i :: .ref q :: st) M := by
  refine a_iald ok hd he (by omega) (by omega) ?_
  rw [show rowOf c r G T n le Hh li i = T b from by simp only [rowOf]; (repeat' split) <;> first | (exfalso; omega) | (congr 1; omega)]; exact k
theorem a_rstT (ok : OK X cc own ret rm post mc ms) {i b : Int} (hd : decode cc pc = .ok (.iastore, 1)) (he : M[q]? = some (ia 160 (rowOf c r G T n le Hh li))) (hi : i = 3 + b) (hb : 0 ≤ b ∧ b < 5) (k : AW X kc ks (pc + 1) L st (M.set q (ia 160 (rowOf c r G (up T b v) n le Hh li)))) : AW X kc ks pc L (iv v :: iv i :: .ref q :: st) M := by
  refine a_iast ok hd he (by omega) (by omega) ?_
  rw [show up (rowOf c r G T n le Hh li) i v = rowOf c r G (up T b v) n le Hh li from by funext j; simp only [up, rowOf]; (repeat' split) <;> first | rfl | omega]; exact k
theorem a_rldH (ok : OK X cc own ret rm post mc ms) {i b : Int} (hd : decode cc pc = .ok (.iaload, 1)) (he : M[q]? = some (ia 160 (rowOf c r G T n le Hh li))) (hi : i = 9 + b) (hb : 0 ≤ b ∧ b < 6) (k : AW X kc ks (pc + 1) L (iv (Hh b) :: st) M) : AW X kc ks pc L (iv i :: .ref q :: st) M := by
  refine a_iald ok hd he (by omega) (by omega) ?_
  rw [show rowOf c r G T n le Hh li i = Hh b from by simp only [rowOf]; (repeat' split) <;> first | (exfalso; omega) | (congr 1; omega)]; exact k
theorem a_rstH (ok : OK X cc own ret rm post mc ms) {i b : Int} (hd : decode cc pc = .ok (.iastore, 1)) (he : M[q]? = some (ia 160 (rowOf c r G T n le Hh li))) (hi : i = 9 + b) (hb : 0 ≤ b ∧ b < 6) (k : AW X kc ks (pc + 1) L st (M.set q (ia 160 (rowOf c r G T n le (up Hh b v) li)))) : AW X kc ks pc L (iv v :: iv i :: .ref q :: st) M := by
  refine a_iast ok hd he (by omega) (by omega) ?_
  rw [show up (rowOf c r G T n le Hh li) i v = rowOf c r G T n le (up Hh b v) li from by funext j; simp only [up, rowOf]; (repeat' split) <;> first | rfl | omega]; exact k
theorem a_rldG (ok : OK X cc own ret rm post mc ms) {i b : Int} (hd : decode cc pc = .ok (.iaload, 1)) (he : M[q]? = some (ia 160 (rowOf c r G T n le Hh li))) (hi : i = 16 + b) (hb : 0 ≤ b ∧ b < 144) (k : AW X kc ks (pc + 1) L (iv (G b) :: st) M) : AW X kc ks pc L (iv i :: .ref q :: st) M := by
  refine a_iald ok hd he (by omega) (by omega) ?_
  rw [show rowOf c r G T n le Hh li i = G b from by simp only [rowOf]; (repeat' split) <;> first | (exfalso; omega) | (congr 1; omega)]; exact k
theorem a_rstG (ok : OK X cc own ret rm post mc ms) {i b : Int} (hd : decode cc pc = .ok (.iastore, 1)) (he : M[q]? = some (ia 160 (rowOf c r G T n le Hh li))) (hi : i = 16 + b) (hb : 0 ≤ b ∧ b < 144) (k : AW X kc ks (pc + 1) L st (M.set q (ia 160 (rowOf c r (up G b v) T n le Hh li)))) : AW X kc ks pc L (iv v :: iv i :: .ref q :: st) M := by
  refine a_iast ok hd he (by omega) (by omega) ?_
  rw [show up (rowOf c r G T n le Hh li) i v = rowOf c r (up G b v) T n le Hh li from by funext j; simp only [up, rowOf]; (repeat' split) <;> first | rfl | omega]; exact k
end MR
theorem bz_iff {p q : Prop} [Decidable p] [Decidable q] (h : p ↔ q) : bz p = bz q := by unfold bz; by_cases hp : p <;> simp [hp, ← h]
section MD1
variable {l : Launch} {c r le li : Int} {G T Hh : Int → Int}
abbrev rwM (c r : Int) (G T : Int → Int) (n le : Int) (Hh : Int → Int) (li : Int) : List va_E := [ia 160 (rowOf c r G T n le Hh li)]
/-- the cell next to a cell: east, south, west, north; -1 beyond the edge -/
def nb (c r k w : Int) : Int := if w = 0 then (if k % c < c - 1 then k + 1 else -1) else if w = 1 then (if k / c < r - 1 then k + c else -1) else if w = 2 then (if 0 < k % c then k - 1 else -1) else (if 0 < k / c then k - c else -1)
theorem dim_k (hd : dim c r) {k : Int} (hk : 0 ≤ k ∧ k < c * r) : 0 ≤ k % c ∧ k % c < c ∧ 0 ≤ k / c ∧ k / c < r ∧ k = k / c * c + k % c := by
  obtain ⟨d1, d2, d3, d4⟩ := hd
  refine ⟨Int.emod_nonneg _ (by omega), Int.emod_lt_of_pos _ (by omega), Int.ediv_nonneg hk.1 (by omega), Int.ediv_lt_of_lt_mul (by omega) (by rw [Int.mul_comm]; exact hk.2), ?_⟩
  have := Int.mul_ediv_add_emod k c
  rw [Int.mul_comm] at this; omega
theorem nb_rg (hd : dim c r) {k w : Int} (hk : 0 ≤ k ∧ k < c * r) : -1 ≤ nb c r k w ∧ nb c r k w < c * r := by
  have h := dim_k hd hk
  have hq := dim_x hd (x := 0) (y := k / c) ⟨h.2.2.1, h.2.2.2.1⟩
  obtain ⟨d1, d2, d3, d4⟩ := hd
  unfold nb
  split
  · split <;> omega
  · split
    · split <;> omega
    · split
      · split <;> omega
      · split <;> omega
end MD1
