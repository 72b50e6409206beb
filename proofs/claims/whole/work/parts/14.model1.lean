/-! MODEL's rows: a state in 160 numbers. -/
def rowOf (c r : Int) (G T : Int → Int) (n le : Int) (Hh : Int → Int) (li : Int) : Int → Int := fun j =>
  if j = 0 then c else if j = 1 then r else if j = 2 then n else if j < 8 then T (j - 3) else if j = 8 then le else if j < 15 then Hh (j - 9) else if j = 15 then li else G (j - 16)
section MR
variable {X : Cx} {cc : ByteArray} {own : String} {ret : Option FieldType} {rm : Room} {post : Option Value → List va_E → Prop} {mc ms kc ks pc q : Nat} {L : List (Option Value)} {st : List Value} {M : List va_E}
variable {c r n le li v : Int} {G T Hh : Int → Int}
theorem a_rldC (ok : OK X cc own ret rm post mc ms) (hd : decode cc pc = .ok (.iaload, 1)) (he : M[q]? = some (ia 160 (rowOf c r G T n le Hh li))) (k : AW X kc ks (pc + 1) L (iv c :: st) M) : AW X kc ks pc L (iv 0 :: .ref q :: st) M := by
  refine a_iald ok hd he (by omega) (by omega) ?_
  rw [show rowOf c r G T n le Hh li 0 = c from by simp [rowOf]]; exact k
theorem a_rstC (ok : OK X cc own ret rm post mc ms) (hd : decode cc pc = .ok (.iastore, 1)) (he : M[q]? = some (ia 160 (rowOf c r G T n le Hh li))) (k : AW X kc ks (pc + 1) L st (M.set q (ia 160 (rowOf v r G T n le Hh li)))) : AW X kc ks pc L (iv v :: iv 0 :: .ref q :: st) M := by
  refine a_iast ok hd he (by omega) (by omega) ?_
  rw [show up (rowOf c r G T n le Hh li) 0 v = rowOf v r G T n le Hh li from by funext j; simp only [up, rowOf]; (repeat' split) <;> first | rfl | omega]; exact k
theorem a_rldR (ok : OK X cc own ret rm post mc ms) (hd : decode cc pc = .ok (.iaload, 1)) (he : M[q]? = some (ia 160 (rowOf c r G T n le Hh li))) (k : AW X kc ks (pc + 1) L (iv r :: st) M) : AW X kc ks pc L (iv 1 :: .ref q :: st) M := by
  refine a_iald ok hd he (by omega) (by omega) ?_
  rw [show rowOf c r G T n le Hh li 1 = r from by simp [rowOf]]; exact k
theorem a_rstR (ok : OK X cc own ret rm post mc ms) (hd : decode cc pc = .ok (.iastore, 1)) (he : M[q]? = some (ia 160 (rowOf c r G T n le Hh li))) (k : AW X kc ks (pc + 1) L st (M.set q (ia 160 (rowOf c v G T n le Hh li)))) : AW X kc ks pc L (iv v :: iv 1 :: .ref q :: st) M := by
  refine a_iast ok hd he (by omega) (by omega) ?_
  rw [show up (rowOf c r G T n le Hh li) 1 v = rowOf c v G T n le Hh li from by funext j; simp only [up, rowOf]; (repeat' split) <;> first | rfl | omega]; exact k
theorem a_rldN (ok : OK X cc own ret rm post mc ms) (hd : decode cc pc = .ok (.iaload, 1)) (he : M[q]? = some (ia 160 (rowOf c r G T n le Hh li))) (k : AW X kc ks (pc + 1) L (iv n :: st) M) : AW X kc ks pc L (iv 2 :: .ref q :: st) M := by
  refine a_iald ok hd he (by omega) (by omega) ?_
  rw [show rowOf c r G T n le Hh li 2 = n from by simp [rowOf]]; exact k
theorem a_rstN (ok : OK X cc own ret rm post mc ms) (hd : decode cc pc = .ok (.iastore, 1)) (he : M[q]? = some (ia 160 (rowOf c r G T n le Hh li))) (k : AW X kc ks (pc + 1) L st (M.set q (ia 160 (rowOf c r G T v le Hh li)))) : AW X kc ks pc L (iv v :: iv 2 :: .ref q :: st) M := by
  refine a_iast ok hd he (by omega) (by omega) ?_
  rw [show up (rowOf c r G T n le Hh li) 2 v = rowOf c r G T v le Hh li from by funext j; simp only [up, rowOf]; (repeat' split) <;> first | rfl | omega]; exact k
theorem a_rldS (ok : OK X cc own ret rm post mc ms) (hd : decode cc pc = .ok (.iaload, 1)) (he : M[q]? = some (ia 160 (rowOf c r G T n le Hh li))) (k : AW X kc ks (pc + 1) L (iv le :: st) M) : AW X kc ks pc L (iv 8 :: .ref q :: st) M := by
  refine a_iald ok hd he (by omega) (by omega) ?_
  rw [show rowOf c r G T n le Hh li 8 = le from by simp [rowOf]]; exact k
theorem a_rstS (ok : OK X cc own ret rm post mc ms) (hd : decode cc pc = .ok (.iastore, 1)) (he : M[q]? = some (ia 160 (rowOf c r G T n le Hh li))) (k : AW X kc ks (pc + 1) L st (M.set q (ia 160 (rowOf c r G T n v Hh li)))) : AW X kc ks pc L (iv v :: iv 8 :: .ref q :: st) M := by
  refine a_iast ok hd he (by omega) (by omega) ?_
  rw [show up (rowOf c r G T n le Hh li) 8 v = rowOf c r G T n v Hh li from by funext j; simp only [up, rowOf]; (repeat' split) <;> first | rfl | omega]; exact k
theorem a_rldL (ok : OK X cc own ret rm post mc ms) (hd : decode cc pc = .ok (.iaload, 1)) (he : M[q]? = some (ia 160 (rowOf c r G T n le Hh li))) (k : AW X kc ks (pc + 1) L (iv li :: st) M) : AW X kc ks pc L (iv 15 :: .ref q :: st) M := by
  refine a_iald ok hd he (by omega) (by omega) ?_
  rw [show rowOf c r G T n le Hh li 15 = li from by simp [rowOf]]; exact k
theorem a_rstL (ok : OK X cc own ret rm post mc ms) (hd : decode cc pc = .ok (.iastore, 1)) (he : M[q]? = some (ia 160 (rowOf c r G T n le Hh li))) (k : AW X kc ks (pc + 1) L st (M.set q (ia 160 (rowOf c r G T n le Hh v)))) : AW X kc ks pc L (iv v :: iv 15 :: .ref q :: st) M := by
  refine a_iast ok hd he (by omega) (by omega) ?_
  rw [show up (rowOf c r G T n le Hh li) 15 v = rowOf c r G T n le Hh v from by funext j; simp only [up, rowOf]; (repeat' split) <;> first | rfl | omega]; exact k
theorem a_rldT (ok : OK X cc own ret rm post mc ms) {i b : Int} (hd : decode cc pc = .ok (.iaload, 1)) (he : M[q]? = some (ia 160 (rowOf c r G T n le Hh li))) (hi : i = 3 + b) (hb : 0 ≤ b ∧ b < 5) (k : AW X kc ks (pc + 1) L (iv (T b) :: st) M) : AW X kc ks pc L (iv i :: .ref q :: st) M := by
  refine a_iald ok hd he (by omega) (by omega) ?_
  rw [show rowOf c r G T n le Hh li i = T b from by simp only [rowOf]; (repeat' split) <;> first | (exfalso; omega) | (congr 1; omega)]; exact k
theorem a_rstT (ok : OK X cc own ret rm post mc ms) {i b : Int} (hd : decode cc pc = .ok (.iastore, 1)) (he : M[q]? = some (ia 160 (rowOf c r G T n le Hh li))) (hi : i = 3 + b) (hb : 0 ≤ b ∧ b < 5) (k : AW X kc ks (pc + 1) L st (M.set q (ia 160 (rowOf c r G (up T b v) n le Hh li)))) : AW X kc ks pc L (iv v :: iv i :: .ref q :: st) M := by
  refine a_iast ok hd he (by omega) (by omega) ?_
  rw [show up (rowOf c r G T n le Hh li) i v = rowOf c r G (up T b v) n le Hh li from by funext j; simp only [up, rowOf]; (repeat' split) <;> first | rfl | omega]; exact k
theorem a_rldH (ok : OK X cc own ret rm post mc ms) {i b : Int} (hd : decode cc pc = .ok (.iaload, 1)) (he : M[q]? = some (ia 160 (rowOf c r G T n le Hh li))) (hi : i = 9 + b) (hb : 0 ≤ b ∧ b < 6) (k : AW X kc ks (pc + 1) L (iv (Hh b) :: st) M) : AW X kc ks pc L (iv i :: .ref q :: st) M := by
  refine a_iald ok hd he (by omega) (by omega) ?_
  rw [show rowOf c r G T n le Hh li i = Hh b from by simp only [rowOf]; (repeat' split) <;> first | (exfalso; omega) | (congr 1; omega)]; exact k
theorem a_rstH (ok : OK X cc own ret rm post mc ms) {i b : Int} (hd : decode cc pc = .ok (.iastore, 1)) (he : M[q]? = some (ia 160 (rowOf c r G T n le Hh li))) (hi : i = 9 + b) (hb : 0 ≤ b ∧ b < 6) (k : AW X kc ks (pc + 1) L st (M.set q (ia 160 (rowOf c r G T n le (up Hh b v) li)))) : AW X kc ks pc L (iv v :: iv i :: .ref q :: st) M := by
  refine a_iast ok hd he (by omega) (by omega) ?_
  rw [show up (rowOf c r G T n le Hh li) i v = rowOf c r G T n le (up Hh b v) li from by funext j; simp only [up, rowOf]; (repeat' split) <;> first | rfl | omega]; exact k
theorem a_rldG (ok : OK X cc own ret rm post mc ms) {i b : Int} (hd : decode cc pc = .ok (.iaload, 1)) (he : M[q]? = some (ia 160 (rowOf c r G T n le Hh li))) (hi : i = 16 + b) (hb : 0 ≤ b ∧ b < 144) (k : AW X kc ks (pc + 1) L (iv (G b) :: st) M) : AW X kc ks pc L (iv i :: .ref q :: st) M := by
  refine a_iald ok hd he (by omega) (by omega) ?_
  rw [show rowOf c r G T n le Hh li i = G b from by simp only [rowOf]; (repeat' split) <;> first | (exfalso; omega) | (congr 1; omega)]; exact k
theorem a_rstG (ok : OK X cc own ret rm post mc ms) {i b : Int} (hd : decode cc pc = .ok (.iastore, 1)) (he : M[q]? = some (ia 160 (rowOf c r G T n le Hh li))) (hi : i = 16 + b) (hb : 0 ≤ b ∧ b < 144) (k : AW X kc ks (pc + 1) L st (M.set q (ia 160 (rowOf c r (up G b v) T n le Hh li)))) : AW X kc ks pc L (iv v :: iv i :: .ref q :: st) M := by
  refine a_iast ok hd he (by omega) (by omega) ?_
  rw [show up (rowOf c r G T n le Hh li) i v = rowOf c r (up G b v) T n le Hh li from by funext j; simp only [up, rowOf]; (repeat' split) <;> first | rfl | omega]; exact k
end MR
theorem bz_iff {p q : Prop} [Decidable p] [Decidable q] (h : p ↔ q) : bz p = bz q := by unfold bz; by_cases hp : p <;> simp [hp, ← h]
section MD1
variable {l : Launch} {c r le li : Int} {G T Hh : Int → Int}
abbrev rwM (c r : Int) (G T : Int → Int) (n le : Int) (Hh : Int → Int) (li : Int) : List va_E := [ia 160 (rowOf c r G T n le Hh li)]
theorem dX7_in_0 : decode cX7_in 0 = .ok (.lload_n 0, 1) := by decide +kernel
theorem dX7_in_1 : decode cX7_in 1 = .ok (.lload_n 2, 1) := by decide +kernel
theorem dX7_in_2 : decode cX7_in 2 = .ok (.lcmp, 1) := by decide +kernel
theorem dX7_in_3 : decode cX7_in 3 = .ok (.ifCond .lt 14, 3) := by decide +kernel
theorem dX7_in_6 : decode cX7_in 6 = .ok (.lload_n 0, 1) := by decide +kernel
theorem dX7_in_7 : decode cX7_in 7 = .ok (.lload 4, 2) := by decide +kernel
theorem dX7_in_9 : decode cX7_in 9 = .ok (.lcmp, 1) := by decide +kernel
theorem dX7_in_10 : decode cX7_in 10 = .ok (.ifCond .gt 7, 3) := by decide +kernel
theorem dX7_in_13 : decode cX7_in 13 = .ok (.iconst 1, 1) := by decide +kernel
theorem dX7_in_14 : decode cX7_in 14 = .ok (.goto 4, 3) := by decide +kernel
theorem dX7_in_17 : decode cX7_in 17 = .ok (.iconst 0, 1) := by decide +kernel
theorem dX7_in_18 : decode cX7_in 18 = .ok (.ireturn, 1) := by decide +kernel
theorem c_in {v a b : Int} (hv : rgL v) (ha : rgL a) (hb : rgL b) : Cd l yX7_in cX7_in 6 (some .boolean) rmX7_in [jv v, jv a, jv b] [] (some (iv (bz (a ≤ v ∧ v ≤ b)))) [] := by
  refine Ct.of miX7_in (Nat.le_of_ble_eq_true rfl) ?_
  intro X hXl hN ok
  refine AW.cast (L2 := [some (jv v), none, some (jv a), none, some (jv b), none]) ?_ rfl rfl rfl
  refine a_lload_n (pc := 0) ok dX7_in_0 rfl ?_
  refine a_lload_n (pc := 1) ok dX7_in_1 rfl ?_
  refine a_lcmp (pc := 2) ok dX7_in_2 (by first | omega | (unfold rgL; omega) | (simp only [rgL] at *; omega) | exact bz_rgL _ | grind [rgL]) (by first | omega | (unfold rgL; omega) | (simp only [rgL] at *; omega) | exact bz_rgL _ | grind [rgL]) (fun c2 => ?_) (fun c2 => ?_) (fun c2 => ?_)
  · refine a_if_lt (pc := 3) (tgt := 17) ok dX7_in_3 (by decide) (by first | omega | (unfold rg; omega) | (simp only [rg] at *; omega) | exact bz_rg _ | grind [rg]) (fun c3 => ?_) (fun c3 => ?_)
    · refine a_iconst (pc := 17) ok dX7_in_17 ?_
      exact a_zret (pc := 18) ok dX7_in_18 (by first | rfl | exact nb_bz _ | decide) (⟨by first | rfl | exact congrArg (fun z => some (iv z)) (bz_pos (by first | omega | grind)).symm | exact congrArg (fun z => some (iv z)) (bz_neg (by first | omega | grind)).symm, rfl⟩)
    · refine a_lload_n (pc := 6) ok dX7_in_6 rfl ?_
      refine a_lload (pc := 7) ok dX7_in_7 rfl ?_
      refine a_lcmp (pc := 9) ok dX7_in_9 (by first | omega | (unfold rgL; omega) | (simp only [rgL] at *; omega) | exact bz_rgL _ | grind [rgL]) (by first | omega | (unfold rgL; omega) | (simp only [rgL] at *; omega) | exact bz_rgL _ | grind [rgL]) (fun c9 => ?_) (fun c9 => ?_) (fun c9 => ?_)
      · refine a_if_gt (pc := 10) (tgt := 17) ok dX7_in_10 (by decide) (by first | omega | (unfold rg; omega) | (simp only [rg] at *; omega) | exact bz_rg _ | grind [rg]) (fun c10 => ?_) (fun c10 => ?_)
        · refine a_iconst (pc := 17) ok dX7_in_17 ?_
          exact a_zret (pc := 18) ok dX7_in_18 (by first | rfl | exact nb_bz _ | decide) (⟨by first | rfl | exact congrArg (fun z => some (iv z)) (bz_pos (by first | omega | grind)).symm | exact congrArg (fun z => some (iv z)) (bz_neg (by first | omega | grind)).symm, rfl⟩)
        · refine a_iconst (pc := 13) ok dX7_in_13 ?_
          refine a_goto (pc := 14) (tgt := 18) ok dX7_in_14 (by decide) ?_
          exact a_zret (pc := 18) ok dX7_in_18 (by first | rfl | exact nb_bz _ | decide) (⟨by first | rfl | exact congrArg (fun z => some (iv z)) (bz_pos (by first | omega | grind)).symm | exact congrArg (fun z => some (iv z)) (bz_neg (by first | omega | grind)).symm, rfl⟩)
      · refine a_if_gt (pc := 10) (tgt := 17) ok dX7_in_10 (by decide) (by first | omega | (unfold rg; omega) | (simp only [rg] at *; omega) | exact bz_rg _ | grind [rg]) (fun c10 => ?_) (fun c10 => ?_)
        · refine a_iconst (pc := 17) ok dX7_in_17 ?_
          exact a_zret (pc := 18) ok dX7_in_18 (by first | rfl | exact nb_bz _ | decide) (⟨by first | rfl | exact congrArg (fun z => some (iv z)) (bz_pos (by first | omega | grind)).symm | exact congrArg (fun z => some (iv z)) (bz_neg (by first | omega | grind)).symm, rfl⟩)
        · refine a_iconst (pc := 13) ok dX7_in_13 ?_
          refine a_goto (pc := 14) (tgt := 18) ok dX7_in_14 (by decide) ?_
          exact a_zret (pc := 18) ok dX7_in_18 (by first | rfl | exact nb_bz _ | decide) (⟨by first | rfl | exact congrArg (fun z => some (iv z)) (bz_pos (by first | omega | grind)).symm | exact congrArg (fun z => some (iv z)) (bz_neg (by first | omega | grind)).symm, rfl⟩)
      · refine a_if_gt (pc := 10) (tgt := 17) ok dX7_in_10 (by decide) (by first | omega | (unfold rg; omega) | (simp only [rg] at *; omega) | exact bz_rg _ | grind [rg]) (fun c10 => ?_) (fun c10 => ?_)
        · refine a_iconst (pc := 17) ok dX7_in_17 ?_
          exact a_zret (pc := 18) ok dX7_in_18 (by first | rfl | exact nb_bz _ | decide) (⟨by first | rfl | exact congrArg (fun z => some (iv z)) (bz_pos (by first | omega | grind)).symm | exact congrArg (fun z => some (iv z)) (bz_neg (by first | omega | grind)).symm, rfl⟩)
        · refine a_iconst (pc := 13) ok dX7_in_13 ?_
          refine a_goto (pc := 14) (tgt := 18) ok dX7_in_14 (by decide) ?_
          exact a_zret (pc := 18) ok dX7_in_18 (by first | rfl | exact nb_bz _ | decide) (⟨by first | rfl | exact congrArg (fun z => some (iv z)) (bz_pos (by first | omega | grind)).symm | exact congrArg (fun z => some (iv z)) (bz_neg (by first | omega | grind)).symm, rfl⟩)
  · refine a_if_lt (pc := 3) (tgt := 17) ok dX7_in_3 (by decide) (by first | omega | (unfold rg; omega) | (simp only [rg] at *; omega) | exact bz_rg _ | grind [rg]) (fun c3 => ?_) (fun c3 => ?_)
    · refine a_iconst (pc := 17) ok dX7_in_17 ?_
      exact a_zret (pc := 18) ok dX7_in_18 (by first | rfl | exact nb_bz _ | decide) (⟨by first | rfl | exact congrArg (fun z => some (iv z)) (bz_pos (by first | omega | grind)).symm | exact congrArg (fun z => some (iv z)) (bz_neg (by first | omega | grind)).symm, rfl⟩)
    · refine a_lload_n (pc := 6) ok dX7_in_6 rfl ?_
      refine a_lload (pc := 7) ok dX7_in_7 rfl ?_
      refine a_lcmp (pc := 9) ok dX7_in_9 (by first | omega | (unfold rgL; omega) | (simp only [rgL] at *; omega) | exact bz_rgL _ | grind [rgL]) (by first | omega | (unfold rgL; omega) | (simp only [rgL] at *; omega) | exact bz_rgL _ | grind [rgL]) (fun c9 => ?_) (fun c9 => ?_) (fun c9 => ?_)
      · refine a_if_gt (pc := 10) (tgt := 17) ok dX7_in_10 (by decide) (by first | omega | (unfold rg; omega) | (simp only [rg] at *; omega) | exact bz_rg _ | grind [rg]) (fun c10 => ?_) (fun c10 => ?_)
        · refine a_iconst (pc := 17) ok dX7_in_17 ?_
          exact a_zret (pc := 18) ok dX7_in_18 (by first | rfl | exact nb_bz _ | decide) (⟨by first | rfl | exact congrArg (fun z => some (iv z)) (bz_pos (by first | omega | grind)).symm | exact congrArg (fun z => some (iv z)) (bz_neg (by first | omega | grind)).symm, rfl⟩)
        · refine a_iconst (pc := 13) ok dX7_in_13 ?_
          refine a_goto (pc := 14) (tgt := 18) ok dX7_in_14 (by decide) ?_
          exact a_zret (pc := 18) ok dX7_in_18 (by first | rfl | exact nb_bz _ | decide) (⟨by first | rfl | exact congrArg (fun z => some (iv z)) (bz_pos (by first | omega | grind)).symm | exact congrArg (fun z => some (iv z)) (bz_neg (by first | omega | grind)).symm, rfl⟩)
      · refine a_if_gt (pc := 10) (tgt := 17) ok dX7_in_10 (by decide) (by first | omega | (unfold rg; omega) | (simp only [rg] at *; omega) | exact bz_rg _ | grind [rg]) (fun c10 => ?_) (fun c10 => ?_)
        · refine a_iconst (pc := 17) ok dX7_in_17 ?_
          exact a_zret (pc := 18) ok dX7_in_18 (by first | rfl | exact nb_bz _ | decide) (⟨by first | rfl | exact congrArg (fun z => some (iv z)) (bz_pos (by first | omega | grind)).symm | exact congrArg (fun z => some (iv z)) (bz_neg (by first | omega | grind)).symm, rfl⟩)
        · refine a_iconst (pc := 13) ok dX7_in_13 ?_
          refine a_goto (pc := 14) (tgt := 18) ok dX7_in_14 (by decide) ?_
          exact a_zret (pc := 18) ok dX7_in_18 (by first | rfl | exact nb_bz _ | decide) (⟨by first | rfl | exact congrArg (fun z => some (iv z)) (bz_pos (by first | omega | grind)).symm | exact congrArg (fun z => some (iv z)) (bz_neg (by first | omega | grind)).symm, rfl⟩)
      · refine a_if_gt (pc := 10) (tgt := 17) ok dX7_in_10 (by decide) (by first | omega | (unfold rg; omega) | (simp only [rg] at *; omega) | exact bz_rg _ | grind [rg]) (fun c10 => ?_) (fun c10 => ?_)
        · refine a_iconst (pc := 17) ok dX7_in_17 ?_
          exact a_zret (pc := 18) ok dX7_in_18 (by first | rfl | exact nb_bz _ | decide) (⟨by first | rfl | exact congrArg (fun z => some (iv z)) (bz_pos (by first | omega | grind)).symm | exact congrArg (fun z => some (iv z)) (bz_neg (by first | omega | grind)).symm, rfl⟩)
        · refine a_iconst (pc := 13) ok dX7_in_13 ?_
          refine a_goto (pc := 14) (tgt := 18) ok dX7_in_14 (by decide) ?_
          exact a_zret (pc := 18) ok dX7_in_18 (by first | rfl | exact nb_bz _ | decide) (⟨by first | rfl | exact congrArg (fun z => some (iv z)) (bz_pos (by first | omega | grind)).symm | exact congrArg (fun z => some (iv z)) (bz_neg (by first | omega | grind)).symm, rfl⟩)
  · refine a_if_lt (pc := 3) (tgt := 17) ok dX7_in_3 (by decide) (by first | omega | (unfold rg; omega) | (simp only [rg] at *; omega) | exact bz_rg _ | grind [rg]) (fun c3 => ?_) (fun c3 => ?_)
    · refine a_iconst (pc := 17) ok dX7_in_17 ?_
      exact a_zret (pc := 18) ok dX7_in_18 (by first | rfl | exact nb_bz _ | decide) (⟨by first | rfl | exact congrArg (fun z => some (iv z)) (bz_pos (by first | omega | grind)).symm | exact congrArg (fun z => some (iv z)) (bz_neg (by first | omega | grind)).symm, rfl⟩)
    · refine a_lload_n (pc := 6) ok dX7_in_6 rfl ?_
      refine a_lload (pc := 7) ok dX7_in_7 rfl ?_
      refine a_lcmp (pc := 9) ok dX7_in_9 (by first | omega | (unfold rgL; omega) | (simp only [rgL] at *; omega) | exact bz_rgL _ | grind [rgL]) (by first | omega | (unfold rgL; omega) | (simp only [rgL] at *; omega) | exact bz_rgL _ | grind [rgL]) (fun c9 => ?_) (fun c9 => ?_) (fun c9 => ?_)
      · refine a_if_gt (pc := 10) (tgt := 17) ok dX7_in_10 (by decide) (by first | omega | (unfold rg; omega) | (simp only [rg] at *; omega) | exact bz_rg _ | grind [rg]) (fun c10 => ?_) (fun c10 => ?_)
        · refine a_iconst (pc := 17) ok dX7_in_17 ?_
          exact a_zret (pc := 18) ok dX7_in_18 (by first | rfl | exact nb_bz _ | decide) (⟨by first | rfl | exact congrArg (fun z => some (iv z)) (bz_pos (by first | omega | grind)).symm | exact congrArg (fun z => some (iv z)) (bz_neg (by first | omega | grind)).symm, rfl⟩)
        · refine a_iconst (pc := 13) ok dX7_in_13 ?_
          refine a_goto (pc := 14) (tgt := 18) ok dX7_in_14 (by decide) ?_
          exact a_zret (pc := 18) ok dX7_in_18 (by first | rfl | exact nb_bz _ | decide) (⟨by first | rfl | exact congrArg (fun z => some (iv z)) (bz_pos (by first | omega | grind)).symm | exact congrArg (fun z => some (iv z)) (bz_neg (by first | omega | grind)).symm, rfl⟩)
      · refine a_if_gt (pc := 10) (tgt := 17) ok dX7_in_10 (by decide) (by first | omega | (unfold rg; omega) | (simp only [rg] at *; omega) | exact bz_rg _ | grind [rg]) (fun c10 => ?_) (fun c10 => ?_)
        · refine a_iconst (pc := 17) ok dX7_in_17 ?_
          exact a_zret (pc := 18) ok dX7_in_18 (by first | rfl | exact nb_bz _ | decide) (⟨by first | rfl | exact congrArg (fun z => some (iv z)) (bz_pos (by first | omega | grind)).symm | exact congrArg (fun z => some (iv z)) (bz_neg (by first | omega | grind)).symm, rfl⟩)
        · refine a_iconst (pc := 13) ok dX7_in_13 ?_
          refine a_goto (pc := 14) (tgt := 18) ok dX7_in_14 (by decide) ?_
          exact a_zret (pc := 18) ok dX7_in_18 (by first | rfl | exact nb_bz _ | decide) (⟨by first | rfl | exact congrArg (fun z => some (iv z)) (bz_pos (by first | omega | grind)).symm | exact congrArg (fun z => some (iv z)) (bz_neg (by first | omega | grind)).symm, rfl⟩)
      · refine a_if_gt (pc := 10) (tgt := 17) ok dX7_in_10 (by decide) (by first | omega | (unfold rg; omega) | (simp only [rg] at *; omega) | exact bz_rg _ | grind [rg]) (fun c10 => ?_) (fun c10 => ?_)
        · refine a_iconst (pc := 17) ok dX7_in_17 ?_
          exact a_zret (pc := 18) ok dX7_in_18 (by first | rfl | exact nb_bz _ | decide) (⟨by first | rfl | exact congrArg (fun z => some (iv z)) (bz_pos (by first | omega | grind)).symm | exact congrArg (fun z => some (iv z)) (bz_neg (by first | omega | grind)).symm, rfl⟩)
        · refine a_iconst (pc := 13) ok dX7_in_13 ?_
          refine a_goto (pc := 14) (tgt := 18) ok dX7_in_14 (by decide) ?_
          exact a_zret (pc := 18) ok dX7_in_18 (by first | rfl | exact nb_bz _ | decide) (⟨by first | rfl | exact congrArg (fun z => some (iv z)) (bz_pos (by first | omega | grind)).symm | exact congrArg (fun z => some (iv z)) (bz_neg (by first | omega | grind)).symm, rfl⟩)
theorem dX7_cells_0 : decode cX7_cells 0 = .ok (.aload_n 0, 1) := by decide +kernel
theorem dX7_cells_1 : decode cX7_cells 1 = .ok (.iconst 0, 1) := by decide +kernel
theorem dX7_cells_2 : decode cX7_cells 2 = .ok (.iaload, 1) := by decide +kernel
theorem dX7_cells_3 : decode cX7_cells 3 = .ok (.aload_n 0, 1) := by decide +kernel
theorem dX7_cells_4 : decode cX7_cells 4 = .ok (.iconst 1, 1) := by decide +kernel
theorem dX7_cells_5 : decode cX7_cells 5 = .ok (.iaload, 1) := by decide +kernel
theorem dX7_cells_6 : decode cX7_cells 6 = .ok (.imul, 1) := by decide +kernel
theorem dX7_cells_7 : decode cX7_cells 7 = .ok (.ireturn, 1) := by decide +kernel
theorem c_cells {n : Int} : Cd l yX7_cells cX7_cells 1 (some .int) rmX7_cells [.ref 0] (rwM c r G T n le Hh li) (some (iv (c * r))) (rwM c r G T n le Hh li) := by
  refine Ct.of miX7_cells (Nat.le_of_ble_eq_true rfl) ?_
  intro X hXl hN ok
  refine AW.cast (L2 := [some (.ref 0)]) ?_ rfl rfl rfl
  refine a_aload_n (pc := 0) ok dX7_cells_0 rfl ?_
  refine a_iconst (pc := 1) ok dX7_cells_1 ?_
  refine a_rldC (pc := 2) ok dX7_cells_2 rfl ?_
  refine a_aload_n (pc := 3) ok dX7_cells_3 rfl ?_
  refine a_iconst (pc := 4) ok dX7_cells_4 ?_
  refine a_rldR (pc := 5) ok dX7_cells_5 rfl ?_
  refine a_imul (pc := 6) ok dX7_cells_6 ?_
  exact a_iret (pc := 7) ok dX7_cells_7 (⟨rfl, rfl⟩)
theorem dX7_isColumn_0 : decode cX7_isColumn 0 = .ok (.iload_n 1, 1) := by decide +kernel
theorem dX7_isColumn_1 : decode cX7_isColumn 1 = .ok (.i2l, 1) := by decide +kernel
theorem dX7_isColumn_2 : decode cX7_isColumn 2 = .ok (.lconst 0, 1) := by decide +kernel
theorem dX7_isColumn_3 : decode cX7_isColumn 3 = .ok (.aload_n 0, 1) := by decide +kernel
theorem dX7_isColumn_4 : decode cX7_isColumn 4 = .ok (.iconst 0, 1) := by decide +kernel
theorem dX7_isColumn_5 : decode cX7_isColumn 5 = .ok (.iaload, 1) := by decide +kernel
theorem dX7_isColumn_6 : decode cX7_isColumn 6 = .ok (.iconst 1, 1) := by decide +kernel
theorem dX7_isColumn_7 : decode cX7_isColumn 7 = .ok (.isub, 1) := by decide +kernel
theorem dX7_isColumn_8 : decode cX7_isColumn 8 = .ok (.i2l, 1) := by decide +kernel
theorem dX7_isColumn_9 : decode cX7_isColumn 9 = .ok (.invokestatic 68, 3) := by decide +kernel
theorem dX7_isColumn_12 : decode cX7_isColumn 12 = .ok (.ireturn, 1) := by decide +kernel
theorem c_isColumn {n x : Int} (hd : dim c r) (hx : rg x) : Cd l yX7_isColumn cX7_isColumn 2 (some .boolean) rmX7_isColumn [.ref 0, iv x] (rwM c r G T n le Hh li) (some (iv (bz (0 ≤ x ∧ x < c)))) (rwM c r G T n le Hh li) := by
  refine Ct.of miX7_isColumn (Nat.le_of_ble_eq_true rfl) ?_
  intro X hXl hN ok
  refine AW.cast (L2 := [some (.ref 0), some (iv x)]) ?_ rfl rfl rfl
  obtain ⟨d1, d2, d3, d4⟩ := hd
  refine a_iload_n (pc := 0) ok dX7_isColumn_0 rfl ?_
  refine a_i2l (pc := 1) ok dX7_isColumn_1 (by first | omega | (unfold rg; omega) | (simp only [rg] at *; omega) | exact bz_rg _ | grind [rg]) ?_
  refine a_lconst (pc := 2) (z := 0) ok dX7_isColumn_2 rfl ?_
  refine a_aload_n (pc := 3) ok dX7_isColumn_3 rfl ?_
  refine a_iconst (pc := 4) ok dX7_isColumn_4 ?_
  refine a_rldC (pc := 5) ok dX7_isColumn_5 rfl ?_
  refine a_iconst (pc := 6) ok dX7_isColumn_6 ?_
  refine a_isub (pc := 7) ok dX7_isColumn_7 ?_
  refine a_i2l (pc := 8) ok dX7_isColumn_8 (by first | omega | (unfold rg; omega) | (simp only [rg] at *; omega) | exact bz_rg _ | grind [rg]) ?_
  refine a_callSp (pc := 9) ok [] dX7_isColumn_9 mv7_68 miX7_in (c_in (by unfold rgL; unfold rg at hx; omega) (by unfold rgL; omega) (by unfold rgL; omega)) ⟨by decide, by decide, rfl, rfl, Nat.zero_le _, Nat.zero_le _⟩ rfl rfl (Nat.le_of_ble_eq_true rfl) rfl (by decide) ?_
  exact a_zret (pc := 12) ok dX7_isColumn_12 (by first | rfl | exact nb_bz _ | decide) (⟨congrArg (fun z => some (iv z)) (bz_iff (by omega)), rfl⟩)
theorem dX7_isRow_0 : decode cX7_isRow 0 = .ok (.iload_n 1, 1) := by decide +kernel
theorem dX7_isRow_1 : decode cX7_isRow 1 = .ok (.i2l, 1) := by decide +kernel
theorem dX7_isRow_2 : decode cX7_isRow 2 = .ok (.lconst 0, 1) := by decide +kernel
theorem dX7_isRow_3 : decode cX7_isRow 3 = .ok (.aload_n 0, 1) := by decide +kernel
theorem dX7_isRow_4 : decode cX7_isRow 4 = .ok (.iconst 1, 1) := by decide +kernel
theorem dX7_isRow_5 : decode cX7_isRow 5 = .ok (.iaload, 1) := by decide +kernel
theorem dX7_isRow_6 : decode cX7_isRow 6 = .ok (.iconst 1, 1) := by decide +kernel
theorem dX7_isRow_7 : decode cX7_isRow 7 = .ok (.isub, 1) := by decide +kernel
theorem dX7_isRow_8 : decode cX7_isRow 8 = .ok (.i2l, 1) := by decide +kernel
theorem dX7_isRow_9 : decode cX7_isRow 9 = .ok (.invokestatic 68, 3) := by decide +kernel
theorem dX7_isRow_12 : decode cX7_isRow 12 = .ok (.ireturn, 1) := by decide +kernel
theorem c_isRow {n x : Int} (hd : dim c r) (hx : rg x) : Cd l yX7_isRow cX7_isRow 2 (some .boolean) rmX7_isRow [.ref 0, iv x] (rwM c r G T n le Hh li) (some (iv (bz (0 ≤ x ∧ x < r)))) (rwM c r G T n le Hh li) := by
  refine Ct.of miX7_isRow (Nat.le_of_ble_eq_true rfl) ?_
  intro X hXl hN ok
  refine AW.cast (L2 := [some (.ref 0), some (iv x)]) ?_ rfl rfl rfl
  obtain ⟨d1, d2, d3, d4⟩ := hd
  refine a_iload_n (pc := 0) ok dX7_isRow_0 rfl ?_
  refine a_i2l (pc := 1) ok dX7_isRow_1 (by first | omega | (unfold rg; omega) | (simp only [rg] at *; omega) | exact bz_rg _ | grind [rg]) ?_
  refine a_lconst (pc := 2) (z := 0) ok dX7_isRow_2 rfl ?_
  refine a_aload_n (pc := 3) ok dX7_isRow_3 rfl ?_
  refine a_iconst (pc := 4) ok dX7_isRow_4 ?_
  refine a_rldR (pc := 5) ok dX7_isRow_5 rfl ?_
  refine a_iconst (pc := 6) ok dX7_isRow_6 ?_
  refine a_isub (pc := 7) ok dX7_isRow_7 ?_
  refine a_i2l (pc := 8) ok dX7_isRow_8 (by first | omega | (unfold rg; omega) | (simp only [rg] at *; omega) | exact bz_rg _ | grind [rg]) ?_
  refine a_callSp (pc := 9) ok [] dX7_isRow_9 mv7_68 miX7_in (c_in (by unfold rgL; unfold rg at hx; omega) (by unfold rgL; omega) (by unfold rgL; omega)) ⟨by decide, by decide, rfl, rfl, Nat.zero_le _, Nat.zero_le _⟩ rfl rfl (Nat.le_of_ble_eq_true rfl) rfl (by decide) ?_
  exact a_zret (pc := 12) ok dX7_isRow_12 (by first | rfl | exact nb_bz _ | decide) (⟨congrArg (fun z => some (iv z)) (bz_iff (by omega)), rfl⟩)
theorem dX7_isGrey_0 : decode cX7_isGrey 0 = .ok (.iload_n 0, 1) := by decide +kernel
theorem dX7_isGrey_1 : decode cX7_isGrey 1 = .ok (.i2l, 1) := by decide +kernel
theorem dX7_isGrey_2 : decode cX7_isGrey 2 = .ok (.lconst 0, 1) := by decide +kernel
theorem dX7_isGrey_3 : decode cX7_isGrey 3 = .ok (.ldc2_w 72, 3) := by decide +kernel
theorem dX7_isGrey_6 : decode cX7_isGrey 6 = .ok (.invokestatic 68, 3) := by decide +kernel
theorem dX7_isGrey_9 : decode cX7_isGrey 9 = .ok (.ireturn, 1) := by decide +kernel
theorem c_isGrey {x : Int} (hx : rg x) : Cd l yX7_isGrey cX7_isGrey 1 (some .boolean) rmX7_isGrey [iv x] [] (some (iv (bz (0 ≤ x ∧ x ≤ 99)))) [] := by
  refine Ct.of miX7_isGrey (Nat.le_of_ble_eq_true rfl) ?_
  intro X hXl hN ok
  refine AW.cast (L2 := [some (iv x)]) ?_ rfl rfl rfl
  refine a_iload_n (pc := 0) ok dX7_isGrey_0 rfl ?_
  refine a_i2l (pc := 1) ok dX7_isGrey_1 (by first | omega | (unfold rg; omega) | (simp only [rg] at *; omega) | exact bz_rg _ | grind [rg]) ?_
  refine a_lconst (pc := 2) (z := 0) ok dX7_isGrey_2 rfl ?_
  refine a_ldc2 (pc := 3) (z := 99) (v := Int64.ofInt 99) ok dX7_isGrey_3 (ug6 175 (by decide +kernel) rfl) rfl ?_
  refine a_callSp (pc := 6) ok [] dX7_isGrey_6 mv7_68 miX7_in (c_in (by unfold rgL; unfold rg at hx; omega) (by unfold rgL; omega) (by unfold rgL; omega)) ⟨by decide, by decide, rfl, rfl, Nat.zero_le _, Nat.zero_le _⟩ rfl rfl (Nat.le_of_ble_eq_true rfl) rfl (by decide) ?_
  exact a_zret (pc := 9) ok dX7_isGrey_9 (by first | rfl | exact nb_bz _ | decide) (⟨by first | rfl | exact congrArg (fun z => some (iv z)) (bz_pos (by first | omega | grind)).symm | exact congrArg (fun z => some (iv z)) (bz_neg (by first | omega | grind)).symm, rfl⟩)
theorem dX7_isPart_0 : decode cX7_isPart 0 = .ok (.iload_n 0, 1) := by decide +kernel
theorem dX7_isPart_1 : decode cX7_isPart 1 = .ok (.i2l, 1) := by decide +kernel
theorem dX7_isPart_2 : decode cX7_isPart 2 = .ok (.lconst 1, 1) := by decide +kernel
theorem dX7_isPart_3 : decode cX7_isPart 3 = .ok (.ldc2_w 72, 3) := by decide +kernel
theorem dX7_isPart_6 : decode cX7_isPart 6 = .ok (.invokestatic 68, 3) := by decide +kernel
theorem dX7_isPart_9 : decode cX7_isPart 9 = .ok (.ireturn, 1) := by decide +kernel
theorem c_isPart {x : Int} (hx : rg x) : Cd l yX7_isPart cX7_isPart 1 (some .boolean) rmX7_isPart [iv x] [] (some (iv (bz (1 ≤ x ∧ x ≤ 99)))) [] := by
  refine Ct.of miX7_isPart (Nat.le_of_ble_eq_true rfl) ?_
  intro X hXl hN ok
  refine AW.cast (L2 := [some (iv x)]) ?_ rfl rfl rfl
  refine a_iload_n (pc := 0) ok dX7_isPart_0 rfl ?_
  refine a_i2l (pc := 1) ok dX7_isPart_1 (by first | omega | (unfold rg; omega) | (simp only [rg] at *; omega) | exact bz_rg _ | grind [rg]) ?_
  refine a_lconst (pc := 2) (z := 1) ok dX7_isPart_2 rfl ?_
  refine a_ldc2 (pc := 3) (z := 99) (v := Int64.ofInt 99) ok dX7_isPart_3 (ug6 175 (by decide +kernel) rfl) rfl ?_
  refine a_callSp (pc := 6) ok [] dX7_isPart_6 mv7_68 miX7_in (c_in (by unfold rgL; unfold rg at hx; omega) (by unfold rgL; omega) (by unfold rgL; omega)) ⟨by decide, by decide, rfl, rfl, Nat.zero_le _, Nat.zero_le _⟩ rfl rfl (Nat.le_of_ble_eq_true rfl) rfl (by decide) ?_
  exact a_zret (pc := 9) ok dX7_isPart_9 (by first | rfl | exact nb_bz _ | decide) (⟨by first | rfl | exact congrArg (fun z => some (iv z)) (bz_pos (by first | omega | grind)).symm | exact congrArg (fun z => some (iv z)) (bz_neg (by first | omega | grind)).symm, rfl⟩)
theorem dX7_at_0 : decode cX7_at 0 = .ok (.iload_n 2, 1) := by decide +kernel
theorem dX7_at_1 : decode cX7_at 1 = .ok (.aload_n 0, 1) := by decide +kernel
theorem dX7_at_2 : decode cX7_at 2 = .ok (.iconst 0, 1) := by decide +kernel
theorem dX7_at_3 : decode cX7_at 3 = .ok (.iaload, 1) := by decide +kernel
theorem dX7_at_4 : decode cX7_at 4 = .ok (.imul, 1) := by decide +kernel
theorem dX7_at_5 : decode cX7_at 5 = .ok (.iload_n 1, 1) := by decide +kernel
theorem dX7_at_6 : decode cX7_at 6 = .ok (.iadd, 1) := by decide +kernel
theorem dX7_at_7 : decode cX7_at 7 = .ok (.ireturn, 1) := by decide +kernel
theorem c_at {n x y : Int} : Cd l yX7_at cX7_at 3 (some .int) rmX7_at [.ref 0, iv x, iv y] (rwM c r G T n le Hh li) (some (iv (y * c + x))) (rwM c r G T n le Hh li) := by
  refine Ct.of miX7_at (Nat.le_of_ble_eq_true rfl) ?_
  intro X hXl hN ok
  refine AW.cast (L2 := [some (.ref 0), some (iv x), some (iv y)]) ?_ rfl rfl rfl
  refine a_iload_n (pc := 0) ok dX7_at_0 rfl ?_
  refine a_aload_n (pc := 1) ok dX7_at_1 rfl ?_
  refine a_iconst (pc := 2) ok dX7_at_2 ?_
  refine a_rldC (pc := 3) ok dX7_at_3 rfl ?_
  refine a_imul (pc := 4) ok dX7_at_4 ?_
  refine a_iload_n (pc := 5) ok dX7_at_5 rfl ?_
  refine a_iadd (pc := 6) ok dX7_at_6 ?_
  exact a_iret (pc := 7) ok dX7_at_7 (⟨rfl, rfl⟩)
theorem dX7_sum_0 : decode cX7_sum 0 = .ok (.iconst 0, 1) := by decide +kernel
theorem dX7_sum_1 : decode cX7_sum 1 = .ok (.istore_n 1, 1) := by decide +kernel
theorem dX7_sum_2 : decode cX7_sum 2 = .ok (.iconst 0, 1) := by decide +kernel
theorem dX7_sum_3 : decode cX7_sum 3 = .ok (.istore_n 2, 1) := by decide +kernel
theorem dX7_sum_4 : decode cX7_sum 4 = .ok (.iload_n 2, 1) := by decide +kernel
theorem dX7_sum_5 : decode cX7_sum 5 = .ok (.aload_n 0, 1) := by decide +kernel
theorem dX7_sum_6 : decode cX7_sum 6 = .ok (.invokestatic 74, 3) := by decide +kernel
theorem dX7_sum_9 : decode cX7_sum 9 = .ok (.if_icmp .ge 18, 3) := by decide +kernel
theorem dX7_sum_12 : decode cX7_sum 12 = .ok (.iload_n 1, 1) := by decide +kernel
theorem dX7_sum_13 : decode cX7_sum 13 = .ok (.aload_n 0, 1) := by decide +kernel
theorem dX7_sum_14 : decode cX7_sum 14 = .ok (.bipush 16, 2) := by decide +kernel
theorem dX7_sum_16 : decode cX7_sum 16 = .ok (.iload_n 2, 1) := by decide +kernel
theorem dX7_sum_17 : decode cX7_sum 17 = .ok (.iadd, 1) := by decide +kernel
theorem dX7_sum_18 : decode cX7_sum 18 = .ok (.iaload, 1) := by decide +kernel
theorem dX7_sum_19 : decode cX7_sum 19 = .ok (.iadd, 1) := by decide +kernel
theorem dX7_sum_20 : decode cX7_sum 20 = .ok (.istore_n 1, 1) := by decide +kernel
theorem dX7_sum_21 : decode cX7_sum 21 = .ok (.iinc 2 1, 3) := by decide +kernel
theorem dX7_sum_24 : decode cX7_sum 24 = .ok (.goto (-20), 3) := by decide +kernel
theorem dX7_sum_27 : decode cX7_sum 27 = .ok (.iload_n 1, 1) := by decide +kernel
theorem dX7_sum_28 : decode cX7_sum 28 = .ok (.ireturn, 1) := by decide +kernel
theorem c_sum {n : Int} (hd : dim c r) : Cd l yX7_sum cX7_sum 3 (some .int) rmX7_sum [.ref 0] (rwM c r G T n le Hh li) (some (iv (sumK G (c * r).toNat))) (rwM c r G T n le Hh li) := by
  refine Ct.of miX7_sum (Nat.le_of_ble_eq_true rfl) ?_
  intro X hXl hN ok
  refine AW.cast (L2 := [some (.ref 0), none, none]) ?_ rfl rfl rfl
  have hc := dim_cells hd
  have loop : ∀ k : Nat, (k : Int) ≤ c * r → AW X 0 0 4 [some (.ref 0), some (iv (sumK G k)), some (iv k)] [] (rwM c r G T n le Hh li) := by
    refine wfl (fun k : Nat => (c * r).toNat - k) _ _ ?_
    intro k hk ih
    refine a_iload_n (pc := 4) ok dX7_sum_4 rfl ?_
    refine a_aload_n (pc := 5) ok dX7_sum_5 rfl ?_
    refine a_callSp (pc := 6) ok [0] dX7_sum_6 mv7_74 miX7_cells (c_cells) ⟨by decide, by decide, rfl, rfl, Nat.zero_le _, Nat.zero_le _⟩ rfl rfl (Nat.le_of_ble_eq_true rfl) rfl (by decide) ?_
    refine a_icmp_ge (pc := 9) (tgt := 27) ok dX7_sum_9 (by decide) (by first | omega | (unfold rg; omega) | (simp only [rg] at *; omega) | exact bz_rg _ | grind [rg]) (by first | omega | (unfold rg; omega) | (simp only [rg] at *; omega) | exact bz_rg _ | grind [rg]) (fun c9 => ?_) (fun c9 => ?_)
    · have e : k = (c * r).toNat := by omega
      subst e
      refine a_iload_n (pc := 27) ok dX7_sum_27 rfl ?_
      exact a_iret (pc := 28) ok dX7_sum_28 (⟨rfl, rfl⟩)
    · refine a_iload_n (pc := 12) ok dX7_sum_12 rfl ?_
      refine a_aload_n (pc := 13) ok dX7_sum_13 rfl ?_
      refine a_bipush (pc := 14) ok dX7_sum_14 (by decide) ?_
      refine a_iload_n (pc := 16) ok dX7_sum_16 rfl ?_
      refine a_iadd (pc := 17) ok dX7_sum_17 ?_
      refine a_rldG (pc := 18) ok dX7_sum_18 rfl rfl (by first | omega | (unfold rg; omega) | (simp only [rg] at *; omega) | exact bz_rg _ | grind [rg]) ?_
      refine a_iadd (pc := 19) ok dX7_sum_19 ?_
      refine a_istore_n (pc := 20) ok dX7_sum_20 rfl (by rw [hN]; decide) ?_
      refine a_iinc (pc := 21) ok dX7_sum_21 rfl rfl (by rw [hN]; decide) ?_
      refine a_goto (pc := 24) (tgt := 4) ok dX7_sum_24 (by decide) ?_
      exact ih (k + 1) (by omega) (by omega)
  refine a_iconst (pc := 0) ok dX7_sum_0 ?_
  refine a_istore_n (pc := 1) ok dX7_sum_1 rfl (by rw [hN]; decide) ?_
  refine a_iconst (pc := 2) ok dX7_sum_2 ?_
  refine a_istore_n (pc := 3) ok dX7_sum_3 rfl (by rw [hN]; decide) ?_
  exact loop 0 (by omega)
theorem dX7_bandOf_0 : decode cX7_bandOf 0 = .ok (.iconst 0, 1) := by decide +kernel
theorem dX7_bandOf_1 : decode cX7_bandOf 1 = .ok (.istore_n 2, 1) := by decide +kernel
theorem dX7_bandOf_2 : decode cX7_bandOf 2 = .ok (.iload_n 2, 1) := by decide +kernel
theorem dX7_bandOf_3 : decode cX7_bandOf 3 = .ok (.aload_n 0, 1) := by decide +kernel
theorem dX7_bandOf_4 : decode cX7_bandOf 4 = .ok (.iconst 2, 1) := by decide +kernel
theorem dX7_bandOf_5 : decode cX7_bandOf 5 = .ok (.iaload, 1) := by decide +kernel
theorem dX7_bandOf_6 : decode cX7_bandOf 6 = .ok (.if_icmp .ge 18, 3) := by decide +kernel
theorem dX7_bandOf_9 : decode cX7_bandOf 9 = .ok (.aload_n 0, 1) := by decide +kernel
theorem dX7_bandOf_10 : decode cX7_bandOf 10 = .ok (.iconst 3, 1) := by decide +kernel
theorem dX7_bandOf_11 : decode cX7_bandOf 11 = .ok (.iload_n 2, 1) := by decide +kernel
theorem dX7_bandOf_12 : decode cX7_bandOf 12 = .ok (.iadd, 1) := by decide +kernel
theorem dX7_bandOf_13 : decode cX7_bandOf 13 = .ok (.iaload, 1) := by decide +kernel
theorem dX7_bandOf_14 : decode cX7_bandOf 14 = .ok (.iload_n 1, 1) := by decide +kernel
theorem dX7_bandOf_15 : decode cX7_bandOf 15 = .ok (.if_icmp .gt 9, 3) := by decide +kernel
theorem dX7_bandOf_18 : decode cX7_bandOf 18 = .ok (.iinc 2 1, 3) := by decide +kernel
theorem dX7_bandOf_21 : decode cX7_bandOf 21 = .ok (.goto (-19), 3) := by decide +kernel
theorem dX7_bandOf_24 : decode cX7_bandOf 24 = .ok (.iload_n 2, 1) := by decide +kernel
theorem dX7_bandOf_25 : decode cX7_bandOf 25 = .ok (.ireturn, 1) := by decide +kernel
theorem c_bandOf {n : Nat} {g : Int} (hn : n ≤ 5) (hT : ∀ i, 0 ≤ T i ∧ T i ≤ 99) (hs : srt T n) (hg : rg g) : Cd l yX7_bandOf cX7_bandOf 3 (some .int) rmX7_bandOf [.ref 0, iv g] (rwM c r G T n le Hh li) (some (iv (bandN T n g))) (rwM c r G T n le Hh li) := by
  refine Ct.of miX7_bandOf (Nat.le_of_ble_eq_true rfl) ?_
  intro X hXl hN ok
  refine AW.cast (L2 := [some (.ref 0), some (iv g), none]) ?_ rfl rfl rfl
  have loop : ∀ k : Nat, (k ≤ n ∧ ∀ j : Nat, j < k → T j ≤ g) → AW X 0 0 2 [some (.ref 0), some (iv g), some (iv k)] [] (rwM c r G T n le Hh li) := by
    refine wfl (fun k : Nat => n - k) _ _ ?_
    rintro k ⟨hk, hj⟩ ih
    have hTk := hT k
    have fin : (k = n ∨ g < T k) → bandN T n g = k := fun h => by
      refine cntK_cut n hk (fun j h1 => by simpa using hj j h1) (fun j h1 h2 => ?_)
      have : k < j → T k < T j := fun z => hs k j (by omega) (by omega) (by omega)
      rcases h with h | h
      · omega
      · rcases (show j = k ∨ k < j by omega) with z | z
        · subst z; simp; omega
        · have := this z; simp; omega
    refine a_iload_n (pc := 2) ok dX7_bandOf_2 rfl ?_
    refine a_aload_n (pc := 3) ok dX7_bandOf_3 rfl ?_
    refine a_iconst (pc := 4) ok dX7_bandOf_4 ?_
    refine a_rldN (pc := 5) ok dX7_bandOf_5 rfl ?_
    refine a_icmp_ge (pc := 6) (tgt := 24) ok dX7_bandOf_6 (by decide) (by first | omega | (unfold rg; omega) | (simp only [rg] at *; omega) | exact bz_rg _ | grind [rg]) (by first | omega | (unfold rg; omega) | (simp only [rg] at *; omega) | exact bz_rg _ | grind [rg]) (fun c6 => ?_) (fun c6 => ?_)
    · refine a_iload_n (pc := 24) ok dX7_bandOf_24 rfl ?_
      exact a_iret (pc := 25) ok dX7_bandOf_25 (by rw [fin (by omega)]; exact ⟨rfl, rfl⟩)
    · refine a_aload_n (pc := 9) ok dX7_bandOf_9 rfl ?_
      refine a_iconst (pc := 10) ok dX7_bandOf_10 ?_
      refine a_iload_n (pc := 11) ok dX7_bandOf_11 rfl ?_
      refine a_iadd (pc := 12) ok dX7_bandOf_12 ?_
      refine a_rldT (pc := 13) ok dX7_bandOf_13 rfl rfl (by first | omega | (unfold rg; omega) | (simp only [rg] at *; omega) | exact bz_rg _ | grind [rg]) ?_
      refine a_iload_n (pc := 14) ok dX7_bandOf_14 rfl ?_
      refine a_icmp_gt (pc := 15) (tgt := 24) ok dX7_bandOf_15 (by decide) (by first | omega | (unfold rg; omega) | (simp only [rg] at *; omega) | exact bz_rg _ | grind [rg]) (by first | omega | (unfold rg; omega) | (simp only [rg] at *; omega) | exact bz_rg _ | grind [rg]) (fun c15 => ?_) (fun c15 => ?_)
      · refine a_iload_n (pc := 24) ok dX7_bandOf_24 rfl ?_
        exact a_iret (pc := 25) ok dX7_bandOf_25 (by rw [fin (by omega)]; exact ⟨rfl, rfl⟩)
      · refine a_iinc (pc := 18) ok dX7_bandOf_18 rfl rfl (by rw [hN]; decide) ?_
        refine a_goto (pc := 21) (tgt := 2) ok dX7_bandOf_21 (by decide) ?_
        exact ih (k + 1) ⟨by omega, fun j h1 => by rcases (show j < k ∨ j = k by omega) with z | z; exact hj j z; subst z; omega⟩ (by omega)
  refine a_iconst (pc := 0) ok dX7_bandOf_0 ?_
  refine a_istore_n (pc := 1) ok dX7_bandOf_1 rfl (by rw [hN]; decide) ?_
  exact loop 0 ⟨by omega, fun j h => by omega⟩
/-- the cell next to a cell: east, south, west, north; -1 beyond the edge -/
def nb (c r k w : Int) : Int := if w = 0 then (if k % c < c - 1 then k + 1 else -1) else if w = 1 then (if k / c < r - 1 then k + c else -1) else if w = 2 then (if 0 < k % c then k - 1 else -1) else (if 0 < k / c then k - c else -1)
theorem dim_k (hd : dim c r) {k : Int} (hk : 0 ≤ k ∧ k < c * r) : 0 ≤ k % c ∧ k % c < c ∧ 0 ≤ k / c ∧ k / c < r ∧ k = k / c * c + k % c := by
  obtain ⟨d1, d2, d3, d4⟩ := hd
  refine ⟨Int.emod_nonneg _ (by omega), Int.emod_lt_of_pos _ (by omega), Int.ediv_nonneg hk.1 (by omega), Int.ediv_lt_of_lt_mul (by omega) (by rw [Int.mul_comm]; exact hk.2), ?_⟩
  have := Int.mul_ediv_add_emod k c
  rw [Int.mul_comm] at this; omega
theorem nb_rg (hd : dim c r) {k w : Int} (hk : 0 ≤ k ∧ k < c * r) : -1 ≤ nb c r k w ∧ nb c r k w < c * r := by
  have h := dim_k hd hk
  have hq := dim_x hd (x := 0) (y := k / c) ⟨h.2.2.1, h.2.2.2.1⟩
  obtain ⟨d1, d2, d3, d4⟩ := hd
  unfold nb
  split
  · split <;> omega
  · split
    · split <;> omega
    · split
      · split <;> omega
      · split <;> omega
theorem dX7_next_0 : decode cX7_next 0 = .ok (.iload_n 1, 1) := by decide +kernel
theorem dX7_next_1 : decode cX7_next 1 = .ok (.aload_n 0, 1) := by decide +kernel
theorem dX7_next_2 : decode cX7_next 2 = .ok (.iconst 0, 1) := by decide +kernel
theorem dX7_next_3 : decode cX7_next 3 = .ok (.iaload, 1) := by decide +kernel
theorem dX7_next_4 : decode cX7_next 4 = .ok (.irem, 1) := by decide +kernel
theorem dX7_next_5 : decode cX7_next 5 = .ok (.istore_n 3, 1) := by decide +kernel
theorem dX7_next_6 : decode cX7_next 6 = .ok (.iload_n 1, 1) := by decide +kernel
theorem dX7_next_7 : decode cX7_next 7 = .ok (.aload_n 0, 1) := by decide +kernel
theorem dX7_next_8 : decode cX7_next 8 = .ok (.iconst 0, 1) := by decide +kernel
theorem dX7_next_9 : decode cX7_next 9 = .ok (.iaload, 1) := by decide +kernel
theorem dX7_next_10 : decode cX7_next 10 = .ok (.idiv, 1) := by decide +kernel
theorem dX7_next_11 : decode cX7_next 11 = .ok (.istore 4, 2) := by decide +kernel
theorem dX7_next_13 : decode cX7_next 13 = .ok (.iload_n 2, 1) := by decide +kernel
theorem dX7_next_14 : decode cX7_next 14 = .ok (.ifCond .ne 20, 3) := by decide +kernel
theorem dX7_next_17 : decode cX7_next 17 = .ok (.iload_n 3, 1) := by decide +kernel
theorem dX7_next_18 : decode cX7_next 18 = .ok (.aload_n 0, 1) := by decide +kernel
theorem dX7_next_19 : decode cX7_next 19 = .ok (.iconst 0, 1) := by decide +kernel
theorem dX7_next_20 : decode cX7_next 20 = .ok (.iaload, 1) := by decide +kernel
theorem dX7_next_21 : decode cX7_next 21 = .ok (.iconst 1, 1) := by decide +kernel
theorem dX7_next_22 : decode cX7_next 22 = .ok (.isub, 1) := by decide +kernel
theorem dX7_next_23 : decode cX7_next 23 = .ok (.if_icmp .ge 9, 3) := by decide +kernel
theorem dX7_next_26 : decode cX7_next 26 = .ok (.iload_n 1, 1) := by decide +kernel
theorem dX7_next_27 : decode cX7_next 27 = .ok (.iconst 1, 1) := by decide +kernel
theorem dX7_next_28 : decode cX7_next 28 = .ok (.iadd, 1) := by decide +kernel
theorem dX7_next_29 : decode cX7_next 29 = .ok (.goto 4, 3) := by decide +kernel
theorem dX7_next_32 : decode cX7_next 32 = .ok (.iconst (-1), 1) := by decide +kernel
theorem dX7_next_33 : decode cX7_next 33 = .ok (.ireturn, 1) := by decide +kernel
theorem dX7_next_34 : decode cX7_next 34 = .ok (.iload_n 2, 1) := by decide +kernel
theorem dX7_next_35 : decode cX7_next 35 = .ok (.iconst 1, 1) := by decide +kernel
theorem dX7_next_36 : decode cX7_next 36 = .ok (.if_icmp .ne 23, 3) := by decide +kernel
theorem dX7_next_39 : decode cX7_next 39 = .ok (.iload 4, 2) := by decide +kernel
theorem dX7_next_41 : decode cX7_next 41 = .ok (.aload_n 0, 1) := by decide +kernel
theorem dX7_next_42 : decode cX7_next 42 = .ok (.iconst 1, 1) := by decide +kernel
theorem dX7_next_43 : decode cX7_next 43 = .ok (.iaload, 1) := by decide +kernel
theorem dX7_next_44 : decode cX7_next 44 = .ok (.iconst 1, 1) := by decide +kernel
theorem dX7_next_45 : decode cX7_next 45 = .ok (.isub, 1) := by decide +kernel
theorem dX7_next_46 : decode cX7_next 46 = .ok (.if_icmp .ge 11, 3) := by decide +kernel
theorem dX7_next_49 : decode cX7_next 49 = .ok (.iload_n 1, 1) := by decide +kernel
theorem dX7_next_50 : decode cX7_next 50 = .ok (.aload_n 0, 1) := by decide +kernel
theorem dX7_next_51 : decode cX7_next 51 = .ok (.iconst 0, 1) := by decide +kernel
theorem dX7_next_52 : decode cX7_next 52 = .ok (.iaload, 1) := by decide +kernel
theorem dX7_next_53 : decode cX7_next 53 = .ok (.iadd, 1) := by decide +kernel
theorem dX7_next_54 : decode cX7_next 54 = .ok (.goto 4, 3) := by decide +kernel
theorem dX7_next_57 : decode cX7_next 57 = .ok (.iconst (-1), 1) := by decide +kernel
theorem dX7_next_58 : decode cX7_next 58 = .ok (.ireturn, 1) := by decide +kernel
theorem dX7_next_59 : decode cX7_next 59 = .ok (.iload_n 2, 1) := by decide +kernel
theorem dX7_next_60 : decode cX7_next 60 = .ok (.iconst 2, 1) := by decide +kernel
theorem dX7_next_61 : decode cX7_next 61 = .ok (.if_icmp .ne 17, 3) := by decide +kernel
theorem dX7_next_64 : decode cX7_next 64 = .ok (.iload_n 3, 1) := by decide +kernel
theorem dX7_next_65 : decode cX7_next 65 = .ok (.ifCond .le 9, 3) := by decide +kernel
theorem dX7_next_68 : decode cX7_next 68 = .ok (.iload_n 1, 1) := by decide +kernel
theorem dX7_next_69 : decode cX7_next 69 = .ok (.iconst 1, 1) := by decide +kernel
theorem dX7_next_70 : decode cX7_next 70 = .ok (.isub, 1) := by decide +kernel
theorem dX7_next_71 : decode cX7_next 71 = .ok (.goto 21, 3) := by decide +kernel
theorem dX7_next_74 : decode cX7_next 74 = .ok (.iconst (-1), 1) := by decide +kernel
theorem dX7_next_75 : decode cX7_next 75 = .ok (.goto 17, 3) := by decide +kernel
theorem dX7_next_78 : decode cX7_next 78 = .ok (.iload 4, 2) := by decide +kernel
theorem dX7_next_80 : decode cX7_next 80 = .ok (.ifCond .le 11, 3) := by decide +kernel
theorem dX7_next_83 : decode cX7_next 83 = .ok (.iload_n 1, 1) := by decide +kernel
theorem dX7_next_84 : decode cX7_next 84 = .ok (.aload_n 0, 1) := by decide +kernel
theorem dX7_next_85 : decode cX7_next 85 = .ok (.iconst 0, 1) := by decide +kernel
theorem dX7_next_86 : decode cX7_next 86 = .ok (.iaload, 1) := by decide +kernel
theorem dX7_next_87 : decode cX7_next 87 = .ok (.isub, 1) := by decide +kernel
theorem dX7_next_88 : decode cX7_next 88 = .ok (.goto 4, 3) := by decide +kernel
theorem dX7_next_91 : decode cX7_next 91 = .ok (.iconst (-1), 1) := by decide +kernel
theorem dX7_next_92 : decode cX7_next 92 = .ok (.ireturn, 1) := by decide +kernel
theorem c_next {n k w : Int} (hd : dim c r) (hk : 0 ≤ k ∧ k < c * r) (hw : 0 ≤ w ∧ w < 4) : Cd l yX7_next cX7_next 5 (some .int) rmX7_next [.ref 0, iv k, iv w] (rwM c r G T n le Hh li) (some (iv (nb c r k w))) (rwM c r G T n le Hh li) := by
  refine Ct.of miX7_next (Nat.le_of_ble_eq_true rfl) ?_
  intro X hXl hN ok
  refine AW.cast (L2 := [some (.ref 0), some (iv k), some (iv w), none, none]) ?_ rfl rfl rfl
  have h := dim_k hd hk
  have hc := dim_cells hd
  obtain ⟨d1, d2, d3, d4⟩ := id hd
  refine a_iload_n (pc := 0) ok dX7_next_0 rfl ?_
  refine a_aload_n (pc := 1) ok dX7_next_1 rfl ?_
  refine a_iconst (pc := 2) ok dX7_next_2 ?_
  refine a_rldC (pc := 3) ok dX7_next_3 rfl ?_
  refine a_irem (pc := 4) ok dX7_next_4 (by first | omega | (unfold rg; omega) | (simp only [rg] at *; omega) | exact bz_rg _ | grind [rg]) (by first | omega | (unfold rg; omega) | (simp only [rg] at *; omega) | exact bz_rg _ | grind [rg]) ?_
  refine a_istore_n (pc := 5) ok dX7_next_5 rfl (by rw [hN]; decide) ?_
  refine a_iload_n (pc := 6) ok dX7_next_6 rfl ?_
  refine a_aload_n (pc := 7) ok dX7_next_7 rfl ?_
  refine a_iconst (pc := 8) ok dX7_next_8 ?_
  refine a_rldC (pc := 9) ok dX7_next_9 rfl ?_
  refine a_idiv (pc := 10) ok dX7_next_10 (by first | omega | (unfold rg; omega) | (simp only [rg] at *; omega) | exact bz_rg _ | grind [rg]) (by first | omega | (unfold rg; omega) | (simp only [rg] at *; omega) | exact bz_rg _ | grind [rg]) ?_
  refine a_istore (pc := 11) ok dX7_next_11 rfl (by rw [hN]; decide) ?_
  refine a_iload_n (pc := 13) ok dX7_next_13 rfl ?_
  refine a_if_ne (pc := 14) (tgt := 34) ok dX7_next_14 (by decide) (by first | omega | (unfold rg; omega) | (simp only [rg] at *; omega) | exact bz_rg _ | grind [rg]) (fun c14 => ?_) (fun c14 => ?_)
  · refine a_iload_n (pc := 34) ok dX7_next_34 rfl ?_
    refine a_iconst (pc := 35) ok dX7_next_35 ?_
    refine a_icmp_ne (pc := 36) (tgt := 59) ok dX7_next_36 (by decide) (by first | omega | (unfold rg; omega) | (simp only [rg] at *; omega) | exact bz_rg _ | grind [rg]) (by first | omega | (unfold rg; omega) | (simp only [rg] at *; omega) | exact bz_rg _ | grind [rg]) (fun c36 => ?_) (fun c36 => ?_)
    · refine a_iload_n (pc := 59) ok dX7_next_59 rfl ?_
      refine a_iconst (pc := 60) ok dX7_next_60 ?_
      refine a_icmp_ne (pc := 61) (tgt := 78) ok dX7_next_61 (by decide) (by first | omega | (unfold rg; omega) | (simp only [rg] at *; omega) | exact bz_rg _ | grind [rg]) (by first | omega | (unfold rg; omega) | (simp only [rg] at *; omega) | exact bz_rg _ | grind [rg]) (fun c61 => ?_) (fun c61 => ?_)
      · refine a_iload (pc := 78) ok dX7_next_78 rfl ?_
        refine a_if_le (pc := 80) (tgt := 91) ok dX7_next_80 (by decide) (by first | omega | (unfold rg; omega) | (simp only [rg] at *; omega) | exact bz_rg _ | grind [rg]) (fun c80 => ?_) (fun c80 => ?_)
        · refine a_iconst (pc := 91) ok dX7_next_91 ?_
          exact a_iret (pc := 92) ok dX7_next_92 (⟨by unfold nb; rw [if_neg (by omega), if_neg (by omega)]; first | (rw [if_pos (show w = 2 by omega)]; first | rw [if_pos (by omega)] | rw [if_neg (by omega)]) | (rw [if_neg (show ¬ w = 2 by omega)]; first | rw [if_pos (by omega)] | rw [if_neg (by omega)]), rfl⟩)
        · refine a_iload_n (pc := 83) ok dX7_next_83 rfl ?_
          refine a_aload_n (pc := 84) ok dX7_next_84 rfl ?_
          refine a_iconst (pc := 85) ok dX7_next_85 ?_
          refine a_rldC (pc := 86) ok dX7_next_86 rfl ?_
          refine a_isub (pc := 87) ok dX7_next_87 ?_
          refine a_goto (pc := 88) (tgt := 92) ok dX7_next_88 (by decide) ?_
          exact a_iret (pc := 92) ok dX7_next_92 (⟨by unfold nb; rw [if_neg (by omega), if_neg (by omega)]; first | (rw [if_pos (show w = 2 by omega)]; first | rw [if_pos (by omega)] | rw [if_neg (by omega)]) | (rw [if_neg (show ¬ w = 2 by omega)]; first | rw [if_pos (by omega)] | rw [if_neg (by omega)]), rfl⟩)
      · refine a_iload_n (pc := 64) ok dX7_next_64 rfl ?_
        refine a_if_le (pc := 65) (tgt := 74) ok dX7_next_65 (by decide) (by first | omega | (unfold rg; omega) | (simp only [rg] at *; omega) | exact bz_rg _ | grind [rg]) (fun c65 => ?_) (fun c65 => ?_)
        · refine a_iconst (pc := 74) ok dX7_next_74 ?_
          refine a_goto (pc := 75) (tgt := 92) ok dX7_next_75 (by decide) ?_
          exact a_iret (pc := 92) ok dX7_next_92 (⟨by unfold nb; rw [if_neg (by omega), if_neg (by omega)]; first | (rw [if_pos (show w = 2 by omega)]; first | rw [if_pos (by omega)] | rw [if_neg (by omega)]) | (rw [if_neg (show ¬ w = 2 by omega)]; first | rw [if_pos (by omega)] | rw [if_neg (by omega)]), rfl⟩)
        · refine a_iload_n (pc := 68) ok dX7_next_68 rfl ?_
          refine a_iconst (pc := 69) ok dX7_next_69 ?_
          refine a_isub (pc := 70) ok dX7_next_70 ?_
          refine a_goto (pc := 71) (tgt := 92) ok dX7_next_71 (by decide) ?_
          exact a_iret (pc := 92) ok dX7_next_92 (⟨by unfold nb; rw [if_neg (by omega), if_neg (by omega)]; first | (rw [if_pos (show w = 2 by omega)]; first | rw [if_pos (by omega)] | rw [if_neg (by omega)]) | (rw [if_neg (show ¬ w = 2 by omega)]; first | rw [if_pos (by omega)] | rw [if_neg (by omega)]), rfl⟩)
    · refine a_iload (pc := 39) ok dX7_next_39 rfl ?_
      refine a_aload_n (pc := 41) ok dX7_next_41 rfl ?_
      refine a_iconst (pc := 42) ok dX7_next_42 ?_
      refine a_rldR (pc := 43) ok dX7_next_43 rfl ?_
      refine a_iconst (pc := 44) ok dX7_next_44 ?_
      refine a_isub (pc := 45) ok dX7_next_45 ?_
      refine a_icmp_ge (pc := 46) (tgt := 57) ok dX7_next_46 (by decide) (by first | omega | (unfold rg; omega) | (simp only [rg] at *; omega) | exact bz_rg _ | grind [rg]) (by first | omega | (unfold rg; omega) | (simp only [rg] at *; omega) | exact bz_rg _ | grind [rg]) (fun c46 => ?_) (fun c46 => ?_)
      · refine a_iconst (pc := 57) ok dX7_next_57 ?_
        exact a_iret (pc := 58) ok dX7_next_58 (⟨by unfold nb; rw [if_neg (by omega), if_pos (by omega)]; first | rw [if_pos (by omega)] | rw [if_neg (by omega)], rfl⟩)
      · refine a_iload_n (pc := 49) ok dX7_next_49 rfl ?_
        refine a_aload_n (pc := 50) ok dX7_next_50 rfl ?_
        refine a_iconst (pc := 51) ok dX7_next_51 ?_
        refine a_rldC (pc := 52) ok dX7_next_52 rfl ?_
        refine a_iadd (pc := 53) ok dX7_next_53 ?_
        refine a_goto (pc := 54) (tgt := 58) ok dX7_next_54 (by decide) ?_
        exact a_iret (pc := 58) ok dX7_next_58 (⟨by unfold nb; rw [if_neg (by omega), if_pos (by omega)]; first | rw [if_pos (by omega)] | rw [if_neg (by omega)], rfl⟩)
  · refine a_iload_n (pc := 17) ok dX7_next_17 rfl ?_
    refine a_aload_n (pc := 18) ok dX7_next_18 rfl ?_
    refine a_iconst (pc := 19) ok dX7_next_19 ?_
    refine a_rldC (pc := 20) ok dX7_next_20 rfl ?_
    refine a_iconst (pc := 21) ok dX7_next_21 ?_
    refine a_isub (pc := 22) ok dX7_next_22 ?_
    refine a_icmp_ge (pc := 23) (tgt := 32) ok dX7_next_23 (by decide) (by first | omega | (unfold rg; omega) | (simp only [rg] at *; omega) | exact bz_rg _ | grind [rg]) (by first | omega | (unfold rg; omega) | (simp only [rg] at *; omega) | exact bz_rg _ | grind [rg]) (fun c23 => ?_) (fun c23 => ?_)
    · refine a_iconst (pc := 32) ok dX7_next_32 ?_
      exact a_iret (pc := 33) ok dX7_next_33 (⟨by unfold nb; rw [if_pos (by omega)]; first | rw [if_pos (by omega)] | rw [if_neg (by omega)], rfl⟩)
    · refine a_iload_n (pc := 26) ok dX7_next_26 rfl ?_
      refine a_iconst (pc := 27) ok dX7_next_27 ?_
      refine a_iadd (pc := 28) ok dX7_next_28 ?_
      refine a_goto (pc := 29) (tgt := 33) ok dX7_next_29 (by decide) ?_
      exact a_iret (pc := 33) ok dX7_next_33 (⟨by unfold nb; rw [if_pos (by omega)]; first | rw [if_pos (by omega)] | rw [if_neg (by omega)], rfl⟩)
end MD1
