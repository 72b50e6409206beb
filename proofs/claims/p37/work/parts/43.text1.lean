/-! TEXT: a switch by pairs; signs, numbers, words. -/
section TX0
variable {X : Cx} {cc : ByteArray} {own : String} {ret : Option FieldType} {rm : Room} {post : Option Value → List va_E → Prop} {mc ms kc ks pc : Nat} {L : List (Option Value)} {st : List Value} {M : List va_E}
theorem lk_spec : ∀ (l : List (Int × Int)) (d k : Int), (∃ (j : Nat) (h : j < l.length), k = l[j].1 ∧ Op.lookupswitch.offset l d k = l[j].2) ∨ ((∀ q ∈ l, k ≠ q.1) ∧ Op.lookupswitch.offset l d k = d)
  | [], d, k => Or.inr ⟨fun q h => by simp at h, rfl⟩
  | (a, o) :: r, d, k => by
    rw [Op.lookupswitch.offset_cons]
    by_cases e : a = k
    · rw [if_pos e]; exact Or.inl ⟨0, by simp, by simpa using e.symm, rfl⟩
    · rw [if_neg e]
      rcases lk_spec r d k with ⟨j, h, h1, h2⟩ | ⟨h1, h2⟩
      · exact Or.inl ⟨j + 1, by simpa using h, by simpa using h1, by simpa using h2⟩
      · exact Or.inr ⟨fun q hq => (List.mem_cons.mp hq).elim (fun z => by rw [z]; exact fun y => e y.symm) (h1 q), h2⟩
theorem a_look (ok : OK X cc own ret rm post mc ms) {dflt a : Int} {ps : Array (Int × Int)} {len dt : Nat} (ts : List Nat) (hd : decode cc pc = .ok (.lookupswitch dflt ps, len)) (hp : (ps.toList.zip (ps.toList.drop 1)).all (fun (a, next) => a.1 < next.1) = true) (hts : ps.toList.map (fun o => (pc : Int) + o.2) = ts.map (fun t : Nat => (t : Int))) (hdt : (pc : Int) + dflt = dt) (ra : rg a)
    (kin : ∀ j : Nat, j < ts.length → a = (ps.toList.map (fun q => q.1)).getD j 0 → AW X kc ks (ts.getD j 0) L st M) (kout : (∀ k : Int, k ∈ ps.toList.map (fun q => q.1) → a ≠ k) → AW X kc ks dt L st M) : AW X kc ks pc L (iv a :: st) M := by
  rcases lk_spec ps.toList dflt a with ⟨j, h, h1, h2⟩ | ⟨h1, h2⟩
  · have e : ps.toList.length = ts.length := by have := congrArg List.length hts; simpa using this
    have hj : j < ts.length := by omega
    have h3 : (pc : Int) + (ps.toList[j]).2 = (ts[j] : Int) := by
      have := congrArg (fun l : List Int => l[j]?) hts
      simpa [List.getElem?_eq_getElem h, List.getElem?_eq_getElem hj, h, hj] using this
    refine a_lookup ok hd ra hp h2 h3 ?_
    have := kin j hj (by simp only [List.getD, List.getElem?_map, List.getElem?_eq_getElem h]; exact h1)
    rw [show ts.getD j 0 = ts[j] from by simp [List.getD, hj]] at this
    exact this
  · exact a_lookup ok hd ra hp h2 hdt (kout fun k hk => by obtain ⟨q, hq, rfl⟩ := List.mem_map.mp hk; exact h1 q hq)
end TX0
section TX1
variable {l : Launch} {n : Int} {t : Int → Int}
abbrev txM (n : Int) (t : Int → Int) : List va_E := [ob 5 [.ref 1, iv n], ia 120 t]
/-- the sign at a place; how many numbers follow a sign; their ranges -/
def sg (t : Int → Int) (n p : Int) : Int := if 0 ≤ p ∧ p < n then t p else 0
def nuO (k : Int) : Int := if k = 69 then 2 else if k = 98 then 5 else if k = 105 ∨ k = 117 then 0 else if k = 107 ∨ k = 109 ∨ k = 115 ∨ k = 116 then 1 else if k = 112 then 3 else -1
def loO (k : Int) : Int := if k = 112 ∨ k = 98 then 0 else 1
def hiO (k w : Int) : Int := if k = 69 then 12 else if k = 98 then (if w < 4 then 11 else 99) else if k = 109 then 30 else if k = 112 then (if w < 2 then 11 else 99) else if k = 115 then 49 else 99
def nmA (t : Int → Int) (n p : Int) : Int := 10 * (sg t n p - 48) + sg t n (p + 1) - 48
def wE (t : Int → Int) (n p : Int) : Int := p + 1 + 2 * max 0 (nuO (sg t n p))
def dOk (t : Int → Int) (n k p j : Int) : Prop := p + 1 + j < n ∧ (0 ≤ t (p + 1 + j) - 48 ∧ t (p + 1 + j) - 48 ≤ 9) ∧ (if j % 2 = 0 then loO k / 10 ≤ t (p + 1 + j) - 48 ∧ t (p + 1 + j) - 48 ≤ hiO k (j / 2) / 10 else loO k ≤ nmA t n (p + j) ∧ nmA t n (p + j) ≤ hiO k (j / 2))
/-- where a word is wrong; none -/
noncomputable def wEr (t : Int → Int) (n p h : Int) : Int :=
  if n ≤ p ∨ h ≠ (if sg t n p = 69 then 1 else 0) ∨ nuO (sg t n p) = -1 then p else if fstK (fun j => tr (¬ dOk t n (sg t n p) p j)) (2 * nuO (sg t n p)).toNat = -1 then -1 else p + 1 + fstK (fun j => tr (¬ dOk t n (sg t n p) p j)) (2 * nuO (sg t n p)).toNat
theorem nuO_rg (k : Int) : -1 ≤ nuO k ∧ nuO k ≤ 5 := by
  unfold nuO
  repeat' split
  all_goals omega
theorem sg_rg (ht : ∀ i, 0 ≤ t i ∧ t i ≤ 255) (p : Int) : 0 ≤ sg t n p ∧ sg t n p ≤ 255 := by
  have := ht p
  unfold sg; split <;> omega
theorem wE_rg (t : Int → Int) (n p : Int) : p + 1 ≤ wE t n p ∧ wE t n p ≤ p + 11 := by have := nuO_rg (sg t n p); unfold wE; omega
theorem dX5_isFull_0 : decode cX5_isFull 0 = .ok (.aload_n 0, 1) := by decide +kernel
theorem dX5_isFull_1 : decode cX5_isFull 1 = .ok (.getfield 15, 3) := by decide +kernel
theorem dX5_isFull_4 : decode cX5_isFull 4 = .ok (.bipush 120, 2) := by decide +kernel
theorem dX5_isFull_6 : decode cX5_isFull 6 = .ok (.if_icmp .lt 7, 3) := by decide +kernel
theorem dX5_isFull_9 : decode cX5_isFull 9 = .ok (.iconst 1, 1) := by decide +kernel
theorem dX5_isFull_10 : decode cX5_isFull 10 = .ok (.goto 4, 3) := by decide +kernel
theorem dX5_isFull_13 : decode cX5_isFull 13 = .ok (.iconst 0, 1) := by decide +kernel
theorem dX5_isFull_14 : decode cX5_isFull 14 = .ok (.ireturn, 1) := by decide +kernel
theorem c_isFull (hn : 0 ≤ n ∧ n ≤ 120) : Cd l yX5_isFull cX5_isFull 1 (some .boolean) rmX5_isFull [.ref 0] (txM n t) (some (iv (bz (n = 120)))) (txM n t) := by
  refine Ct.of miX5_isFull (Nat.le_of_ble_eq_true rfl) ?_
  intro X hXl hN ok
  refine AW.cast (L2 := [some (.ref 0)]) ?_ rfl rfl rfl
  refine a_aload_n (pc := 0) ok dX5_isFull_0 rfl ?_
  refine a_getf (pc := 1) ok dX5_isFull_1 fl5_15 rfl rfl ?_
  refine a_bipush (pc := 4) ok dX5_isFull_4 (by decide) ?_
  refine a_icmp_lt (pc := 6) (tgt := 13) ok dX5_isFull_6 (by decide) (by first | omega | (unfold rg; omega) | (simp only [rg] at *; omega) | exact bz_rg _ | grind [rg]) (by first | omega | (unfold rg; omega) | (simp only [rg] at *; omega) | exact bz_rg _ | grind [rg]) (fun c6 => ?_) (fun c6 => ?_)
  · refine a_iconst (pc := 13) ok dX5_isFull_13 ?_
    exact a_zret (pc := 14) ok dX5_isFull_14 (by first | rfl | exact nb_bz _ | exact @nb_bz _ (Classical.propDecidable _) | decide) (⟨by first | rfl | exact congrArg (fun z => some (iv z)) (bz_pos (by first | omega | grind)).symm | exact congrArg (fun z => some (iv z)) (bz_neg (by first | omega | grind)).symm, rfl⟩)
  · refine a_iconst (pc := 9) ok dX5_isFull_9 ?_
    refine a_goto (pc := 10) (tgt := 14) ok dX5_isFull_10 (by decide) ?_
    exact a_zret (pc := 14) ok dX5_isFull_14 (by first | rfl | exact nb_bz _ | exact @nb_bz _ (Classical.propDecidable _) | decide) (⟨by first | rfl | exact congrArg (fun z => some (iv z)) (bz_pos (by first | omega | grind)).symm | exact congrArg (fun z => some (iv z)) (bz_neg (by first | omega | grind)).symm, rfl⟩)
theorem dX5_add_0 : decode cX5_add 0 = .ok (.aload_n 0, 1) := by decide +kernel
theorem dX5_add_1 : decode cX5_add 1 = .ok (.invokevirtual 19, 3) := by decide +kernel
theorem dX5_add_4 : decode cX5_add 4 = .ok (.ifCond .ne 23, 3) := by decide +kernel
theorem dX5_add_7 : decode cX5_add 7 = .ok (.aload_n 0, 1) := by decide +kernel
theorem dX5_add_8 : decode cX5_add 8 = .ok (.getfield 9, 3) := by decide +kernel
theorem dX5_add_11 : decode cX5_add 11 = .ok (.aload_n 0, 1) := by decide +kernel
theorem dX5_add_12 : decode cX5_add 12 = .ok (.getfield 15, 3) := by decide +kernel
theorem dX5_add_15 : decode cX5_add 15 = .ok (.iload_n 1, 1) := by decide +kernel
theorem dX5_add_16 : decode cX5_add 16 = .ok (.iastore, 1) := by decide +kernel
theorem dX5_add_17 : decode cX5_add 17 = .ok (.aload_n 0, 1) := by decide +kernel
theorem dX5_add_18 : decode cX5_add 18 = .ok (.dup, 1) := by decide +kernel
theorem dX5_add_19 : decode cX5_add 19 = .ok (.getfield 15, 3) := by decide +kernel
theorem dX5_add_22 : decode cX5_add 22 = .ok (.iconst 1, 1) := by decide +kernel
theorem dX5_add_23 : decode cX5_add 23 = .ok (.iadd, 1) := by decide +kernel
theorem dX5_add_24 : decode cX5_add 24 = .ok (.putfield 15, 3) := by decide +kernel
theorem dX5_add_27 : decode cX5_add 27 = .ok (.aload_n 0, 1) := by decide +kernel
theorem dX5_add_28 : decode cX5_add 28 = .ok (.getfield 15, 3) := by decide +kernel
theorem dX5_add_31 : decode cX5_add 31 = .ok (.ireturn, 1) := by decide +kernel
theorem c_add {x : Int} (hn : 0 ≤ n ∧ n < 120) : Cd l yX5_add cX5_add 2 (some .int) rmX5_add [.ref 0, iv x] (txM n t) (some (iv (n + 1))) (txM (n + 1) (up t n x)) := by
  refine Ct.of miX5_add (Nat.le_of_ble_eq_true rfl) ?_
  intro X hXl hN ok
  refine AW.cast (L2 := [some (.ref 0), some (iv x)]) ?_ rfl rfl rfl
  refine a_aload_n (pc := 0) ok dX5_add_0 rfl ?_
  refine a_callVp (pc := 1) ok [0, 1] dX5_add_1 mv5_19 miX5_isFull (c_isFull (by omega)) ⟨by decide, by decide, rfl, rfl, Nat.zero_le _, Nat.zero_le _⟩ rfl rfl (Nat.le_of_ble_eq_true rfl) rfl (by decide) rfl rfl ?_
  refine a_if_ne (pc := 4) (tgt := 27) ok dX5_add_4 (by decide) (by exact bz_rg _) (fun c4 => ?_) (fun c4 => ?_)
  · exact absurd (bz_neg (show ¬ n = 120 by omega)) c4
  · refine a_aload_n (pc := 7) ok dX5_add_7 rfl ?_
    refine a_getf (pc := 8) ok dX5_add_8 fl5_9 rfl rfl ?_
    refine a_aload_n (pc := 11) ok dX5_add_11 rfl ?_
    refine a_getf (pc := 12) ok dX5_add_12 fl5_15 rfl rfl ?_
    refine a_iload_n (pc := 15) ok dX5_add_15 rfl ?_
    refine a_iast (pc := 16) ok dX5_add_16 rfl (by first | decide | omega) (by first | omega | (unfold rg; omega) | (simp only [rg] at *; omega) | exact bz_rg _ | grind [rg]) ?_
    refine a_aload_n (pc := 17) ok dX5_add_17 rfl ?_
    refine a_dup (pc := 18) ok dX5_add_18 rfl ?_
    refine a_getf (pc := 19) ok dX5_add_19 fl5_15 rfl rfl ?_
    refine a_iconst (pc := 22) ok dX5_add_22 ?_
    refine a_iadd (pc := 23) ok dX5_add_23 ?_
    refine a_putf (pc := 24) ok dX5_add_24 fp5_15 rfl (by first | rfl | decide) (by first | rfl | decide) (Nat.le_of_ble_eq_true rfl) ?_
    refine a_aload_n (pc := 27) ok dX5_add_27 rfl ?_
    refine a_getf (pc := 28) ok dX5_add_28 fl5_15 rfl rfl ?_
    exact a_iret (pc := 31) ok dX5_add_31 (⟨rfl, rfl⟩)
theorem dX5_signAt_0 : decode cX5_signAt 0 = .ok (.iload_n 1, 1) := by decide +kernel
theorem dX5_signAt_1 : decode cX5_signAt 1 = .ok (.ifCond .lt 20, 3) := by decide +kernel
theorem dX5_signAt_4 : decode cX5_signAt 4 = .ok (.iload_n 1, 1) := by decide +kernel
theorem dX5_signAt_5 : decode cX5_signAt 5 = .ok (.aload_n 0, 1) := by decide +kernel
theorem dX5_signAt_6 : decode cX5_signAt 6 = .ok (.getfield 15, 3) := by decide +kernel
theorem dX5_signAt_9 : decode cX5_signAt 9 = .ok (.if_icmp .ge 12, 3) := by decide +kernel
theorem dX5_signAt_12 : decode cX5_signAt 12 = .ok (.aload_n 0, 1) := by decide +kernel
theorem dX5_signAt_13 : decode cX5_signAt 13 = .ok (.getfield 9, 3) := by decide +kernel
theorem dX5_signAt_16 : decode cX5_signAt 16 = .ok (.iload_n 1, 1) := by decide +kernel
theorem dX5_signAt_17 : decode cX5_signAt 17 = .ok (.iaload, 1) := by decide +kernel
theorem dX5_signAt_18 : decode cX5_signAt 18 = .ok (.goto 4, 3) := by decide +kernel
theorem dX5_signAt_21 : decode cX5_signAt 21 = .ok (.iconst 0, 1) := by decide +kernel
theorem dX5_signAt_22 : decode cX5_signAt 22 = .ok (.ireturn, 1) := by decide +kernel
theorem c_signAt {p : Int} (hn : 0 ≤ n ∧ n ≤ 120) (hp : rg p) : Cd l yX5_signAt cX5_signAt 2 (some .int) rmX5_signAt [.ref 0, iv p] (txM n t) (some (iv (sg t n p))) (txM n t) := by
  refine Ct.of miX5_signAt (Nat.le_of_ble_eq_true rfl) ?_
  intro X hXl hN ok
  refine AW.cast (L2 := [some (.ref 0), some (iv p)]) ?_ rfl rfl rfl
  refine a_iload_n (pc := 0) ok dX5_signAt_0 rfl ?_
  refine a_if_lt (pc := 1) (tgt := 21) ok dX5_signAt_1 (by decide) (by first | omega | (unfold rg; omega) | (simp only [rg] at *; omega) | exact bz_rg _ | grind [rg]) (fun c1 => ?_) (fun c1 => ?_)
  · refine a_iconst (pc := 21) ok dX5_signAt_21 ?_
    exact a_iret (pc := 22) ok dX5_signAt_22 (⟨by unfold sg; rw [if_neg (by omega)], rfl⟩)
  · refine a_iload_n (pc := 4) ok dX5_signAt_4 rfl ?_
    refine a_aload_n (pc := 5) ok dX5_signAt_5 rfl ?_
    refine a_getf (pc := 6) ok dX5_signAt_6 fl5_15 rfl rfl ?_
    refine a_icmp_ge (pc := 9) (tgt := 21) ok dX5_signAt_9 (by decide) (by first | omega | (unfold rg; omega) | (simp only [rg] at *; omega) | exact bz_rg _ | grind [rg]) (by first | omega | (unfold rg; omega) | (simp only [rg] at *; omega) | exact bz_rg _ | grind [rg]) (fun c9 => ?_) (fun c9 => ?_)
    · refine a_iconst (pc := 21) ok dX5_signAt_21 ?_
      exact a_iret (pc := 22) ok dX5_signAt_22 (⟨by unfold sg; rw [if_neg (by omega)], rfl⟩)
    · refine a_aload_n (pc := 12) ok dX5_signAt_12 rfl ?_
      refine a_getf (pc := 13) ok dX5_signAt_13 fl5_9 rfl rfl ?_
      refine a_iload_n (pc := 16) ok dX5_signAt_16 rfl ?_
      refine a_iald (pc := 17) ok dX5_signAt_17 rfl (by first | decide | omega) (by first | omega | (unfold rg; omega) | (simp only [rg] at *; omega) | exact bz_rg _ | grind [rg]) ?_
      refine a_goto (pc := 18) (tgt := 22) ok dX5_signAt_18 (by decide) ?_
      exact a_iret (pc := 22) ok dX5_signAt_22 (⟨by unfold sg; rw [if_pos (by omega)], rfl⟩)
theorem dX5_numberAt_0 : decode cX5_numberAt 0 = .ok (.bipush 10, 2) := by decide +kernel
theorem dX5_numberAt_2 : decode cX5_numberAt 2 = .ok (.aload_n 0, 1) := by decide +kernel
theorem dX5_numberAt_3 : decode cX5_numberAt 3 = .ok (.iload_n 1, 1) := by decide +kernel
theorem dX5_numberAt_4 : decode cX5_numberAt 4 = .ok (.invokevirtual 23, 3) := by decide +kernel
theorem dX5_numberAt_7 : decode cX5_numberAt 7 = .ok (.bipush 48, 2) := by decide +kernel
theorem dX5_numberAt_9 : decode cX5_numberAt 9 = .ok (.isub, 1) := by decide +kernel
theorem dX5_numberAt_10 : decode cX5_numberAt 10 = .ok (.imul, 1) := by decide +kernel
theorem dX5_numberAt_11 : decode cX5_numberAt 11 = .ok (.aload_n 0, 1) := by decide +kernel
theorem dX5_numberAt_12 : decode cX5_numberAt 12 = .ok (.iload_n 1, 1) := by decide +kernel
theorem dX5_numberAt_13 : decode cX5_numberAt 13 = .ok (.iconst 1, 1) := by decide +kernel
theorem dX5_numberAt_14 : decode cX5_numberAt 14 = .ok (.iadd, 1) := by decide +kernel
theorem dX5_numberAt_15 : decode cX5_numberAt 15 = .ok (.invokevirtual 23, 3) := by decide +kernel
theorem dX5_numberAt_18 : decode cX5_numberAt 18 = .ok (.iadd, 1) := by decide +kernel
theorem dX5_numberAt_19 : decode cX5_numberAt 19 = .ok (.bipush 48, 2) := by decide +kernel
theorem dX5_numberAt_21 : decode cX5_numberAt 21 = .ok (.isub, 1) := by decide +kernel
theorem dX5_numberAt_22 : decode cX5_numberAt 22 = .ok (.ireturn, 1) := by decide +kernel
theorem c_numberAt {p : Int} (hn : 0 ≤ n ∧ n ≤ 120) (hp : -1000 ≤ p ∧ p ≤ 1000) : Cd l yX5_numberAt cX5_numberAt 2 (some .int) rmX5_numberAt [.ref 0, iv p] (txM n t) (some (iv (nmA t n p))) (txM n t) := by
  refine Ct.of miX5_numberAt (Nat.le_of_ble_eq_true rfl) ?_
  intro X hXl hN ok
  refine AW.cast (L2 := [some (.ref 0), some (iv p)]) ?_ rfl rfl rfl
  refine a_bipush (pc := 0) ok dX5_numberAt_0 (by decide) ?_
  refine a_aload_n (pc := 2) ok dX5_numberAt_2 rfl ?_
  refine a_iload_n (pc := 3) ok dX5_numberAt_3 rfl ?_
  refine a_callVp (pc := 4) ok [0, 1] dX5_numberAt_4 mv5_23 miX5_signAt (c_signAt hn (by unfold rg; omega)) ⟨by decide, by decide, rfl, rfl, Nat.zero_le _, Nat.zero_le _⟩ rfl rfl (Nat.le_of_ble_eq_true rfl) rfl (by decide) rfl rfl ?_
  refine a_bipush (pc := 7) ok dX5_numberAt_7 (by decide) ?_
  refine a_isub (pc := 9) ok dX5_numberAt_9 ?_
  refine a_imul (pc := 10) ok dX5_numberAt_10 ?_
  refine a_aload_n (pc := 11) ok dX5_numberAt_11 rfl ?_
  refine a_iload_n (pc := 12) ok dX5_numberAt_12 rfl ?_
  refine a_iconst (pc := 13) ok dX5_numberAt_13 ?_
  refine a_iadd (pc := 14) ok dX5_numberAt_14 ?_
  refine a_callVp (pc := 15) ok [0, 1] dX5_numberAt_15 mv5_23 miX5_signAt (c_signAt hn (by unfold rg; omega)) ⟨by decide, by decide, rfl, rfl, Nat.zero_le _, Nat.zero_le _⟩ rfl rfl (Nat.le_of_ble_eq_true rfl) rfl (by decide) rfl rfl ?_
  refine a_iadd (pc := 18) ok dX5_numberAt_18 ?_
  refine a_bipush (pc := 19) ok dX5_numberAt_19 (by decide) ?_
  refine a_isub (pc := 21) ok dX5_numberAt_21 ?_
  exact a_iret (pc := 22) ok dX5_numberAt_22 (⟨rfl, rfl⟩)
theorem dX5_numbersOf_0 : decode cX5_numbersOf 0 = .ok (.iload_n 0, 1) := by decide +kernel
theorem dX5_numbersOf_1 : decode cX5_numbersOf 1 = .ok (.lookupswitch 93 #[(69, 83), (98, 87), (105, 91), (107, 89), (109, 89), (112, 85), (115, 89), (116, 89), (117, 91)], 83) := by decide +kernel
theorem dX5_numbersOf_84 : decode cX5_numbersOf 84 = .ok (.iconst 2, 1) := by decide +kernel
theorem dX5_numbersOf_85 : decode cX5_numbersOf 85 = .ok (.ireturn, 1) := by decide +kernel
theorem dX5_numbersOf_86 : decode cX5_numbersOf 86 = .ok (.iconst 3, 1) := by decide +kernel
theorem dX5_numbersOf_87 : decode cX5_numbersOf 87 = .ok (.ireturn, 1) := by decide +kernel
theorem dX5_numbersOf_88 : decode cX5_numbersOf 88 = .ok (.iconst 5, 1) := by decide +kernel
theorem dX5_numbersOf_89 : decode cX5_numbersOf 89 = .ok (.ireturn, 1) := by decide +kernel
theorem dX5_numbersOf_90 : decode cX5_numbersOf 90 = .ok (.iconst 1, 1) := by decide +kernel
theorem dX5_numbersOf_91 : decode cX5_numbersOf 91 = .ok (.ireturn, 1) := by decide +kernel
theorem dX5_numbersOf_92 : decode cX5_numbersOf 92 = .ok (.iconst 0, 1) := by decide +kernel
theorem dX5_numbersOf_93 : decode cX5_numbersOf 93 = .ok (.ireturn, 1) := by decide +kernel
theorem dX5_numbersOf_94 : decode cX5_numbersOf 94 = .ok (.iconst (-1), 1) := by decide +kernel
theorem dX5_numbersOf_95 : decode cX5_numbersOf 95 = .ok (.ireturn, 1) := by decide +kernel
theorem c_numbersOf {k : Int} (hk : 0 ≤ k ∧ k ≤ 255) : Cd l yX5_numbersOf cX5_numbersOf 1 (some .int) rmX5_numbersOf [iv k] [] (some (iv (nuO k))) [] := by
  refine Ct.of miX5_numbersOf (Nat.le_of_ble_eq_true rfl) ?_
  intro X hXl hN ok
  refine AW.cast (L2 := [some (iv k)]) ?_ rfl rfl rfl
  refine a_iload_n (pc := 0) ok dX5_numbersOf_0 rfl ?_
  refine a_look (pc := 1) (dt := 94) ok [84, 88, 92, 90, 90, 86, 90, 90, 92] dX5_numbersOf_1 (by decide) (by decide) (by decide) (by first | omega | (unfold rg; omega) | (simp only [rg] at *; omega) | exact bz_rg _ | grind [rg]) (fun j1 hj1 c1 => ?_) (fun c1 => ?_)
  · rcases (show j1 = 0 ∨ j1 = 1 ∨ j1 = 2 ∨ j1 = 3 ∨ j1 = 4 ∨ j1 = 5 ∨ j1 = 6 ∨ j1 = 7 ∨ j1 = 8 by simp only [List.length_cons, List.length_nil] at hj1; omega) with rfl | rfl | rfl | rfl | rfl | rfl | rfl | rfl | rfl
    · have c1 : _ = (69 : Int) := c1
      refine a_iconst (pc := 84) ok dX5_numbersOf_84 ?_
      exact a_iret (pc := 85) ok dX5_numbersOf_85 (⟨by unfold nuO; rw [if_pos (by omega)], rfl⟩)
    · have c1 : _ = (98 : Int) := c1
      refine a_iconst (pc := 88) ok dX5_numbersOf_88 ?_
      exact a_iret (pc := 89) ok dX5_numbersOf_89 (⟨by unfold nuO; rw [if_neg (by omega), if_pos (by omega)], rfl⟩)
    · have c1 : _ = (105 : Int) := c1
      refine a_iconst (pc := 92) ok dX5_numbersOf_92 ?_
      exact a_iret (pc := 93) ok dX5_numbersOf_93 (⟨by unfold nuO; rw [if_neg (by omega), if_neg (by omega), if_pos (by omega)], rfl⟩)
    · have c1 : _ = (107 : Int) := c1
      refine a_iconst (pc := 90) ok dX5_numbersOf_90 ?_
      exact a_iret (pc := 91) ok dX5_numbersOf_91 (⟨by unfold nuO; rw [if_neg (by omega), if_neg (by omega), if_neg (by omega), if_pos (by omega)], rfl⟩)
    · have c1 : _ = (109 : Int) := c1
      refine a_iconst (pc := 90) ok dX5_numbersOf_90 ?_
      exact a_iret (pc := 91) ok dX5_numbersOf_91 (⟨by unfold nuO; rw [if_neg (by omega), if_neg (by omega), if_neg (by omega), if_pos (by omega)], rfl⟩)
    · have c1 : _ = (112 : Int) := c1
      refine a_iconst (pc := 86) ok dX5_numbersOf_86 ?_
      exact a_iret (pc := 87) ok dX5_numbersOf_87 (⟨by unfold nuO; rw [if_neg (by omega), if_neg (by omega), if_neg (by omega), if_neg (by omega), if_pos (by omega)], rfl⟩)
    · have c1 : _ = (115 : Int) := c1
      refine a_iconst (pc := 90) ok dX5_numbersOf_90 ?_
      exact a_iret (pc := 91) ok dX5_numbersOf_91 (⟨by unfold nuO; rw [if_neg (by omega), if_neg (by omega), if_neg (by omega), if_pos (by omega)], rfl⟩)
    · have c1 : _ = (116 : Int) := c1
      refine a_iconst (pc := 90) ok dX5_numbersOf_90 ?_
      exact a_iret (pc := 91) ok dX5_numbersOf_91 (⟨by unfold nuO; rw [if_neg (by omega), if_neg (by omega), if_neg (by omega), if_pos (by omega)], rfl⟩)
    · have c1 : _ = (117 : Int) := c1
      refine a_iconst (pc := 92) ok dX5_numbersOf_92 ?_
      exact a_iret (pc := 93) ok dX5_numbersOf_93 (⟨by unfold nuO; rw [if_neg (by omega), if_neg (by omega), if_pos (by omega)], rfl⟩)
  · have c1_69 := c1 69 (by decide)
    have c1_98 := c1 98 (by decide)
    have c1_105 := c1 105 (by decide)
    have c1_107 := c1 107 (by decide)
    have c1_109 := c1 109 (by decide)
    have c1_112 := c1 112 (by decide)
    have c1_115 := c1 115 (by decide)
    have c1_116 := c1 116 (by decide)
    have c1_117 := c1 117 (by decide)
    refine a_iconst (pc := 94) ok dX5_numbersOf_94 ?_
    exact a_iret (pc := 95) ok dX5_numbersOf_95 (⟨by unfold nuO; rw [if_neg (by omega), if_neg (by omega), if_neg (by omega), if_neg (by omega), if_neg (by omega)], rfl⟩)
theorem dX5_lowestNumber_0 : decode cX5_lowestNumber 0 = .ok (.iload_n 0, 1) := by decide +kernel
theorem dX5_lowestNumber_1 : decode cX5_lowestNumber 1 = .ok (.bipush 112, 2) := by decide +kernel
theorem dX5_lowestNumber_3 : decode cX5_lowestNumber 3 = .ok (.if_icmp .eq 9, 3) := by decide +kernel
theorem dX5_lowestNumber_6 : decode cX5_lowestNumber 6 = .ok (.iload_n 0, 1) := by decide +kernel
theorem dX5_lowestNumber_7 : decode cX5_lowestNumber 7 = .ok (.bipush 98, 2) := by decide +kernel
theorem dX5_lowestNumber_9 : decode cX5_lowestNumber 9 = .ok (.if_icmp .ne 7, 3) := by decide +kernel
theorem dX5_lowestNumber_12 : decode cX5_lowestNumber 12 = .ok (.iconst 0, 1) := by decide +kernel
theorem dX5_lowestNumber_13 : decode cX5_lowestNumber 13 = .ok (.goto 4, 3) := by decide +kernel
theorem dX5_lowestNumber_16 : decode cX5_lowestNumber 16 = .ok (.iconst 1, 1) := by decide +kernel
theorem dX5_lowestNumber_17 : decode cX5_lowestNumber 17 = .ok (.ireturn, 1) := by decide +kernel
theorem c_lowestNumber {k : Int} (hk : 0 ≤ k ∧ k ≤ 255) : Cd l yX5_lowestNumber cX5_lowestNumber 1 (some .int) rmX5_lowestNumber [iv k] [] (some (iv (loO k))) [] := by
  refine Ct.of miX5_lowestNumber (Nat.le_of_ble_eq_true rfl) ?_
  intro X hXl hN ok
  refine AW.cast (L2 := [some (iv k)]) ?_ rfl rfl rfl
  refine a_iload_n (pc := 0) ok dX5_lowestNumber_0 rfl ?_
  refine a_bipush (pc := 1) ok dX5_lowestNumber_1 (by decide) ?_
  refine a_icmp_eq (pc := 3) (tgt := 12) ok dX5_lowestNumber_3 (by decide) (by first | omega | (unfold rg; omega) | (simp only [rg] at *; omega) | exact bz_rg _ | grind [rg]) (by first | omega | (unfold rg; omega) | (simp only [rg] at *; omega) | exact bz_rg _ | grind [rg]) (fun c3 => ?_) (fun c3 => ?_)
  · refine a_iconst (pc := 12) ok dX5_lowestNumber_12 ?_
    refine a_goto (pc := 13) (tgt := 17) ok dX5_lowestNumber_13 (by decide) ?_
    exact a_iret (pc := 17) ok dX5_lowestNumber_17 (⟨by unfold loO; first | rw [if_pos (by omega)] | rw [if_neg (by omega)], rfl⟩)
  · refine a_iload_n (pc := 6) ok dX5_lowestNumber_6 rfl ?_
    refine a_bipush (pc := 7) ok dX5_lowestNumber_7 (by decide) ?_
    refine a_icmp_ne (pc := 9) (tgt := 16) ok dX5_lowestNumber_9 (by decide) (by first | omega | (unfold rg; omega) | (simp only [rg] at *; omega) | exact bz_rg _ | grind [rg]) (by first | omega | (unfold rg; omega) | (simp only [rg] at *; omega) | exact bz_rg _ | grind [rg]) (fun c9 => ?_) (fun c9 => ?_)
    · refine a_iconst (pc := 16) ok dX5_lowestNumber_16 ?_
      exact a_iret (pc := 17) ok dX5_lowestNumber_17 (⟨by unfold loO; first | rw [if_pos (by omega)] | rw [if_neg (by omega)], rfl⟩)
    · refine a_iconst (pc := 12) ok dX5_lowestNumber_12 ?_
      refine a_goto (pc := 13) (tgt := 17) ok dX5_lowestNumber_13 (by decide) ?_
      exact a_iret (pc := 17) ok dX5_lowestNumber_17 (⟨by unfold loO; first | rw [if_pos (by omega)] | rw [if_neg (by omega)], rfl⟩)
theorem dX5_highestNumber_0 : decode cX5_highestNumber 0 = .ok (.iload_n 0, 1) := by decide +kernel
theorem dX5_highestNumber_1 : decode cX5_highestNumber 1 = .ok (.lookupswitch 86 #[(69, 51), (98, 67), (109, 80), (112, 54), (115, 83)], 51) := by decide +kernel
theorem dX5_highestNumber_52 : decode cX5_highestNumber 52 = .ok (.bipush 12, 2) := by decide +kernel
theorem dX5_highestNumber_54 : decode cX5_highestNumber 54 = .ok (.ireturn, 1) := by decide +kernel
theorem dX5_highestNumber_55 : decode cX5_highestNumber 55 = .ok (.iload_n 1, 1) := by decide +kernel
theorem dX5_highestNumber_56 : decode cX5_highestNumber 56 = .ok (.iconst 2, 1) := by decide +kernel
theorem dX5_highestNumber_57 : decode cX5_highestNumber 57 = .ok (.if_icmp .ge 8, 3) := by decide +kernel
theorem dX5_highestNumber_60 : decode cX5_highestNumber 60 = .ok (.bipush 11, 2) := by decide +kernel
theorem dX5_highestNumber_62 : decode cX5_highestNumber 62 = .ok (.goto 5, 3) := by decide +kernel
theorem dX5_highestNumber_65 : decode cX5_highestNumber 65 = .ok (.bipush 99, 2) := by decide +kernel
theorem dX5_highestNumber_67 : decode cX5_highestNumber 67 = .ok (.ireturn, 1) := by decide +kernel
theorem dX5_highestNumber_68 : decode cX5_highestNumber 68 = .ok (.iload_n 1, 1) := by decide +kernel
theorem dX5_highestNumber_69 : decode cX5_highestNumber 69 = .ok (.iconst 4, 1) := by decide +kernel
theorem dX5_highestNumber_70 : decode cX5_highestNumber 70 = .ok (.if_icmp .ge 8, 3) := by decide +kernel
theorem dX5_highestNumber_73 : decode cX5_highestNumber 73 = .ok (.bipush 11, 2) := by decide +kernel
theorem dX5_highestNumber_75 : decode cX5_highestNumber 75 = .ok (.goto 5, 3) := by decide +kernel
theorem dX5_highestNumber_78 : decode cX5_highestNumber 78 = .ok (.bipush 99, 2) := by decide +kernel
theorem dX5_highestNumber_80 : decode cX5_highestNumber 80 = .ok (.ireturn, 1) := by decide +kernel
theorem dX5_highestNumber_81 : decode cX5_highestNumber 81 = .ok (.bipush 30, 2) := by decide +kernel
theorem dX5_highestNumber_83 : decode cX5_highestNumber 83 = .ok (.ireturn, 1) := by decide +kernel
theorem dX5_highestNumber_84 : decode cX5_highestNumber 84 = .ok (.bipush 49, 2) := by decide +kernel
theorem dX5_highestNumber_86 : decode cX5_highestNumber 86 = .ok (.ireturn, 1) := by decide +kernel
theorem dX5_highestNumber_87 : decode cX5_highestNumber 87 = .ok (.bipush 99, 2) := by decide +kernel
theorem dX5_highestNumber_89 : decode cX5_highestNumber 89 = .ok (.ireturn, 1) := by decide +kernel
theorem c_highestNumber {k w : Int} (hk : 0 ≤ k ∧ k ≤ 255) (hw : rg w) : Cd l yX5_highestNumber cX5_highestNumber 2 (some .int) rmX5_highestNumber [iv k, iv w] [] (some (iv (hiO k w))) [] := by
  refine Ct.of miX5_highestNumber (Nat.le_of_ble_eq_true rfl) ?_
  intro X hXl hN ok
  refine AW.cast (L2 := [some (iv k), some (iv w)]) ?_ rfl rfl rfl
  refine a_iload_n (pc := 0) ok dX5_highestNumber_0 rfl ?_
  refine a_look (pc := 1) (dt := 87) ok [52, 68, 81, 55, 84] dX5_highestNumber_1 (by decide) (by decide) (by decide) (by first | omega | (unfold rg; omega) | (simp only [rg] at *; omega) | exact bz_rg _ | grind [rg]) (fun j1 hj1 c1 => ?_) (fun c1 => ?_)
  · rcases (show j1 = 0 ∨ j1 = 1 ∨ j1 = 2 ∨ j1 = 3 ∨ j1 = 4 by simp only [List.length_cons, List.length_nil] at hj1; omega) with rfl | rfl | rfl | rfl | rfl
    · have c1 : _ = (69 : Int) := c1
      refine a_bipush (pc := 52) ok dX5_highestNumber_52 (by decide) ?_
      exact a_iret (pc := 54) ok dX5_highestNumber_54 (⟨by unfold hiO; rw [if_pos (by omega)], rfl⟩)
    · have c1 : _ = (98 : Int) := c1
      refine a_iload_n (pc := 68) ok dX5_highestNumber_68 rfl ?_
      refine a_iconst (pc := 69) ok dX5_highestNumber_69 ?_
      refine a_icmp_ge (pc := 70) (tgt := 78) ok dX5_highestNumber_70 (by decide) (by first | omega | (unfold rg; omega) | (simp only [rg] at *; omega) | exact bz_rg _ | grind [rg]) (by first | omega | (unfold rg; omega) | (simp only [rg] at *; omega) | exact bz_rg _ | grind [rg]) (fun c70 => ?_) (fun c70 => ?_)
      · refine a_bipush (pc := 78) ok dX5_highestNumber_78 (by decide) ?_
        exact a_iret (pc := 80) ok dX5_highestNumber_80 (⟨by unfold hiO; rw [if_neg (by omega), if_pos (by omega), if_neg (by omega)], rfl⟩)
      · refine a_bipush (pc := 73) ok dX5_highestNumber_73 (by decide) ?_
        refine a_goto (pc := 75) (tgt := 80) ok dX5_highestNumber_75 (by decide) ?_
        exact a_iret (pc := 80) ok dX5_highestNumber_80 (⟨by unfold hiO; rw [if_neg (by omega), if_pos (by omega), if_pos (by omega)], rfl⟩)
    · have c1 : _ = (109 : Int) := c1
      refine a_bipush (pc := 81) ok dX5_highestNumber_81 (by decide) ?_
      exact a_iret (pc := 83) ok dX5_highestNumber_83 (⟨by unfold hiO; rw [if_neg (by omega), if_neg (by omega), if_pos (by omega)], rfl⟩)
    · have c1 : _ = (112 : Int) := c1
      refine a_iload_n (pc := 55) ok dX5_highestNumber_55 rfl ?_
      refine a_iconst (pc := 56) ok dX5_highestNumber_56 ?_
      refine a_icmp_ge (pc := 57) (tgt := 65) ok dX5_highestNumber_57 (by decide) (by first | omega | (unfold rg; omega) | (simp only [rg] at *; omega) | exact bz_rg _ | grind [rg]) (by first | omega | (unfold rg; omega) | (simp only [rg] at *; omega) | exact bz_rg _ | grind [rg]) (fun c57 => ?_) (fun c57 => ?_)
      · refine a_bipush (pc := 65) ok dX5_highestNumber_65 (by decide) ?_
        exact a_iret (pc := 67) ok dX5_highestNumber_67 (⟨by unfold hiO; rw [if_neg (by omega), if_neg (by omega), if_neg (by omega), if_pos (by omega), if_neg (by omega)], rfl⟩)
      · refine a_bipush (pc := 60) ok dX5_highestNumber_60 (by decide) ?_
        refine a_goto (pc := 62) (tgt := 67) ok dX5_highestNumber_62 (by decide) ?_
        exact a_iret (pc := 67) ok dX5_highestNumber_67 (⟨by unfold hiO; rw [if_neg (by omega), if_neg (by omega), if_neg (by omega), if_pos (by omega), if_pos (by omega)], rfl⟩)
    · have c1 : _ = (115 : Int) := c1
      refine a_bipush (pc := 84) ok dX5_highestNumber_84 (by decide) ?_
      exact a_iret (pc := 86) ok dX5_highestNumber_86 (⟨by unfold hiO; rw [if_neg (by omega), if_neg (by omega), if_neg (by omega), if_neg (by omega), if_pos (by omega)], rfl⟩)
  · have c1_69 := c1 69 (by decide)
    have c1_98 := c1 98 (by decide)
    have c1_109 := c1 109 (by decide)
    have c1_112 := c1 112 (by decide)
    have c1_115 := c1 115 (by decide)
    refine a_bipush (pc := 87) ok dX5_highestNumber_87 (by decide) ?_
    exact a_iret (pc := 89) ok dX5_highestNumber_89 (⟨by unfold hiO; rw [if_neg (by omega), if_neg (by omega), if_neg (by omega), if_neg (by omega), if_neg (by omega)], rfl⟩)
theorem dX5_wordEnd_0 : decode cX5_wordEnd 0 = .ok (.iload_n 1, 1) := by decide +kernel
theorem dX5_wordEnd_1 : decode cX5_wordEnd 1 = .ok (.iconst 1, 1) := by decide +kernel
theorem dX5_wordEnd_2 : decode cX5_wordEnd 2 = .ok (.iadd, 1) := by decide +kernel
theorem dX5_wordEnd_3 : decode cX5_wordEnd 3 = .ok (.iconst 2, 1) := by decide +kernel
theorem dX5_wordEnd_4 : decode cX5_wordEnd 4 = .ok (.iconst 0, 1) := by decide +kernel
theorem dX5_wordEnd_5 : decode cX5_wordEnd 5 = .ok (.aload_n 0, 1) := by decide +kernel
theorem dX5_wordEnd_6 : decode cX5_wordEnd 6 = .ok (.iload_n 1, 1) := by decide +kernel
theorem dX5_wordEnd_7 : decode cX5_wordEnd 7 = .ok (.invokevirtual 23, 3) := by decide +kernel
theorem dX5_wordEnd_10 : decode cX5_wordEnd 10 = .ok (.invokestatic 27, 3) := by decide +kernel
theorem dX5_wordEnd_13 : decode cX5_wordEnd 13 = .ok (.invokestatic 30, 3) := by decide +kernel
theorem dX5_wordEnd_16 : decode cX5_wordEnd 16 = .ok (.imul, 1) := by decide +kernel
theorem dX5_wordEnd_17 : decode cX5_wordEnd 17 = .ok (.iadd, 1) := by decide +kernel
theorem dX5_wordEnd_18 : decode cX5_wordEnd 18 = .ok (.ireturn, 1) := by decide +kernel
theorem c_wordEnd {p : Int} (hn : 0 ≤ n ∧ n ≤ 120) (ht : ∀ i, 0 ≤ t i ∧ t i ≤ 255) (hp : -1000 ≤ p ∧ p ≤ 1000) : Cd l yX5_wordEnd cX5_wordEnd 2 (some .int) rmX5_wordEnd [.ref 0, iv p] (txM n t) (some (iv (wE t n p))) (txM n t) := by
  refine Ct.of miX5_wordEnd (Nat.le_of_ble_eq_true rfl) ?_
  intro X hXl hN ok
  refine AW.cast (L2 := [some (.ref 0), some (iv p)]) ?_ rfl rfl rfl
  have hs := sg_rg (n := n) ht p
  have hu := nuO_rg (sg t n p)
  refine a_iload_n (pc := 0) ok dX5_wordEnd_0 rfl ?_
  refine a_iconst (pc := 1) ok dX5_wordEnd_1 ?_
  refine a_iadd (pc := 2) ok dX5_wordEnd_2 ?_
  refine a_iconst (pc := 3) ok dX5_wordEnd_3 ?_
  refine a_iconst (pc := 4) ok dX5_wordEnd_4 ?_
  refine a_aload_n (pc := 5) ok dX5_wordEnd_5 rfl ?_
  refine a_iload_n (pc := 6) ok dX5_wordEnd_6 rfl ?_
  refine a_callVp (pc := 7) ok [0, 1] dX5_wordEnd_7 mv5_23 miX5_signAt (c_signAt hn (by unfold rg; omega)) ⟨by decide, by decide, rfl, rfl, Nat.zero_le _, Nat.zero_le _⟩ rfl rfl (Nat.le_of_ble_eq_true rfl) rfl (by decide) rfl rfl ?_
  refine a_callSp (pc := 10) ok [] dX5_wordEnd_10 mv5_27 miX5_numbersOf (c_numbersOf hs) ⟨by decide, by decide, rfl, rfl, Nat.zero_le _, Nat.zero_le _⟩ rfl rfl (Nat.le_of_ble_eq_true rfl) rfl (by decide) ?_
  refine a_mmax (pc := 13) ok dX5_wordEnd_13 (ug2 155 (by decide +kernel) rfl) ⟨by decide, by decide, Nat.zero_le _, Nat.zero_le _⟩ (Nat.le_of_ble_eq_true rfl) (by first | omega | (unfold rg; omega) | (simp only [rg] at *; omega) | exact bz_rg _ | grind [rg]) (by first | omega | (unfold rg; omega) | (simp only [rg] at *; omega) | exact bz_rg _ | grind [rg]) ?_
  refine a_imul (pc := 16) ok dX5_wordEnd_16 ?_
  refine a_iadd (pc := 17) ok dX5_wordEnd_17 ?_
  exact a_iret (pc := 18) ok dX5_wordEnd_18 (⟨rfl, rfl⟩)
theorem hiO_rg (k w : Int) : 11 ≤ hiO k w ∧ hiO k w ≤ 99 := by
  unfold hiO
  repeat' split
  all_goals omega
theorem loO_rg (k : Int) : 0 ≤ loO k ∧ loO k ≤ 1 := by unfold loO; split <;> omega
theorem dX5_isDigitAllowed_0 : decode cX5_isDigitAllowed 0 = .ok (.aload_n 0, 1) := by decide +kernel
theorem dX5_isDigitAllowed_1 : decode cX5_isDigitAllowed 1 = .ok (.getfield 9, 3) := by decide +kernel
theorem dX5_isDigitAllowed_4 : decode cX5_isDigitAllowed 4 = .ok (.iload_n 3, 1) := by decide +kernel
theorem dX5_isDigitAllowed_5 : decode cX5_isDigitAllowed 5 = .ok (.iaload, 1) := by decide +kernel
theorem dX5_isDigitAllowed_6 : decode cX5_isDigitAllowed 6 = .ok (.bipush 48, 2) := by decide +kernel
theorem dX5_isDigitAllowed_8 : decode cX5_isDigitAllowed 8 = .ok (.isub, 1) := by decide +kernel
theorem dX5_isDigitAllowed_9 : decode cX5_isDigitAllowed 9 = .ok (.istore 4, 2) := by decide +kernel
theorem dX5_isDigitAllowed_11 : decode cX5_isDigitAllowed 11 = .ok (.iload 4, 2) := by decide +kernel
theorem dX5_isDigitAllowed_13 : decode cX5_isDigitAllowed 13 = .ok (.iconst 0, 1) := by decide +kernel
theorem dX5_isDigitAllowed_14 : decode cX5_isDigitAllowed 14 = .ok (.bipush 9, 2) := by decide +kernel
theorem dX5_isDigitAllowed_16 : decode cX5_isDigitAllowed 16 = .ok (.invokestatic 47, 3) := by decide +kernel
theorem dX5_isDigitAllowed_19 : decode cX5_isDigitAllowed 19 = .ok (.ifCond .ne 5, 3) := by decide +kernel
theorem dX5_isDigitAllowed_22 : decode cX5_isDigitAllowed 22 = .ok (.iconst 0, 1) := by decide +kernel
theorem dX5_isDigitAllowed_23 : decode cX5_isDigitAllowed 23 = .ok (.ireturn, 1) := by decide +kernel
theorem dX5_isDigitAllowed_24 : decode cX5_isDigitAllowed 24 = .ok (.iload_n 3, 1) := by decide +kernel
theorem dX5_isDigitAllowed_25 : decode cX5_isDigitAllowed 25 = .ok (.iload_n 2, 1) := by decide +kernel
theorem dX5_isDigitAllowed_26 : decode cX5_isDigitAllowed 26 = .ok (.isub, 1) := by decide +kernel
theorem dX5_isDigitAllowed_27 : decode cX5_isDigitAllowed 27 = .ok (.iconst 1, 1) := by decide +kernel
theorem dX5_isDigitAllowed_28 : decode cX5_isDigitAllowed 28 = .ok (.isub, 1) := by decide +kernel
theorem dX5_isDigitAllowed_29 : decode cX5_isDigitAllowed 29 = .ok (.istore 5, 2) := by decide +kernel
theorem dX5_isDigitAllowed_31 : decode cX5_isDigitAllowed 31 = .ok (.iload_n 1, 1) := by decide +kernel
theorem dX5_isDigitAllowed_32 : decode cX5_isDigitAllowed 32 = .ok (.invokestatic 50, 3) := by decide +kernel
theorem dX5_isDigitAllowed_35 : decode cX5_isDigitAllowed 35 = .ok (.istore 6, 2) := by decide +kernel
theorem dX5_isDigitAllowed_37 : decode cX5_isDigitAllowed 37 = .ok (.iload_n 1, 1) := by decide +kernel
theorem dX5_isDigitAllowed_38 : decode cX5_isDigitAllowed 38 = .ok (.iload 5, 2) := by decide +kernel
theorem dX5_isDigitAllowed_40 : decode cX5_isDigitAllowed 40 = .ok (.iconst 2, 1) := by decide +kernel
theorem dX5_isDigitAllowed_41 : decode cX5_isDigitAllowed 41 = .ok (.idiv, 1) := by decide +kernel
theorem dX5_isDigitAllowed_42 : decode cX5_isDigitAllowed 42 = .ok (.invokestatic 53, 3) := by decide +kernel
theorem dX5_isDigitAllowed_45 : decode cX5_isDigitAllowed 45 = .ok (.istore 7, 2) := by decide +kernel
theorem dX5_isDigitAllowed_47 : decode cX5_isDigitAllowed 47 = .ok (.iload 5, 2) := by decide +kernel
theorem dX5_isDigitAllowed_49 : decode cX5_isDigitAllowed 49 = .ok (.iconst 2, 1) := by decide +kernel
theorem dX5_isDigitAllowed_50 : decode cX5_isDigitAllowed 50 = .ok (.irem, 1) := by decide +kernel
theorem dX5_isDigitAllowed_51 : decode cX5_isDigitAllowed 51 = .ok (.ifCond .ne 19, 3) := by decide +kernel
theorem dX5_isDigitAllowed_54 : decode cX5_isDigitAllowed 54 = .ok (.iload 4, 2) := by decide +kernel
theorem dX5_isDigitAllowed_56 : decode cX5_isDigitAllowed 56 = .ok (.iload 6, 2) := by decide +kernel
theorem dX5_isDigitAllowed_58 : decode cX5_isDigitAllowed 58 = .ok (.bipush 10, 2) := by decide +kernel
theorem dX5_isDigitAllowed_60 : decode cX5_isDigitAllowed 60 = .ok (.idiv, 1) := by decide +kernel
theorem dX5_isDigitAllowed_61 : decode cX5_isDigitAllowed 61 = .ok (.iload 7, 2) := by decide +kernel
theorem dX5_isDigitAllowed_63 : decode cX5_isDigitAllowed 63 = .ok (.bipush 10, 2) := by decide +kernel
theorem dX5_isDigitAllowed_65 : decode cX5_isDigitAllowed 65 = .ok (.idiv, 1) := by decide +kernel
theorem dX5_isDigitAllowed_66 : decode cX5_isDigitAllowed 66 = .ok (.invokestatic 47, 3) := by decide +kernel
theorem dX5_isDigitAllowed_69 : decode cX5_isDigitAllowed 69 = .ok (.ireturn, 1) := by decide +kernel
theorem dX5_isDigitAllowed_70 : decode cX5_isDigitAllowed 70 = .ok (.aload_n 0, 1) := by decide +kernel
theorem dX5_isDigitAllowed_71 : decode cX5_isDigitAllowed 71 = .ok (.iload_n 3, 1) := by decide +kernel
theorem dX5_isDigitAllowed_72 : decode cX5_isDigitAllowed 72 = .ok (.iconst 1, 1) := by decide +kernel
theorem dX5_isDigitAllowed_73 : decode cX5_isDigitAllowed 73 = .ok (.isub, 1) := by decide +kernel
theorem dX5_isDigitAllowed_74 : decode cX5_isDigitAllowed 74 = .ok (.invokevirtual 56, 3) := by decide +kernel
theorem dX5_isDigitAllowed_77 : decode cX5_isDigitAllowed 77 = .ok (.iload 6, 2) := by decide +kernel
theorem dX5_isDigitAllowed_79 : decode cX5_isDigitAllowed 79 = .ok (.iload 7, 2) := by decide +kernel
theorem dX5_isDigitAllowed_81 : decode cX5_isDigitAllowed 81 = .ok (.invokestatic 47, 3) := by decide +kernel
theorem dX5_isDigitAllowed_84 : decode cX5_isDigitAllowed 84 = .ok (.ireturn, 1) := by decide +kernel
theorem c_isDigitAllowed {k p j : Int} (hn : 0 ≤ n ∧ n ≤ 120) (ht : ∀ i, 0 ≤ t i ∧ t i ≤ 255) (hk : 0 ≤ k ∧ k ≤ 255) (hp : 0 ≤ p ∧ p ≤ 1000) (hj : 0 ≤ j ∧ j ≤ 20) (hpl : p + 1 + j < n) : Cd l yX5_isDigitAllowed cX5_isDigitAllowed 8 (some .boolean) rmX5_isDigitAllowed [.ref 0, iv k, iv p, iv (p + 1 + j)] (txM n t) (some (iv (@bz (dOk t n k p j) (Classical.propDecidable _)))) (txM n t) := by
  refine Ct.of miX5_isDigitAllowed (Nat.le_of_ble_eq_true rfl) ?_
  intro X hXl hN ok
  refine AW.cast (L2 := [some (.ref 0), some (iv k), some (iv p), some (iv (p + 1 + j)), none, none, none, none]) ?_ rfl rfl rfl
  have htp := ht (p + 1 + j)
  have hl := loO_rg k
  have hh := hiO_rg k (j / 2)
  have hnm : -1000 ≤ nmA t n (p + j) ∧ nmA t n (p + j) ≤ 10000 := by
    have a := sg_rg (n := n) ht (p + j)
    have d := sg_rg (n := n) ht (p + j + 1)
    unfold nmA; omega
  have e1 : p + 1 + j - p - 1 = j := by omega
  have e2 : p + 1 + j - 1 = p + j := by omega
  have b0 : ∀ q : Prop, ∀ [Decidable q], ¬ q → (dOk t n k p j → q) → bz q = @bz (dOk t n k p j) (Classical.propDecidable _) := fun q _ h1 h2 => by rw [bz_neg h1, @bz_neg _ (Classical.propDecidable _) (fun z => h1 (h2 z))]
  have b1 : ∀ q : Prop, ∀ [Decidable q], (dOk t n k p j ↔ q) → bz q = @bz (dOk t n k p j) (Classical.propDecidable _) := fun q _ h => by
    by_cases z : q
    · rw [bz_pos z, @bz_pos _ (Classical.propDecidable _) (h.mpr z)]
    · rw [bz_neg z, @bz_neg _ (Classical.propDecidable _) (fun y => z (h.mp y))]
  refine a_aload_n (pc := 0) ok dX5_isDigitAllowed_0 rfl ?_
  refine a_getf (pc := 1) ok dX5_isDigitAllowed_1 fl5_9 rfl rfl ?_
  refine a_iload_n (pc := 4) ok dX5_isDigitAllowed_4 rfl ?_
  refine a_iald (pc := 5) ok dX5_isDigitAllowed_5 rfl (by first | decide | omega) (by first | omega | (unfold rg; omega) | (simp only [rg] at *; omega) | exact bz_rg _ | grind [rg]) ?_
  refine a_bipush (pc := 6) ok dX5_isDigitAllowed_6 (by decide) ?_
  refine a_isub (pc := 8) ok dX5_isDigitAllowed_8 ?_
  refine a_istore (pc := 9) ok dX5_isDigitAllowed_9 rfl (by rw [hN]; decide) ?_
  refine a_iload (pc := 11) ok dX5_isDigitAllowed_11 rfl ?_
  refine a_iconst (pc := 13) ok dX5_isDigitAllowed_13 ?_
  refine a_bipush (pc := 14) ok dX5_isDigitAllowed_14 (by decide) ?_
  refine a_callSp (pc := 16) ok [] dX5_isDigitAllowed_16 mv5_47 miX6_isWithin (c_isWithin (by unfold rg; omega) (by unfold rg; omega) (by unfold rg; omega)) ⟨by decide, by decide, rfl, rfl, Nat.zero_le _, Nat.zero_le _⟩ rfl rfl (Nat.le_of_ble_eq_true rfl) rfl (by decide) ?_
  refine a_if_ne (pc := 19) (tgt := 24) ok dX5_isDigitAllowed_19 (by decide) (by exact bz_rg _) (fun c19 => ?_) (fun c19 => ?_)
  · refine a_iload_n (pc := 24) ok dX5_isDigitAllowed_24 rfl ?_
    refine a_iload_n (pc := 25) ok dX5_isDigitAllowed_25 rfl ?_
    refine a_isub (pc := 26) ok dX5_isDigitAllowed_26 ?_
    refine a_iconst (pc := 27) ok dX5_isDigitAllowed_27 ?_
    refine a_isub (pc := 28) ok dX5_isDigitAllowed_28 ?_
    rw [e1]
    refine a_istore (pc := 29) ok dX5_isDigitAllowed_29 rfl (by rw [hN]; decide) ?_
    refine a_iload_n (pc := 31) ok dX5_isDigitAllowed_31 rfl ?_
    refine a_callSp (pc := 32) ok [] dX5_isDigitAllowed_32 mv5_50 miX5_lowestNumber (c_lowestNumber hk) ⟨by decide, by decide, rfl, rfl, Nat.zero_le _, Nat.zero_le _⟩ rfl rfl (Nat.le_of_ble_eq_true rfl) rfl (by decide) ?_
    refine a_istore (pc := 35) ok dX5_isDigitAllowed_35 rfl (by rw [hN]; decide) ?_
    refine a_iload_n (pc := 37) ok dX5_isDigitAllowed_37 rfl ?_
    refine a_iload (pc := 38) ok dX5_isDigitAllowed_38 rfl ?_
    refine a_iconst (pc := 40) ok dX5_isDigitAllowed_40 ?_
    refine a_idiv (pc := 41) ok dX5_isDigitAllowed_41 (by first | omega | (unfold rg; omega) | (simp only [rg] at *; omega) | exact bz_rg _ | grind [rg]) (by first | omega | (unfold rg; omega) | (simp only [rg] at *; omega) | exact bz_rg _ | grind [rg]) ?_
    refine a_callSp (pc := 42) ok [] dX5_isDigitAllowed_42 mv5_53 miX5_highestNumber (c_highestNumber hk (by unfold rg; omega)) ⟨by decide, by decide, rfl, rfl, Nat.zero_le _, Nat.zero_le _⟩ rfl rfl (Nat.le_of_ble_eq_true rfl) rfl (by decide) ?_
    refine a_istore (pc := 45) ok dX5_isDigitAllowed_45 rfl (by rw [hN]; decide) ?_
    refine a_iload (pc := 47) ok dX5_isDigitAllowed_47 rfl ?_
    refine a_iconst (pc := 49) ok dX5_isDigitAllowed_49 ?_
    refine a_irem (pc := 50) ok dX5_isDigitAllowed_50 (by first | omega | (unfold rg; omega) | (simp only [rg] at *; omega) | exact bz_rg _ | grind [rg]) (by first | omega | (unfold rg; omega) | (simp only [rg] at *; omega) | exact bz_rg _ | grind [rg]) ?_
    refine a_if_ne (pc := 51) (tgt := 70) ok dX5_isDigitAllowed_51 (by decide) (by first | omega | (unfold rg; omega) | (simp only [rg] at *; omega) | exact bz_rg _ | grind [rg]) (fun c51 => ?_) (fun c51 => ?_)
    · refine a_aload_n (pc := 70) ok dX5_isDigitAllowed_70 rfl ?_
      refine a_iload_n (pc := 71) ok dX5_isDigitAllowed_71 rfl ?_
      refine a_iconst (pc := 72) ok dX5_isDigitAllowed_72 ?_
      refine a_isub (pc := 73) ok dX5_isDigitAllowed_73 ?_
      rw [e2]
      refine a_callVp (pc := 74) ok [0, 1] dX5_isDigitAllowed_74 mv5_56 miX5_numberAt (c_numberAt hn (by omega)) ⟨by decide, by decide, rfl, rfl, Nat.zero_le _, Nat.zero_le _⟩ rfl rfl (Nat.le_of_ble_eq_true rfl) rfl (by decide) rfl rfl ?_
      refine a_iload (pc := 77) ok dX5_isDigitAllowed_77 rfl ?_
      refine a_iload (pc := 79) ok dX5_isDigitAllowed_79 rfl ?_
      refine a_callSp (pc := 81) ok [] dX5_isDigitAllowed_81 mv5_47 miX6_isWithin (c_isWithin (by unfold rg; omega) (by unfold rg; omega) (by unfold rg; omega)) ⟨by decide, by decide, rfl, rfl, Nat.zero_le _, Nat.zero_le _⟩ rfl rfl (Nat.le_of_ble_eq_true rfl) rfl (by decide) ?_
      exact a_zret (pc := 84) ok dX5_isDigitAllowed_84 (by first | rfl | exact nb_bz _ | exact @nb_bz _ (Classical.propDecidable _) | decide) (⟨by
  have hq : 0 ≤ t (p + 1 + j) - 48 ∧ t (p + 1 + j) - 48 ≤ 9 := Classical.byContradiction fun z => c19 (bz_neg z)
  rw [b1 _ ⟨fun z => by have := z.2.2; rw [if_neg (by omega)] at this; exact this, fun z => ⟨hpl, hq, by rw [if_neg (by omega)]; exact z⟩⟩], rfl⟩)
    · refine a_iload (pc := 54) ok dX5_isDigitAllowed_54 rfl ?_
      refine a_iload (pc := 56) ok dX5_isDigitAllowed_56 rfl ?_
      refine a_bipush (pc := 58) ok dX5_isDigitAllowed_58 (by decide) ?_
      refine a_idiv (pc := 60) ok dX5_isDigitAllowed_60 (by first | omega | (unfold rg; omega) | (simp only [rg] at *; omega) | exact bz_rg _ | grind [rg]) (by first | omega | (unfold rg; omega) | (simp only [rg] at *; omega) | exact bz_rg _ | grind [rg]) ?_
      refine a_iload (pc := 61) ok dX5_isDigitAllowed_61 rfl ?_
      refine a_bipush (pc := 63) ok dX5_isDigitAllowed_63 (by decide) ?_
      refine a_idiv (pc := 65) ok dX5_isDigitAllowed_65 (by first | omega | (unfold rg; omega) | (simp only [rg] at *; omega) | exact bz_rg _ | grind [rg]) (by first | omega | (unfold rg; omega) | (simp only [rg] at *; omega) | exact bz_rg _ | grind [rg]) ?_
      refine a_callSp (pc := 66) ok [] dX5_isDigitAllowed_66 mv5_47 miX6_isWithin (c_isWithin (by unfold rg; omega) (by unfold rg; omega) (by unfold rg; omega)) ⟨by decide, by decide, rfl, rfl, Nat.zero_le _, Nat.zero_le _⟩ rfl rfl (Nat.le_of_ble_eq_true rfl) rfl (by decide) ?_
      exact a_zret (pc := 69) ok dX5_isDigitAllowed_69 (by first | rfl | exact nb_bz _ | exact @nb_bz _ (Classical.propDecidable _) | decide) (⟨by
  have hq : 0 ≤ t (p + 1 + j) - 48 ∧ t (p + 1 + j) - 48 ≤ 9 := Classical.byContradiction fun z => c19 (bz_neg z)
  rw [b1 _ ⟨fun z => by have := z.2.2; rw [if_pos (by omega)] at this; exact this, fun z => ⟨hpl, hq, by rw [if_pos (by omega)]; exact z⟩⟩], rfl⟩)
  · refine a_iconst (pc := 22) ok dX5_isDigitAllowed_22 ?_
    exact a_zret (pc := 23) ok dX5_isDigitAllowed_23 (by first | rfl | exact nb_bz _ | exact @nb_bz _ (Classical.propDecidable _) | decide) (⟨by
  have hq : ¬ (0 ≤ t (p + 1 + j) - 48 ∧ t (p + 1 + j) - 48 ≤ 9) := fun z => by rw [bz_pos z] at c19; exact absurd c19 (by decide)
  rw [@bz_neg _ (Classical.propDecidable _) (fun z => hq z.2.1)], rfl⟩)
end TX1
