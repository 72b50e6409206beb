/-! THE JDK's members: Math, arraycopy, and a switch by its table. -/
section RJ
variable {X : Cx} {cc : ByteArray} {own : String} {ret : Option FieldType} {rm : Room} {post : Option Value → List va_E → Prop} {mc ms kc ks pc : Nat} {L : List (Option Value)} {st : List Value} {M : List va_E}
theorem j_sum {ad : Nat → Nat} {rest : List Value} {n : Nat} (h : (rest.map fun v => v.category).sum ≤ n) : ((rest.map (cv ad)).map fun v => v.category).sum ≤ n := by
  rw [List.map_map, show ((fun v : Value => v.category) ∘ cv ad) = fun v : Value => v.category from by funext v; exact cv_cat ad v]
  exact h
theorem a_mmax (ok : OK X cc own ret rm post mc ms) {a b : Int} {idx : Nat} (hd : decode cc pc = .ok (.invokestatic idx, 3)) (hw : Cond.methodLink own idx Lib.Math.max.name ∈ UG) (hroom : 1 ≤ rm.frames ∧ 40 ≤ rm.locals ∧ kc ≤ rm.cells ∧ ks ≤ rm.slots) (hrest : (st.map fun v => v.category).sum ≤ 8) (ra : rg a) (rb : rg b) (k : AW X kc ks (pc + 3) L (iv (max a b) :: st) M) : AW X kc ks pc L (iv b :: iv a :: st) M := by
  obtain ⟨⟨p, l, e, R⟩, ⟨s, m, args, below⟩, ⟨meth, c, nL⟩, ⟨D, cT, ad⟩, A, Q⟩ := X
  obtain ⟨hx, hb, hml, ho, hts, hK, -, -, hN, rfl, -⟩ := ok
  intro H locs ls hP hD hS hl
  have hr := j_sum (ad := ad) hrest
  refine va_mmax hx hb (hml.trans hl.1.symm) ho (hts _ hw) (hts _ (ug2 156 (by decide +kernel) rfl)) (hts _ (ug1 14 (by decide +kernel) rfl)) (hts _ (ug2 157 (by decide +kernel) rfl)) hroom.1 (by omega) hroom.2.2.1 hroom.2.2.2 hd ?_
  have := k H locs ls hP hD hS hl
  rw [show (if Int32.ofInt a < Int32.ofInt b then Int32.ofInt b else Int32.ofInt a) = Int32.ofInt (max a b) from by
    by_cases h : a < b
    · rw [if_pos ((r_lt ra rb).mpr h), Int.max_eq_right (by omega)]
    · rw [if_neg (fun z => h ((r_lt ra rb).mp z)), Int.max_eq_left (by omega)]]
  exact this
theorem a_mmin (ok : OK X cc own ret rm post mc ms) {a b : Int} {idx : Nat} (hd : decode cc pc = .ok (.invokestatic idx, 3)) (hw : Cond.methodLink own idx Lib.Math.min.name ∈ UG) (hroom : 1 ≤ rm.frames ∧ 40 ≤ rm.locals ∧ kc ≤ rm.cells ∧ ks ≤ rm.slots) (hrest : (st.map fun v => v.category).sum ≤ 8) (ra : rg a) (rb : rg b) (k : AW X kc ks (pc + 3) L (iv (min a b) :: st) M) : AW X kc ks pc L (iv b :: iv a :: st) M := by
  obtain ⟨⟨p, l, e, R⟩, ⟨s, m, args, below⟩, ⟨meth, c, nL⟩, ⟨D, cT, ad⟩, A, Q⟩ := X
  obtain ⟨hx, hb, hml, ho, hts, hK, -, -, hN, rfl, -⟩ := ok
  intro H locs ls hP hD hS hl
  have hr := j_sum (ad := ad) hrest
  refine va_mmin hx hb (hml.trans hl.1.symm) ho (hts _ hw) (hts _ (ug3 62 (by decide +kernel) rfl)) (hts _ (ug1 14 (by decide +kernel) rfl)) (hts _ (ug3 63 (by decide +kernel) rfl)) hroom.1 (by omega) hroom.2.2.1 hroom.2.2.2 hd ?_
  have := k H locs ls hP hD hS hl
  rw [show (if Int32.ofInt b < Int32.ofInt a then Int32.ofInt b else Int32.ofInt a) = Int32.ofInt (min a b) from by
    by_cases h : b < a
    · rw [if_pos ((r_lt rb ra).mpr h), Int.min_eq_right (by omega)]
    · rw [if_neg (fun z => h ((r_lt rb ra).mp z)), Int.min_eq_left (by omega)]]
  exact this
theorem a_mabs (ok : OK X cc own ret rm post mc ms) {a : Int} {idx : Nat} (hd : decode cc pc = .ok (.invokestatic idx, 3)) (hw : Cond.methodLink own idx Lib.Math.abs.name ∈ UG) (hroom : 1 ≤ rm.frames ∧ 40 ≤ rm.locals ∧ kc ≤ rm.cells ∧ ks ≤ rm.slots) (hrest : (st.map fun v => v.category).sum ≤ 8) (ra : rg a) (k : AW X kc ks (pc + 3) L (iv (max a (-a)) :: st) M) : AW X kc ks pc L (iv a :: st) M := by
  obtain ⟨⟨p, l, e, R⟩, ⟨s, m, args, below⟩, ⟨meth, c, nL⟩, ⟨D, cT, ad⟩, A, Q⟩ := X
  obtain ⟨hx, hb, hml, ho, hts, hK, -, -, hN, rfl, -⟩ := ok
  intro H locs ls hP hD hS hl
  have hr := j_sum (ad := ad) hrest
  refine va_mabs hx hb (hml.trans hl.1.symm) ho (hts _ hw) (hts _ (ug3 90 (by decide +kernel) rfl)) (hts _ (ug1 14 (by decide +kernel) rfl)) (hts _ (ug3 91 (by decide +kernel) rfl)) hroom.1 (by omega) hroom.2.2.1 hroom.2.2.2 hd ?_
  have := k H locs ls hP hD hS hl
  rw [show (if 0 ≤ Int32.ofInt a then Int32.ofInt a else 0 - Int32.ofInt a) = Int32.ofInt (max a (-a)) from by
    by_cases h : 0 ≤ a
    · rw [if_pos (show (0 : Int32) ≤ Int32.ofInt a from (r_le r_0 ra).mpr h), Int.max_eq_left (by omega)]
    · rw [if_neg (fun z : (0 : Int32) ≤ Int32.ofInt a => h ((r_le r_0 ra).mp z)), Int.max_eq_right (by omega), show -a = 0 - a by omega, Int32.ofInt_sub]; rfl]
  exact this
/-- System.arraycopy of the whole -/
theorem a_copy (ok : OK X cc own ret rm post mc ms) {idx q0 q1 n : Nat} {f g : Int → Int} {z : Int} (hd : decode cc pc = .ok (.invokestatic idx, 3)) (hw : Cond.methodLink own idx arraycopyName ∈ UG) (hroom : 1 ≤ rm.frames ∧ 40 ≤ rm.locals) (hrest : (st.map fun v => v.category).sum ≤ 8) (he0 : M[q0]? = some (ia n f)) (he1 : M[q1]? = some (ia n g)) (hz : z = n) (hn : n < 2147483648) (k : AW X kc ks (pc + 3) L st (M.set q1 (ia n f))) : AW X kc ks pc L (iv z :: iv 0 :: .ref q1 :: iv 0 :: .ref q0 :: st) M := by
  have hq1 : q1 < M.length := (List.getElem?_eq_some_iff.mp he1).1
  have k2 : AW X kc ks (pc + 3) L st (M.set q1 (ia n (fun j => if j < n then f j else g j))) :=
    AW.ext (q := q1) (n := n) (f := fun j => if j < n then f j else g j) (g := f) (by simp [hq1]) (fun j _ h => by simp [h]) (by rw [List.set_set]; exact k)
  obtain ⟨⟨p, l, e, R⟩, ⟨s, m, args, below⟩, ⟨meth, c, nL⟩, ⟨D, cT, ad⟩, A, Q⟩ := X
  obtain ⟨hx, hb, hml, ho, hts, hK, -, -, hN, rfl, -⟩ := ok
  intro H locs ls hP hD hS hl
  have hr := j_sum (ad := ad) hrest
  subst hz
  have hc := r_cl (i := (n : Int)) (by omega) (by omega)
  rw [Int.toNat_natCast] at hc
  have h0 : (Int32.ofInt 0).toNatClampNeg = 0 := rfl
  have hneg : ¬ Int32.ofInt (n : Int) < 0 := fun y => by have := (r_lt ⟨by omega, by omega⟩ r_0).mp y; omega
  have e1 : cw cT ad (M.set q1 (ia n (fun j => if j < n then f j else g j))) = (cw cT ad M).set q1 (ad q1, .inl (cT 0, n, .inl (va_cpy (arr f) (arr g) (Int32.ofInt 0).toNatClampNeg (Int32.ofInt 0).toNatClampNeg (Int32.ofInt (n : Int)).toNatClampNeg))) := by
    rw [cw_set, hc, h0]
    show _ = (cw cT ad M).set q1 (ad q1, .inl (cT 0, n, .inl _))
    rw [show va_cpy (arr f) (arr g) 0 0 n = arr (fun j => if j < n then f j else g j) from by
      funext j
      simp only [va_cpy, arr]
      by_cases h : j < n
      · rw [if_pos ⟨Nat.zero_le _, by omega⟩, if_pos (by omega)]; simp
      · rw [if_neg (by omega), if_neg (by omega)]]
    rfl
  exact va_copyi hx hb (hml.trans hl.1.symm) ho (hts _ hw) (hts _ (ug3 24 (by decide +kernel) rfl)) (hts _ (ug3 23 (by decide +kernel) rfl)) (hts _ (ug1 15 (by decide +kernel) rfl)) hK hP hD hS q0 q1 0 0 (cw_get he0) (cw_get he1) rfl rfl rfl (by decide) (by decide) hneg (by rw [hc, h0]; omega) (by rw [hc, h0]; omega) (fun i _ => rfl) hroom.1 (by
    show ((st.map (cv ad)).map fun v => v.category).sum + (nativeFrameWords "java/lang/System" "arraycopy" 5 + 11) ≤ _
    have : nativeFrameWords "java/lang/System" "arraycopy" 5 = 7 := by decide
    omega) hd (fun H1 locs1 a b d => k2 H1 locs1 ls (by rw [e1]; exact a) (by rw [e1]; exact b) d hl)
/-- a switch by its table -/
theorem a_tab (ok : OK X cc own ret rm post mc ms) {dflt lo hi a : Int} {offs : Array Int} {len dt : Nat} (ts : List Nat) (hd : decode cc pc = .ok (.tableswitch dflt lo hi offs, len)) (hts : offs.toList.map (fun o => (pc : Int) + o) = ts.map (fun t : Nat => (t : Int))) (hdt : (pc : Int) + dflt = dt) (hlen : hi = lo + ts.length - 1) (ra : rg a)
    (kin : ∀ j : Nat, j < ts.length → a = lo + j → AW X kc ks (ts.getD j 0) L st M) (kout : (a < lo ∨ hi < a) → AW X kc ks dt L st M) : AW X kc ks pc L (iv a :: st) M := by
  by_cases h : a < lo ∨ hi < a
  · exact a_tableOut ok hd ra h hdt (kout h)
  · have h1 : (a - lo).toNat < ts.length := by omega
    have h2 : offs.toList.length = ts.length := by have := congrArg List.length hts; simpa using this
    have h4 : (a - lo).toNat < offs.toList.length := by omega
    have h3 : (pc : Int) + offs.toList[(a - lo).toNat] = (ts[(a - lo).toNat] : Int) := by
      have := congrArg (fun l : List Int => l[(a - lo).toNat]?) hts
      simpa [List.getElem?_eq_getElem h4, List.getElem?_eq_getElem h1, h4, h1] using this
    refine a_tableIn ok hd ra (by omega) (by omega) (off := offs.toList[(a - lo).toNat]) ?_ h3 ?_
    · rw [← Array.getElem?_toList]; exact List.getElem?_eq_getElem h4
    · have := kin (a - lo).toNat h1 (by omega)
      rw [show ts.getD (a - lo).toNat 0 = ts[(a - lo).toNat] from by simp [List.getD, h1]] at this
      exact this
end RJ
/-- loops: a measure falls -/
theorem wfl {α : Type} (μ : α → Nat) (I : α → Prop) (G : α → Prop) (step : ∀ a, I a → (∀ b, I b → μ b < μ a → G b) → G a) : ∀ a, I a → G a := by
  have h : ∀ n a, μ a < n → I a → G a := by
    intro n
    induction n with
    | zero => intro a h; omega
    | succ n ih => intro a h hI; exact step a hI fun b hb hlt => ih b (by omega) hb
  exact fun a => h (μ a + 1) a (by omega)
def bz (p : Prop) [Decidable p] : Int := if p then 1 else 0
theorem bz_pos {p : Prop} [Decidable p] (h : p) : bz p = 1 := if_pos h
theorem bz_neg {p : Prop} [Decidable p] (h : ¬ p) : bz p = 0 := if_neg h
theorem bz_rg (p : Prop) [Decidable p] : rg (bz p) := by unfold bz rg; split <;> omega
theorem bz_0 {p : Prop} [Decidable p] : bz p = 0 ↔ ¬ p := by unfold bz; split <;> simp_all
theorem bz_1 {p : Prop} [Decidable p] : bz p = 1 ↔ p := by unfold bz; split <;> simp_all
theorem nb_bz (p : Prop) [Decidable p] : narrow .boolean (iv (bz p)) = iv (bz p) := by unfold bz; split <;> rfl
