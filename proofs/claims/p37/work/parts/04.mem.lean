/-! RULES of the layer: locals, fields, arrays, returns. -/
section RM
variable {X : Cx} {cc : ByteArray} {own : String} {ret : Option FieldType} {rm : Room} {post : Option Value → List va_E → Prop} {mc ms kc ks pc : Nat} {L : List (Option Value)} {st : List Value} {M : List va_E}
def nLof (X : Cx) : Nat := X.2.2.1.2.2
theorem a_istore_n (ok : OK X cc own ret rm post mc ms) {i : Fin 4} {x : Int32} (hd : decode cc pc = .ok (.istore_n i, 1)) (hn : lnl L (i : Nat) = true) (hi : (i : Nat) < nLof X) (k : AW X kc ks (pc + 1) (L.set (i : Nat) (some (.int x))) st M) : AW X kc ks pc L (.int x :: st) M := by
  obtain ⟨⟨p, l, e, R⟩, ⟨s, m, args, below⟩, ⟨meth, c, nL⟩, ⟨D, cT, ad⟩, A, Q⟩ := X
  obtain ⟨hx, hb, -⟩ := ok
  intro H locs ls hP hD hS hl
  exact lv_istore_n hx hb hd rfl hl hi rfl fun ls' h => k H locs ls' hP hD hS (lA_set (v := .int x) hn h)
theorem a_istore (ok : OK X cc own ret rm post mc ms) {i : Nat} {x : Int32} (hd : decode cc pc = .ok (.istore i, 2)) (hn : lnl L i = true) (hi : i < nLof X) (k : AW X kc ks (pc + 2) (L.set i (some (.int x))) st M) : AW X kc ks pc L (.int x :: st) M := by
  obtain ⟨⟨p, l, e, R⟩, ⟨s, m, args, below⟩, ⟨meth, c, nL⟩, ⟨D, cT, ad⟩, A, Q⟩ := X
  obtain ⟨hx, hb, -⟩ := ok
  intro H locs ls hP hD hS hl
  exact lv_istore hx hb hd hl hi rfl fun ls' h => k H locs ls' hP hD hS (lA_set (v := .int x) hn h)
theorem a_astore_n (ok : OK X cc own ret rm post mc ms) {i : Fin 4} {x : Nat} (hd : decode cc pc = .ok (.astore_n i, 1)) (hn : lnl L (i : Nat) = true) (hi : (i : Nat) < nLof X) (k : AW X kc ks (pc + 1) (L.set (i : Nat) (some (.ref x))) st M) : AW X kc ks pc L (.ref x :: st) M := by
  obtain ⟨⟨p, l, e, R⟩, ⟨s, m, args, below⟩, ⟨meth, c, nL⟩, ⟨D, cT, ad⟩, A, Q⟩ := X
  obtain ⟨hx, hb, -⟩ := ok
  intro H locs ls hP hD hS hl
  exact lv_astore_n hx hb hd rfl hl hi rfl fun ls' h => k H locs ls' hP hD hS (lA_set (v := .ref x) hn h)
theorem a_astore (ok : OK X cc own ret rm post mc ms) {i : Nat} {x : Nat} (hd : decode cc pc = .ok (.astore i, 2)) (hn : lnl L i = true) (hi : i < nLof X) (k : AW X kc ks (pc + 2) (L.set i (some (.ref x))) st M) : AW X kc ks pc L (.ref x :: st) M := by
  obtain ⟨⟨p, l, e, R⟩, ⟨s, m, args, below⟩, ⟨meth, c, nL⟩, ⟨D, cT, ad⟩, A, Q⟩ := X
  obtain ⟨hx, hb, -⟩ := ok
  intro H locs ls hP hD hS hl
  exact lv_astore hx hb hd hl hi rfl fun ls' h => k H locs ls' hP hD hS (lA_set (v := .ref x) hn h)
theorem a_lstore_n (ok : OK X cc own ret rm post mc ms) {i : Fin 4} {x : Int64} (hd : decode cc pc = .ok (.lstore_n i, 1)) (hn : lnl L (i : Nat) = true) (hi : (i : Nat) + 1 < nLof X) (k : AW X kc ks (pc + 1) ((L.set (i : Nat) (some (.long x))).set ((i : Nat) + 1) none) st M) : AW X kc ks pc L (.long x :: st) M := by
  obtain ⟨⟨p, l, e, R⟩, ⟨s, m, args, below⟩, ⟨meth, c, nL⟩, ⟨D, cT, ad⟩, A, Q⟩ := X
  obtain ⟨hx, hb, -⟩ := ok
  intro H locs ls hP hD hS hl
  exact lv_lstore_n hx hb hd rfl hl hi rfl fun ls' h => k H locs ls' hP hD hS (lA_setL (v := .long x) hn h)
theorem a_lstore (ok : OK X cc own ret rm post mc ms) {i : Nat} {x : Int64} (hd : decode cc pc = .ok (.lstore i, 2)) (hn : lnl L i = true) (hi : i + 1 < nLof X) (k : AW X kc ks (pc + 2) ((L.set i (some (.long x))).set (i + 1) none) st M) : AW X kc ks pc L (.long x :: st) M := by
  obtain ⟨⟨p, l, e, R⟩, ⟨s, m, args, below⟩, ⟨meth, c, nL⟩, ⟨D, cT, ad⟩, A, Q⟩ := X
  obtain ⟨hx, hb, -⟩ := ok
  intro H locs ls hP hD hS hl
  exact lv_lstore hx hb hd hl hi rfl fun ls' h => k H locs ls' hP hD hS (lA_setL (v := .long x) hn h)
theorem a_iinc (ok : OK X cc own ret rm post mc ms) {i : Nat} {n a : Int} (hd : decode cc pc = .ok (.iinc i n, 3)) (hl0 : L[i]? = some (some (iv a))) (hn : lnl L i = true) (hi : i < nLof X) (k : AW X kc ks (pc + 3) (L.set i (some (iv (a + n)))) st M) : AW X kc ks pc L st M := by
  obtain ⟨⟨p, l, e, R⟩, ⟨s, m, args, below⟩, ⟨meth, c, nL⟩, ⟨D, cT, ad⟩, A, Q⟩ := X
  obtain ⟨hx, hb, -⟩ := ok
  intro H locs ls hP hD hS hl
  obtain ⟨k0, hk0⟩ := List.getElem?_of_mem (lA_mem (q := (i, cv ad (iv a))).mpr ⟨iv a, hl0, rfl⟩)
  exact lv_iinc hx hb hd hl hk0 (Int32.ofInt_add a n).symm hi rfl fun ls' h => k H locs ls' hP hD hS (lA_set (v := iv (a + n)) hn h)
/-- fewer locals -/
theorem AW.locals {L2 : List (Option Value)} (k : AW X kc ks pc L2 st M) (h : ∀ (i : Nat) (v : Value), L2[i]? = some (some v) → L[i]? = some (some v)) : AW X kc ks pc L st M := by
  obtain ⟨⟨p, l, e, R⟩, ⟨s, m, args, below⟩, ⟨meth, c, nL⟩, ⟨D, cT, ad⟩, A, Q⟩ := X
  intro H locs ls hP hD hS hl
  refine k H locs ls hP hD hS (lv_mono hl fun q hq => ?_)
  obtain ⟨v, h1, h2⟩ := lA_mem.mp hq
  exact lA_mem.mpr ⟨v, h _ _ h1, h2⟩
/-- every one of the first list that is some is the second's -/
def lsub : List (Option Value) → List (Option Value) → Prop
  | [], _ => True
  | none :: a, _ :: b => lsub a b
  | none :: a, [] => lsub a []
  | some v :: a, o :: b => o = some v ∧ lsub a b
  | some _ :: _, [] => False
theorem lsub_get : ∀ (L2 L : List (Option Value)), lsub L2 L → ∀ (i : Nat) (v : Value), L2[i]? = some (some v) → L[i]? = some (some v)
  | [], _, _, i, v, h => by simp at h
  | none :: a, x :: b, hs, i, v, h => by
    cases i with
    | zero => simp at h
    | succ i => exact lsub_get a b hs i v h
  | none :: a, [], hs, i, v, h => by
    cases i with
    | zero => simp at h
    | succ i => have := lsub_get a [] hs i v (by simpa using h); simp at this
  | some w :: a, o :: b, hs, i, v, h => by
    obtain ⟨rfl, hs⟩ := hs
    cases i with
    | zero => simpa using h
    | succ i => exact lsub_get a b hs i v h
theorem AW.forget {L2 : List (Option Value)} (k : AW X kc ks pc L2 st M) (h : lsub L2 L) : AW X kc ks pc L st M := AW.locals k (lsub_get _ _ h)
theorem AW.cast {L2 : List (Option Value)} {st2 : List Value} {M2 : List va_E} (k : AW X kc ks pc L2 st2 M2) (h1 : L = L2) (h2 : st = st2) (h3 : M = M2) : AW X kc ks pc L st M := by subst h1; subst h2; subst h3; exact k
/-- a field's link: own class, place in its pool, the class's number, the field's slot -/
def FL (own : String) (idx ci k : Nat) : Prop := ∃ (C : String) (T : u_T) (N : Nat), classes[ci]? = some (C, T, N) ∧ (∀ w ∈ u_ws C T N, w ∈ UG) ∧ k < N ∧ (T k).1 = C ∧
  (Cond.fieldLink own idx C (T k).2.1 (T k).2.2.1 ∈ UG ∨ ∃ host, Cond.fieldLinkNest own idx C (T k).2.1 (T k).2.2.1 host ∈ nwL)
/-- .. and what a store wants -/
def FP (own : String) (idx ci k : Nat) (ty : FieldType) : Prop := ∃ (C : String) (T : u_T) (N : Nat) (ty0 : Nat → FieldType), classes[ci]? = some (C, T, N) ∧ (∀ w ∈ u_ws C T N, w ∈ UG) ∧ k < N ∧ (T k).1 = C ∧
  (∀ k, k < N → parseFieldDescriptor (T k).2.2.1 = some (ty0 k)) ∧ (∀ a, a < N → ∀ b, b < N → a ≠ b → (T a).2.1 ≠ (T b).2.1) ∧ (T k).2.2.2 = false ∧ parseFieldDescriptor (T k).2.2.1 = some ty ∧
  (Cond.fieldLink own idx C (T k).2.1 (T k).2.2.1 ∈ UG ∨ ∃ host, Cond.fieldLinkNest own idx C (T k).2.1 (T k).2.2.1 host ∈ nwL)
theorem a_getf (ok : OK X cc own ret rm post mc ms) {idx ci kf q : Nat} {fs : List Value} {v : Value} (hd : decode cc pc = .ok (.getfield idx, 3)) (lk : FL own idx ci kf) (he : M[q]? = some (.inr (ci, fs))) (hv : fs[kf]? = some v) (k : AW X kc ks (pc + 3) L (v :: st) M) : AW X kc ks pc L (.ref q :: st) M := by
  obtain ⟨⟨p, l, e, R⟩, ⟨s, m, args, below⟩, ⟨meth, c, nL⟩, ⟨D, cT, ad⟩, A, Q⟩ := X
  obtain ⟨hx, hb, -, ho, hts, hK, -, -, hN, -⟩ := ok
  intro H locs ls hP hD hS hl
  obtain ⟨C, T, N, hc, hin, hk, hC, hw⟩ := lk
  have hv2 : (fs.map (cv ad))[kf]? = some (cv ad v) := by rw [List.getElem?_map, hv]; rfl
  rcases hw with hw | ⟨host, hw⟩
  · exact va_get hx hb hts hin ho hK hP q (cw_get he) hc kf hk (ref := C) (hts _ hw) (fun x hx => by rw [hC] at hx; exact hx) hv2 hd (k H locs ls hP hD hS hl)
  · exact va_getN hx hb hts hin ho hK hP q (cw_get he) hc kf hk (ref := C) (host := host) (va_Nw.use rfl (hN _ hw)) (fun x hx => by rw [hC] at hx; exact hx) hv2 hd (k H locs ls hP hD hS hl)
theorem cv_fits {ad : Nat → Nat} {ty : FieldType} {v : Value} (h1 : narrow ty v = v) : narrow ty (cv ad v) = cv ad v := by
  cases v <;> first | exact h1 | rfl | (cases ty <;> first | rfl | exact h1)
theorem cv_fits2 {ad : Nat → Nat} {ty : FieldType} {v : Value} (h1 : fits ty v = true) : fits ty (cv ad v) = true := by
  cases v <;> first | exact h1 | (cases ty <;> first | rfl | exact h1)
theorem a_putf (ok : OK X cc own ret rm post mc ms) {idx ci kf q : Nat} {fs : List Value} {v : Value} {ty : FieldType} (hd : decode cc pc = .ok (.putfield idx, 3)) (lk : FP own idx ci kf ty) (he : M[q]? = some (.inr (ci, fs))) (hn : narrow ty v = v) (hf : fits ty v = true) (hl0 : kf < fs.length) (k : AW X kc ks (pc + 3) L st (M.set q (.inr (ci, fs.set kf v)))) : AW X kc ks pc L (v :: .ref q :: st) M := by
  obtain ⟨⟨p, l, e, R⟩, ⟨s, m, args, below⟩, ⟨meth, c, nL⟩, ⟨D, cT, ad⟩, A, Q⟩ := X
  obtain ⟨hx, hb, -, ho, hts, hK, -, -, hN, -⟩ := ok
  intro H locs ls hP hD hS hl
  obtain ⟨C, T, N, ty0, hc, hin, hk, hC, hty, hnm, hfin, hpd, hw⟩ := lk
  have e1 : cw cT ad (M.set q (.inr (ci, fs.set kf v))) = (cw cT ad M).set q (ad q, .inr (ci, (fs.map (cv ad)).set kf (cv ad v))) := by
    rw [cw_set]; show _ = (cw cT ad M).set q _; rw [show ce cT ad (.inr (ci, fs.set kf v)) = .inr (ci, (fs.set kf v).map (cv ad)) from rfl, List.map_set]
  rcases hw with hw | ⟨host, hw⟩
  · exact va_put hx hb hts hin ty0 hty hnm ho hK hP hD hS q (cw_get he) hc kf hk (ref := C) (hts _ hw) (fun x hx => by rw [hC] at hx; exact hx) hfin hpd (cv_fits hn) (cv_fits2 hf) (by rw [List.length_map]; exact hl0) hd (fun H1 locs1 a b d => k H1 locs1 ls (by rw [e1]; exact a) (by rw [e1]; exact b) d hl)
  · exact va_putN hx hb hts hin ty0 hty hnm ho hK hP hD hS q (cw_get he) hc kf hk (ref := C) (host := host) (va_Nw.use rfl (hN _ hw)) (fun x hx => by rw [hC] at hx; exact hx) hfin hpd (cv_fits hn) (cv_fits2 hf) (by rw [List.length_map]; exact hl0) hd (fun H1 locs1 a b d => k H1 locs1 ls (by rw [e1]; exact a) (by rw [e1]; exact b) d hl)
theorem r_cl {i : Int} (h0 : 0 ≤ i) (h1 : i < 2147483648) : (Int32.ofInt i).toNatClampNeg = i.toNat := Int32.toNatClampNeg_ofInt_of_le (by omega) (by omega)
theorem r_in {i : Int} {n : Nat} (h : 0 ≤ i ∧ i < n) (hn : n ≤ 2147483647) : vp_in (Int32.ofInt i) n := by
  unfold vp_in
  have h1 : rg i := ⟨by omega, by omega⟩
  rw [r_cl h.1 (by omega)]
  rintro (z | z)
  · have : Int32.ofInt i < Int32.ofInt 0 := z
    rw [r_lt h1 r_0] at this; omega
  · omega
theorem up_arr {f : Int → Int} {i v : Int} (h : 0 ≤ i) : arr (up f i v) = upd (arr f) i.toNat (Int32.ofInt v) := by
  funext j
  simp only [arr, up, upd]
  by_cases e : j = i.toNat
  · rw [if_pos e, if_pos (by omega)]
  · rw [if_neg e, if_neg (by omega)]
theorem a_iald (ok : OK X cc own ret rm post mc ms) {q n : Nat} {f : Int → Int} {i : Int} (hd : decode cc pc = .ok (.iaload, 1)) (he : M[q]? = some (ia n f)) (hn : n ≤ 2147483647) (hi : 0 ≤ i ∧ i < n) (k : AW X kc ks (pc + 1) L (iv (f i) :: st) M) : AW X kc ks pc L (iv i :: .ref q :: st) M := by
  obtain ⟨⟨p, l, e, R⟩, ⟨s, m, args, below⟩, ⟨meth, c, nL⟩, ⟨D, cT, ad⟩, A, Q⟩ := X
  obtain ⟨hx, hb, -, ho, hts, hK, -⟩ := ok
  intro H locs ls hP hD hS hl
  refine va_iald hx hb hK hP q 0 (cw_get he) rfl (r_in hi hn) hd ?_
  have := k H locs ls hP hD hS hl
  rw [r_cl hi.1 (by omega), show arr f i.toNat = Int32.ofInt (f i) from by unfold arr; rw [Int.toNat_of_nonneg hi.1]]
  exact this
theorem a_iast (ok : OK X cc own ret rm post mc ms) {q n : Nat} {f : Int → Int} {i v : Int} (hd : decode cc pc = .ok (.iastore, 1)) (he : M[q]? = some (ia n f)) (hn : n ≤ 2147483647) (hi : 0 ≤ i ∧ i < n) (k : AW X kc ks (pc + 1) L st (M.set q (ia n (up f i v)))) : AW X kc ks pc L (iv v :: iv i :: .ref q :: st) M := by
  obtain ⟨⟨p, l, e, R⟩, ⟨s, m, args, below⟩, ⟨meth, c, nL⟩, ⟨D, cT, ad⟩, A, Q⟩ := X
  obtain ⟨hx, hb, -, ho, hts, hK, -⟩ := ok
  intro H locs ls hP hD hS hl
  have e1 : cw cT ad (M.set q (ia n (up f i v))) = (cw cT ad M).set q (ad q, .inl (cT 0, n, .inl (upd (arr f) (Int32.ofInt i).toNatClampNeg (Int32.ofInt v)))) := by
    rw [cw_set, r_cl hi.1 (by omega), ← up_arr hi.1]; rfl
  exact va_iast hx hb hK hP hD hS q 0 (cw_get he) rfl (r_in hi hn) hd (fun H1 locs1 a b d => k H1 locs1 ls (by rw [e1]; exact a) (by rw [e1]; exact b) d hl)
theorem a_zald (ok : OK X cc own ret rm post mc ms) {q n : Nat} {f : Int → Int} {i : Int} (hd : decode cc pc = .ok (.baload, 1)) (he : M[q]? = some (za n f)) (hn : n ≤ 2147483647) (hi : 0 ≤ i ∧ i < n) (k : AW X kc ks (pc + 1) L (iv (f i) :: st) M) : AW X kc ks pc L (iv i :: .ref q :: st) M := by
  obtain ⟨⟨p, l, e, R⟩, ⟨s, m, args, below⟩, ⟨meth, c, nL⟩, ⟨D, cT, ad⟩, A, Q⟩ := X
  obtain ⟨hx, hb, -, ho, hts, hK, -⟩ := ok
  intro H locs ls hP hD hS hl
  refine va_zald hx hb hK hP q 1 (cw_get he) rfl (r_in hi hn) hd ?_
  have := k H locs ls hP hD hS hl
  rw [r_cl hi.1 (by omega), show arr f i.toNat = Int32.ofInt (f i) from by unfold arr; rw [Int.toNat_of_nonneg hi.1]]
  exact this
theorem a_zast (ok : OK X cc own ret rm post mc ms) {q n : Nat} {f : Int → Int} {i v : Int} (hd : decode cc pc = .ok (.bastore, 1)) (he : M[q]? = some (za n f)) (hn : n ≤ 2147483647) (hi : 0 ≤ i ∧ i < n) (hz : vp_nar .boolean (Int32.ofInt v) = Int32.ofInt v) (k : AW X kc ks (pc + 1) L st (M.set q (za n (up f i v)))) : AW X kc ks pc L (iv v :: iv i :: .ref q :: st) M := by
  obtain ⟨⟨p, l, e, R⟩, ⟨s, m, args, below⟩, ⟨meth, c, nL⟩, ⟨D, cT, ad⟩, A, Q⟩ := X
  obtain ⟨hx, hb, -, ho, hts, hK, -⟩ := ok
  intro H locs ls hP hD hS hl
  have e1 : cw cT ad (M.set q (za n (up f i v))) = (cw cT ad M).set q (ad q, .inl (cT 1, n, .inl (upd (arr f) (Int32.ofInt i).toNatClampNeg (vp_nar .boolean (Int32.ofInt v))))) := by
    rw [cw_set, r_cl hi.1 (by omega), hz, ← up_arr hi.1]; rfl
  exact va_zast hx hb hK hP hD hS q 1 (cw_get he) rfl (r_in hi hn) hd (fun H1 locs1 a b d => k H1 locs1 ls (by rw [e1]; exact a) (by rw [e1]; exact b) d hl)
theorem a_aald (ok : OK X cc own ret rm post mc ms) {q n r : Nat} {f : Nat → Option Nat} {i : Int} (hd : decode cc pc = .ok (.aaload, 1)) (he : M[q]? = some (qa n f)) (hn : n ≤ 2147483647) (hi : 0 ≤ i ∧ i < n) (hr : f i.toNat = some r) (k : AW X kc ks (pc + 1) L (.ref r :: st) M) : AW X kc ks pc L (iv i :: .ref q :: st) M := by
  obtain ⟨⟨p, l, e, R⟩, ⟨s, m, args, below⟩, ⟨meth, c, nL⟩, ⟨D, cT, ad⟩, A, Q⟩ := X
  obtain ⟨hx, hb, -, ho, hts, hK, -⟩ := ok
  intro H locs ls hP hD hS hl
  refine va_aldq (C := "BandEngraver$State") hx hb hK hP q 3 (cw_get he) rfl (r_in hi hn) hd ?_
  have := k H locs ls hP hD hS hl
  rw [r_cl hi.1 (by omega)]
  show W p l e R s m args below meth c H locs kc ks Q (F0 m (pc + 1) ls (va_rf ((f i.toNat).map ad) :: st.map (cv ad)))
  rw [hr]
  exact this
theorem a_alen (ok : OK X cc own ret rm post mc ms) {q n : Nat} {f : Int → Int} (hd : decode cc pc = .ok (.arraylength, 1)) (he : M[q]? = some (ia n f)) (k : AW X kc ks (pc + 1) L (iv n :: st) M) : AW X kc ks pc L (.ref q :: st) M := by
  obtain ⟨⟨p, l, e, R⟩, ⟨s, m, args, below⟩, ⟨meth, c, nL⟩, ⟨D, cT, ad⟩, A, Q⟩ := X
  obtain ⟨hx, hb, -, ho, hts, hK, -⟩ := ok
  intro H locs ls hP hD hS hl
  exact va_alen hx hb hK hP q 0 (cw_get he) rfl (Int32.ofInt_eq_ofNat).symm hd (k H locs ls hP hD hS hl)
/-- an array's contents, seen otherwise -/
theorem AW.ext {q n : Nat} {f g : Int → Int} (he : M[q]? = some (ia n f)) (h : ∀ j : Int, 0 ≤ j → j < n → f j = g j) (k : AW X kc ks pc L st (M.set q (ia n g))) : AW X kc ks pc L st M := by
  obtain ⟨⟨p, l, e, R⟩, ⟨s, m, args, below⟩, ⟨meth, c, nL⟩, ⟨D, cT, ad⟩, A, Q⟩ := X
  intro H locs ls hP hD hS hl
  have e1 : cw cT ad (M.set q (ia n g)) = (cw cT ad M).set q (ad q, .inl (cT 0, n, .inl (arr g))) := by rw [cw_set]; rfl
  refine k H locs ls ?_ ?_ hS hl
  · intro k0 x hx
    rw [e1, List.getElem?_set] at hx
    by_cases z : q = k0
    · rw [if_pos z] at hx
      split at hx
      · cases hx
        have h1 := hP q _ (cw_get he)
        show H[ad q]? = some (vp_cell (cT 0) (n, .inl (arr g)))
        have h2 : H[ad q]? = some (vp_cell (cT 0) (n, .inl (arr f))) := h1
        rw [h2]
        congr 1
        simp only [vp_cell, arrV]
        congr 1
        apply Array.ext
        · simp
        · intro i hi1 hi2
          simp at hi1
          simp [arr, h i (by omega) (by omega)]
      · cases hx
    · rw [if_neg z] at hx
      exact hP k0 x hx
  · rw [e1]; exact hD.set (cw_get he)
/-- a return: the post -/
theorem a_iret (ok : OK X cc own (some .int) rm post mc ms) {x : Int32} (hd : decode cc pc = .ok (.ireturn, 1)) (h : post (some (.int x)) M) : AW X mc ms pc L [.int x] M := by
  obtain ⟨⟨p, l, e, R⟩, ⟨s, m, args, below⟩, ⟨meth, c, nL⟩, ⟨D, cT, ad⟩, A, Q⟩ := X
  obtain ⟨hx, hb, -, ho, hts, hK, hA, hlocks, -, -, hr, hQ⟩ := ok
  intro H locs ls hP hD hS hl
  exact hQ H locs _ (W.iret hx hb hr (fun t ht hW => ⟨⟨some (.int x), M, rfl, h, by rw [ht]; exact hP, va_K.moved hW.alike hK, hD⟩, hS.F ht⟩) hS.2.2 hd hlocks)
theorem a_zret (ok : OK X cc own (some .boolean) rm post mc ms) {x : Int32} (hd : decode cc pc = .ok (.ireturn, 1)) (hn : narrow .boolean (.int x) = .int x) (h : post (some (.int x)) M) : AW X mc ms pc L [.int x] M := by
  obtain ⟨⟨p, l, e, R⟩, ⟨s, m, args, below⟩, ⟨meth, c, nL⟩, ⟨D, cT, ad⟩, A, Q⟩ := X
  obtain ⟨hx, hb, -, ho, hts, hK, hA, hlocks, -, -, hr, hQ⟩ := ok
  intro H locs ls hP hD hS hl
  exact hQ H locs _ (W.zret hx hb hr hn (fun t ht hW => ⟨⟨some (.int x), M, rfl, h, by rw [ht]; exact hP, va_K.moved hW.alike hK, hD⟩, hS.F ht⟩) hS.2.2 hd hlocks)
theorem a_vret (ok : OK X cc own none rm post mc ms) (hd : decode cc pc = .ok (.return_, 1)) (h : post none M) : AW X mc ms pc L [] M := by
  obtain ⟨⟨p, l, e, R⟩, ⟨s, m, args, below⟩, ⟨meth, c, nL⟩, ⟨D, cT, ad⟩, A, Q⟩ := X
  obtain ⟨hx, hb, -, ho, hts, hK, hA, hlocks, -, -, hr, hQ⟩ := ok
  intro H locs ls hP hD hS hl
  exact hQ H locs _ (W.vret hx hb hr (fun t ht hW => ⟨⟨none, M, rfl, h, by rw [ht]; exact hP, va_K.moved hW.alike hK, hD⟩, hS.F ht⟩) hS.2.2 hd hlocks)
theorem a_aret {rt : FieldType} (ok : OK X cc own (some rt) rm post mc ms) (hrt : (∃ n, rt = .object n) ∨ ∃ t, rt = .array t) {q : Nat} (hd : decode cc pc = .ok (.areturn, 1)) (h : post (some (.ref q)) M) : AW X mc ms pc L [.ref q] M := by
  obtain ⟨⟨p, l, e, R⟩, ⟨s, m, args, below⟩, ⟨meth, c, nL⟩, ⟨D, cT, ad⟩, A, Q⟩ := X
  obtain ⟨hx, hb, -, ho, hts, hK, hA, hlocks, -, -, hr, hQ⟩ := ok
  intro H locs ls hP hD hS hl
  exact hQ H locs _ (W.aret hx hb hr hrt (Or.inr ⟨_, rfl⟩) (fun t ht hW => ⟨⟨some (.ref q), M, rfl, h, by rw [ht]; exact hP, va_K.moved hW.alike hK, hD⟩, hS.F ht⟩) hS.2.2 hd hlocks)
theorem AW.widen {kc2 ks2 : Nat} (h1 : kc ≤ kc2) (h2 : ks ≤ ks2) (k : AW X kc2 ks2 pc L st M) : AW X kc ks pc L st M := by
  obtain ⟨⟨p, l, e, R⟩, ⟨s, m, args, below⟩, ⟨meth, c, nL⟩, ⟨D, cT, ad⟩, A, Q⟩ := X
  intro H locs ls hP hD hS hl
  exact W.widen h1 h2 (k H locs ls hP hD hS hl)
end RM
