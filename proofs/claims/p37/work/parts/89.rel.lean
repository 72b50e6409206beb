/-! THE LAW: the script, bits, what relates the class to the Model. -/
section LR
variable {X : Cx} {cc : ByteArray} {own : String} {ret : Option FieldType} {rm : Room} {post : Option Value → List va_E → Prop} {mc ms kc ks pc : Nat} {Lc : List (Option Value)} {st : List Value} {M : List va_E}
/-- the script: at the place 4095 -/
def SCR (X : Cx) (b L : Nat) (xs : Nat → Int32) : Prop := adOf X 4095 = b ∧ va_X b L xs X.2.1.1 X.2.1.1.heap ∧ b < X.2.1.1.heap.size ∧ ∀ q, X.2.2.2.2.1 q → X.2.1.1.heap.size ≤ q
def xv (xs : Nat → Int32) (i : Int) : Int := (xs i.toNat).toInt
theorem xv_rg (xs : Nat → Int32) (i : Int) : rg (xv xs i) := ⟨Int32.le_toInt _, Int32.toInt_lt _⟩
theorem a_sld (ok : OK X cc own ret rm post mc ms) {b L : Nat} {xs : Nat → Int32} (sc : SCR X b L xs) {i : Int} (hd : decode cc pc = .ok (.iaload, 1)) (hi : 0 ≤ i ∧ i < L) (hL : L ≤ 3072) (k : AW X kc ks (pc + 1) Lc (iv (xv xs i) :: st) M) : AW X kc ks pc Lc (iv i :: .ref 4095 :: st) M := by
  obtain ⟨⟨p, l, e, R⟩, ⟨s, m, args, below⟩, ⟨meth, c, nL⟩, ⟨D, cT, ad⟩, A, Q⟩ := X
  obtain ⟨hx, hb, -⟩ := ok
  obtain ⟨s1, s2, s3, s4⟩ := sc
  intro H locs ls hP hD hS hl
  have s1 : ad 4095 = b := s1
  show W p l e R s m args below meth c H locs kc ks Q (F0 m pc ls (.int (Int32.ofInt i) :: .ref (ad 4095) :: st.map (cv ad)))
  rw [s1]
  refine va_sld hx hb s2 s3 (fun z => absurd (s4 b z) (by have := s3; exact Nat.not_le.mpr this)) hS (r_in hi (by omega)) hd ?_
  have := k H locs ls hP hD hS hl
  rw [r_cl hi.1 (by omega)]
  have e1 : (Value.int (xs i.toNat)) = iv (xv xs i) := by show _ = Value.int (Int32.ofInt (xs i.toNat).toInt); rw [Int32.ofInt_toInt]
  rw [e1]
  exact this
theorem a_slen (ok : OK X cc own ret rm post mc ms) {b L : Nat} {xs : Nat → Int32} (sc : SCR X b L xs) (hd : decode cc pc = .ok (.arraylength, 1)) (k : AW X kc ks (pc + 1) Lc (iv L :: st) M) : AW X kc ks pc Lc (.ref 4095 :: st) M := by
  obtain ⟨⟨p, l, e, R⟩, ⟨s, m, args, below⟩, ⟨meth, c, nL⟩, ⟨D, cT, ad⟩, A, Q⟩ := X
  obtain ⟨hx, hb, -⟩ := ok
  obtain ⟨s1, s2, s3, s4⟩ := sc
  intro H locs ls hP hD hS hl
  have s1 : ad 4095 = b := s1
  show W p l e R s m args below meth c H locs kc ks Q (F0 m pc ls (.ref (ad 4095) :: st.map (cv ad)))
  rw [s1]
  refine va_slen hx hb s2 s3 (fun z => absurd (s4 b z) (by have := s3; exact Nat.not_le.mpr this)) hS hd ?_
  have := k H locs ls hP hD hS hl
  rw [show Int32.ofNat L = Int32.ofInt (L : Int) from (Int32.ofInt_eq_ofNat).symm]
  exact this
theorem a_iand (ok : OK X cc own ret rm post mc ms) {a b : Int} (hd : decode cc pc = .ok (.iand, 1)) (k : AW X kc ks (pc + 1) Lc (iv (Int32.ofInt a &&& Int32.ofInt b).toInt :: st) M) : AW X kc ks pc Lc (iv b :: iv a :: st) M :=
  a_pure ok k fun hx hb _ _ _ w => lv_iand hx hb hd (by rw [show (Value.int (Int32.ofInt a &&& Int32.ofInt b)) = iv (Int32.ofInt a &&& Int32.ofInt b).toInt from by show _ = Value.int (Int32.ofInt _); rw [Int32.ofInt_toInt]]; exact w)
theorem a_land (ok : OK X cc own ret rm post mc ms) {a b : Int} (hd : decode cc pc = .ok (.land, 1)) (k : AW X kc ks (pc + 1) Lc (jv (Int64.ofInt a &&& Int64.ofInt b).toInt :: st) M) : AW X kc ks pc Lc (jv b :: jv a :: st) M :=
  a_pure ok k fun hx hb _ _ _ w => lv_land hx hb hd (by rw [show (Value.long (Int64.ofInt a &&& Int64.ofInt b)) = jv (Int64.ofInt a &&& Int64.ofInt b).toInt from by show _ = Value.long (Int64.ofInt _); rw [Int64.ofInt_toInt]]; exact w)
theorem a_lor (ok : OK X cc own ret rm post mc ms) {a b : Int} (hd : decode cc pc = .ok (.lor, 1)) (k : AW X kc ks (pc + 1) Lc (jv (Int64.ofInt a ||| Int64.ofInt b).toInt :: st) M) : AW X kc ks pc Lc (jv b :: jv a :: st) M :=
  a_pure ok k fun hx hb _ _ _ w => lv_lor hx hb hd (by rw [show (Value.long (Int64.ofInt a ||| Int64.ofInt b)) = jv (Int64.ofInt a ||| Int64.ofInt b).toInt from by show _ = Value.long (Int64.ofInt _); rw [Int64.ofInt_toInt]]; exact w)
def shl (a b : Int) : Int := (Int64.ofInt a <<< ((Int32.ofInt b).toInt64 &&& 63)).toInt
theorem a_lshl (ok : OK X cc own ret rm post mc ms) {a b : Int} (hd : decode cc pc = .ok (.lshl, 1)) (k : AW X kc ks (pc + 1) Lc (jv (shl a b) :: st) M) : AW X kc ks pc Lc (iv b :: jv a :: st) M :=
  a_pure ok k fun hx hb _ _ _ w => lv_lshl hx hb hd (by show _ = Int64.ofInt _; unfold shl; rw [Int64.ofInt_toInt]) w
theorem rgL_t (x : Int64) : rgL x.toInt := ⟨Int64.le_toInt _, Int64.toInt_lt _⟩
theorem rgL_w (z : Int) : rgL (w32 z) := by have := rg_w z; unfold rg at this; unfold rgL; omega
theorem SCR_sm {X2 : Cx} {b L : Nat} {xs : Nat → Int32} (h : SCR X b L xs) (hs : smX X2 X) : SCR X2 b L xs := by
  obtain ⟨ad2, rfl, e⟩ := hs
  exact ⟨e.trans h.1, h.2⟩
theorem EX_sm {X2 : Cx} (h : EX X) (hs : smX X2 X) : EX X2 := by
  obtain ⟨ad2, rfl, e⟩ := hs
  obtain ⟨⟨p, l, e, R⟩, ⟨s, m, args, below⟩, ⟨meth, c, nL⟩, ⟨D, cT, ad⟩, A, Q⟩ := X
  exact h
end LR
/-! what is remembered and kept, on both sides -/
section RE
variable {S S3 : St} {cnt nx : Int} {σ : Nat → St} {ac : Int} {di : Int → Int} {P0 P1 : St} {sv ik ke : Int → Int} {sz : Int} {tx : Int → Int}
def REt (sz : Int) (tx : Int → Int) : Prop := (0 ≤ sz ∧ sz ≤ 120) ∧ ∀ j, 0 ≤ tx j ∧ tx j ≤ 255
theorem dP_new (ha : 0 ≤ ac ∧ ac ≤ 14) : atD (dP S ac di) (aP ac - 1) S := by
  intro j h1 h2
  unfold dP cpF
  rw [if_pos (by omega)]
  congr 1; omega
theorem dP_old (ha : 0 ≤ ac ∧ ac ≤ 14) {k : Int} {P : St} (h : atD di k P) (hk : (if ac = 14 then 1 else 0) ≤ k ∧ k < ac) : atD (dP S ac di) (k - (if ac = 14 then 1 else 0)) P := by
  intro j h1 h2
  unfold dP cpF aP
  by_cases z : ac = 14
  · rw [if_pos z] at hk ⊢
    rw [if_pos z, if_pos z, if_neg (by omega)]
    unfold shD
    rw [if_pos (by omega), ← h j h1 h2]
    congr 1; omega
  · rw [if_neg z] at hk ⊢
    rw [if_neg z, if_neg z, if_neg (by omega), ← h j h1 h2]
    congr 1; omega
end RE
