/-! THE LAW: the script, bits, what relates the class to the Model. -/
section LR
variable {X : Cx} {cc : ByteArray} {own : String} {ret : Option FieldType} {rm : Room} {post : Option Value → List va_E → Prop} {mc ms kc ks pc : Nat} {Lc : List (Option Value)} {st : List Value} {M : List va_E}
/-- the script: at the place 4095 -/
def SCR (X : Cx) (b L : Nat) (xs : Nat → Int32) : Prop := adOf X 4095 = b ∧ va_X b L xs X.2.1.1 X.2.1.1.heap ∧ b < X.2.1.1.heap.size ∧ ∀ q, X.2.2.2.2.1 q → X.2.1.1.heap.size ≤ q
def xv (xs : Nat → Int32) (i : Int) : Int := (xs i.toNat).toInt
theorem xv_rg (xs : Nat → Int32) (i : Int) : rg (xv xs i) := ⟨Int32.le_toInt _, Int32.toInt_lt _⟩
theorem a_sld (ok : OK X cc own ret rm post mc ms) {b L : Nat} {xs : Nat → Int32} (sc : SCR X b L xs) {i : Int} (hd : decode cc pc = .ok (.iaload, 1)) (hi : 0 ≤ i ∧ i < L) (hL : L ≤ 3072) (k : AW X kc ks (pc + 1) Lc (iv (xv xs i) :: st) M) : AW X kc ks pc Lc (iv i :: .ref 4095 :: st) M := by
  obtain ⟨⟨p, l, e, R⟩, ⟨s, m, args, below⟩, ⟨meth, c, nL⟩, ⟨D, cT, ad⟩, A, Q⟩ := X
  obtain ⟨hx, hb, -⟩ := ok
  obtain ⟨s1, s2, s3, s4⟩ := sc
  intro H locs ls hP hD hS hl
  have s1 : ad 4095 = b := s1
  show W p l e R s m args below meth c H locs kc ks Q (F0 m pc ls (.int (Int32.ofInt i) :: .ref (ad 4095) :: st.map (cv ad)))
  rw [s1]
  refine va_sld hx hb s2 s3 (fun z => absurd (s4 b z) (by have := s3; exact Nat.not_le.mpr this)) hS (r_in hi (by omega)) hd ?_
  have := k H locs ls hP hD hS hl
  rw [r_cl hi.1 (by omega)]
  have e1 : (Value.int (xs i.toNat)) = iv (xv xs i) := by show _ = Value.int (Int32.ofInt (xs i.toNat).toInt); rw [Int32.ofInt_toInt]
  rw [e1]
  exact this
theorem a_slen (ok : OK X cc own ret rm post mc ms) {b L : Nat} {xs : Nat → Int32} (sc : SCR X b L xs) (hd : decode cc pc = .ok (.arraylength, 1)) (k : AW X kc ks (pc + 1) Lc (iv L :: st) M) : AW X kc ks pc Lc (.ref 4095 :: st) M := by
  obtain ⟨⟨p, l, e, R⟩, ⟨s, m, args, below⟩, ⟨meth, c, nL⟩, ⟨D, cT, ad⟩, A, Q⟩ := X
  obtain ⟨hx, hb, -⟩ := ok
  obtain ⟨s1, s2, s3, s4⟩ := sc
  intro H locs ls hP hD hS hl
  have s1 : ad 4095 = b := s1
  show W p l e R s m args below meth c H locs kc ks Q (F0 m pc ls (.ref (ad 4095) :: st.map (cv ad)))
  rw [s1]
  refine va_slen hx hb s2 s3 (fun z => absurd (s4 b z) (by have := s3; exact Nat.not_le.mpr this)) hS hd ?_
  have := k H locs ls hP hD hS hl
  rw [show Int32.ofNat L = Int32.ofInt (L : Int) from (Int32.ofInt_eq_ofNat).symm]
  exact this
theorem a_iand (ok : OK X cc own ret rm post mc ms) {a b : Int} (hd : decode cc pc = .ok (.iand, 1)) (k : AW X kc ks (pc + 1) Lc (iv (Int32.ofInt a &&& Int32.ofInt b).toInt :: st) M) : AW X kc ks pc Lc (iv b :: iv a :: st) M :=
  a_pure ok k fun hx hb _ _ _ w => lv_iand hx hb hd (by rw [show (Value.int (Int32.ofInt a &&& Int32.ofInt b)) = iv (Int32.ofInt a &&& Int32.ofInt b).toInt from by show _ = Value.int (Int32.ofInt _); rw [Int32.ofInt_toInt]]; exact w)
theorem a_land (ok : OK X cc own ret rm post mc ms) {a b : Int} (hd : decode cc pc = .ok (.land, 1)) (k : AW X kc ks (pc + 1) Lc (jv (Int64.ofInt a &&& Int64.ofInt b).toInt :: st) M) : AW X kc ks pc Lc (jv b :: jv a :: st) M :=
  a_pure ok k fun hx hb _ _ _ w => lv_land hx hb hd (by rw [show (Value.long (Int64.ofInt a &&& Int64.ofInt b)) = jv (Int64.ofInt a &&& Int64.ofInt b).toInt from by show _ = Value.long (Int64.ofInt _); rw [Int64.ofInt_toInt]]; exact w)
theorem a_lor (ok : OK X cc own ret rm post mc ms) {a b : Int} (hd : decode cc pc = .ok (.lor, 1)) (k : AW X kc ks (pc + 1) Lc (jv (Int64.ofInt a ||| Int64.ofInt b).toInt :: st) M) : AW X kc ks pc Lc (jv b :: jv a :: st) M :=
  a_pure ok k fun hx hb _ _ _ w => lv_lor hx hb hd (by rw [show (Value.long (Int64.ofInt a ||| Int64.ofInt b)) = jv (Int64.ofInt a ||| Int64.ofInt b).toInt from by show _ = Value.long (Int64.ofInt _); rw [Int64.ofInt_toInt]]; exact w)
def shl (a b : Int) : Int := (Int64.ofInt a <<< ((Int32.ofInt b).toInt64 &&& 63)).toInt
theorem a_lshl (ok : OK X cc own ret rm post mc ms) {a b : Int} (hd : decode cc pc = .ok (.lshl, 1)) (k : AW X kc ks (pc + 1) Lc (jv (shl a b) :: st) M) : AW X kc ks pc Lc (iv b :: jv a :: st) M :=
  a_pure ok k fun hx hb _ _ _ w => lv_lshl hx hb hd (by show _ = Int64.ofInt _; unfold shl; rw [Int64.ofInt_toInt]) w
theorem rgL_t (x : Int64) : rgL x.toInt := ⟨Int64.le_toInt _, Int64.toInt_lt _⟩
theorem rgL_w (z : Int) : rgL (w32 z) := by have := rg_w z; unfold rg at this; unfold rgL; omega
/-- the law's end -/
def FIN (X : Cx) : Prop := ∀ (ad2 : Nat → Nat) (Lc : List (Option Value)) (M : List va_E), AW (xad X ad2) 601024 7293034 2252 Lc [iv 1] M
theorem SCR_sm {X2 : Cx} {b L : Nat} {xs : Nat → Int32} (h : SCR X b L xs) (hs : smX X2 X) : SCR X2 b L xs := by
  obtain ⟨ad2, rfl, e⟩ := hs
  exact ⟨e.trans h.1, h.2⟩
theorem FIN_sm {X2 : Cx} (h : FIN X) (hs : smX X2 X) : FIN X2 := by
  obtain ⟨ad2, rfl, e⟩ := hs
  exact h
theorem EX_sm {X2 : Cx} (h : EX X) (hs : smX X2 X) : EX X2 := by
  obtain ⟨ad2, rfl, e⟩ := hs
  obtain ⟨⟨p, l, e, R⟩, ⟨s, m, args, below⟩, ⟨meth, c, nL⟩, ⟨D, cT, ad⟩, A, Q⟩ := X
  exact h
end LR
/-! what is remembered and kept, on both sides -/
section RE
variable {S S3 : St} {cnt nx : Int} {σ : Nat → St} {ac : Int} {di : Int → Int} {P0 P1 : St} {sv ik ke : Int → Int} {sz : Int} {tx : Int → Int}
/-- two states of the same, both sound -/
def TW (S S3 : St) : Prop := SV S ∧ SV S3 ∧ StE S S3
def RM (cnt nx : Int) (σ : Nat → St) (ac : Int) (di : Int → Int) : Prop := (0 ≤ cnt ∧ cnt ≤ 14) ∧ (0 ≤ nx ∧ nx < 14) ∧ ac = cnt ∧ ∀ i : Nat, (i : Int) < cnt → ∃ P, atD di (ac - 1 - i) P ∧ TW (σ ((nx + 13 - i) % 14).toNat) P
def RK (P0 P1 : St) (sv ik ke : Int → Int) : Prop := ik = sv ∧ (∀ i, 0 ≤ sv i ∧ sv i ≤ 1) ∧ ∀ v : Int, 0 ≤ v ∧ v ≤ 1 → sv v ≠ 0 → ∃ P, atD ke v P ∧ TW (if v = 0 then P0 else P1) P
def REt (sz : Int) (tx : Int → Int) : Prop := (0 ≤ sz ∧ sz ≤ 120) ∧ ∀ j, 0 ≤ tx j ∧ tx j ≤ 255
theorem dP_new (ha : 0 ≤ ac ∧ ac ≤ 14) : atD (dP S ac di) (aP ac - 1) S := by
  intro j h1 h2
  unfold dP cpF
  rw [if_pos (by omega)]
  congr 1; omega
theorem dP_old (ha : 0 ≤ ac ∧ ac ≤ 14) {k : Int} {P : St} (h : atD di k P) (hk : (if ac = 14 then 1 else 0) ≤ k ∧ k < ac) : atD (dP S ac di) (k - (if ac = 14 then 1 else 0)) P := by
  intro j h1 h2
  unfold dP cpF aP
  by_cases z : ac = 14
  · rw [if_pos z] at hk ⊢
    rw [if_pos z, if_pos z, if_neg (by omega)]
    unfold shD
    rw [if_pos (by omega), ← h j h1 h2]
    congr 1; omega
  · rw [if_neg z] at hk ⊢
    rw [if_neg z, if_neg z, if_neg (by omega), ← h j h1 h2]
    congr 1; omega
theorem RM_act (h : RM cnt nx σ ac di) (t : TW S S3) : RM (min (cnt + 1) 14) ((nx + 1) % 14) (σP S nx σ) (aP ac) (dP S3 ac di) := by
  obtain ⟨hc, hx, rfl, hi⟩ := h
  refine ⟨by omega, by omega, by unfold aP; split <;> omega, fun i hi2 => ?_⟩
  by_cases z : i = 0
  · subst z
    refine ⟨S3, ?_, ?_⟩
    · have := dP_new (S := S3) (di := di) hc
      rw [show aP ac - 1 - ((0 : Nat) : Int) = aP ac - 1 by omega]; exact this
    · unfold σP
      rw [if_pos (by omega)]; exact t
  · obtain ⟨P, p1, p2⟩ := hi (i - 1) (by omega)
    refine ⟨P, ?_, ?_⟩
    · have := dP_old (S := S3) hc p1 (by split <;> omega)
      rw [show aP ac - 1 - (i : Int) = ac - 1 - ((i - 1 : Nat) : Int) - (if ac = 14 then 1 else 0) by unfold aP; split <;> omega]
      exact this
    · unfold σP
      rw [if_neg (by omega), show ((nx + 1) % 14 + 13 - (i : Int)) % 14 = (nx + 13 - ((i - 1 : Nat) : Int)) % 14 by omega]
      exact p2
theorem RM_undo (h : RM cnt nx σ ac di) (hc : cnt ≠ 0) : RM (cnt - 1) ((nx + 13) % 14) σ (ac - 1) di := by
  obtain ⟨h1, hx, rfl, hi⟩ := h
  refine ⟨by omega, by omega, rfl, fun i hi2 => ?_⟩
  obtain ⟨P, p1, p2⟩ := hi (i + 1) (by omega)
  refine ⟨P, ?_, ?_⟩
  · rw [show ac - 1 - 1 - (i : Int) = ac - 1 - ((i + 1 : Nat) : Int) by omega]; exact p1
  · rw [show ((nx + 13) % 14 + 13 - (i : Int)) % 14 = (nx + 13 - ((i + 1 : Nat) : Int)) % 14 by omega]; exact p2
theorem RM_top (h : RM cnt nx σ ac di) (hc : cnt ≠ 0) : ∃ P, atD di (ac - 1) P ∧ TW (σ ((nx + 13) % 14).toNat) P := by
  obtain ⟨P, p1, p2⟩ := h.2.2.2 0 (by have := h.1; omega)
  exact ⟨P, by rw [show ac - 1 = ac - 1 - ((0 : Nat) : Int) by omega]; exact p1, by rw [show nx + 13 = nx + 13 - ((0 : Nat) : Int) by omega]; exact p2⟩
theorem RM_0 (h : RM cnt nx σ ac di) : RM 0 nx σ 0 di := ⟨by omega, h.2.1, rfl, fun i hi => by omega⟩
theorem RK_0 (h : RK P0 P1 sv ik ke) : RK P0 P1 (up (up sv 0 0) 1 0) (up (up ik 0 0) 1 0) ke := by
  obtain ⟨rfl, h2, -⟩ := h
  refine ⟨rfl, fun i => ?_, fun v hv z => ?_⟩
  · have := h2 i
    unfold up
    repeat' split
    all_goals omega
  · exfalso
    apply z
    unfold up
    rcases (show v = 0 ∨ v = 1 by omega) with rfl | rfl <;> rfl
theorem RK_save (h : RK P0 P1 sv ik ke) (t : TW S S3) {v : Int} (hv : 0 ≤ v ∧ v ≤ 1) : RK (if v = 0 then S else P0) (if v = 0 then P1 else S) (up sv v 1) (up ik v 1) (kP2 S3 ke v) := by
  obtain ⟨rfl, h2, h3⟩ := h
  refine ⟨rfl, fun i => ?_, fun w hw z => ?_⟩
  · have := h2 i
    unfold up
    split <;> omega
  · by_cases e : w = v
    · subst e
      refine ⟨S3, fun j j1 j2 => ?_, ?_⟩
      · unfold kP2 cpF
        rw [if_pos (by omega)]
        congr 1; omega
      · rcases (show w = 0 ∨ w = 1 by omega) with rfl | rfl
        · exact t
        · exact t
    · have z2 : ik w ≠ 0 := fun q => z (by unfold up; rw [if_neg e]; exact q)
      obtain ⟨P, p1, p2⟩ := h3 w hw z2
      refine ⟨P, fun j j1 j2 => ?_, ?_⟩
      · unfold kP2 cpF
        rw [if_neg (by omega)]
        exact p1 j j1 j2
      · rcases (show (w = 0 ∧ v = 1) ∨ (w = 1 ∧ v = 0) by omega) with ⟨rfl, rfl⟩ | ⟨rfl, rfl⟩
        · exact p2
        · exact p2
end RE
