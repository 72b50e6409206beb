/-! GROWTH: cells made anew stand behind the world's last place. -/
def adOf (X : Cx) : Nat → Nat := X.2.2.2.1.2.2
def xad (X : Cx) (ad : Nat → Nat) : Cx := (X.1, X.2.1, X.2.2.1, (X.2.2.2.1.1, X.2.2.2.1.2.1, ad), X.2.2.2.2)
def GK (X : Cx) (cc : ByteArray) (own : String) (ret : Option FieldType) (rm : Room) (post : Option Value → List va_E → Prop) (mc ms n : Nat) : Prop := va_AO RX4 X.2.1.1 ∧ ∀ ad2 : Nat → Nat, (∀ k, k < n → ad2 k = adOf X k) → OK (xad X ad2) cc own ret rm post mc ms
/-- the same context, its addresses otherwise -/
def smX (X2 X : Cx) : Prop := ∃ ad2 : Nat → Nat, X2 = xad X ad2 ∧ ad2 4095 = adOf X 4095
theorem smX.l {X2 X : Cx} (h : smX X2 X) : X2.1.2.1 = X.1.2.1 := by obtain ⟨_, rfl, _⟩ := h; rfl
theorem smX.n {X2 X : Cx} (h : smX X2 X) : nLof X2 = nLof X := by obtain ⟨_, rfl, _⟩ := h; rfl
theorem smX.m {X2 X : Cx} (h : smX X2 X) : X2.2.2.1.1.name = X.2.2.1.1.name := by obtain ⟨_, rfl, _⟩ := h; rfl
theorem smX.trans {X3 X2 X : Cx} (h : smX X3 X2) (h2 : smX X2 X) : smX X3 X := by obtain ⟨a, rfl, ha⟩ := h; obtain ⟨b, rfl, hb⟩ := h2; exact ⟨a, rfl, ha.trans hb⟩
def kcv (n : Nat) : Value → Bool
  | .ref k => Nat.blt k n
  | _ => true
/-- .. and the place that stands for what lies outside -/
def kcw (n : Nat) : Value → Bool
  | .ref k => Nat.blt k n || Nat.beq k 4095
  | _ => true
def kcE (n : Nat) : va_E → Prop
  | .inl (_, _, .inr (.inr (.inr (.inr f)))) => ∀ i r, f i = some r → r < n
  | .inl _ => True
  | .inr (_, fs) => fs.all (kcv n) = true
def kcM (n : Nat) : List va_E → Prop
  | [] => True
  | e :: M => kcE n e ∧ kcM n M
def kcL (n : Nat) (L : List (Option Value)) : Bool := L.all (fun o => match o with | some v => kcw n v | none => true)
theorem kcv_cv {n : Nat} {ad ad2 : Nat → Nat} (ha : ∀ k, k < n → ad2 k = ad k) {v : Value} (h : kcv n v = true) : cv ad2 v = cv ad v := by
  cases v with
  | ref k => exact congrArg Value.ref (ha k (Nat.blt_eq.mp h))
  | _ => rfl
theorem kcw_cv {n : Nat} {ad ad2 : Nat → Nat} (ha : ∀ k, k < n ∨ k = 4095 → ad2 k = ad k) {v : Value} (h : kcw n v = true) : cv ad2 v = cv ad v := by
  cases v with
  | ref k =>
    refine congrArg Value.ref (ha k ?_)
    have h : (Nat.blt k n || Nat.beq k 4095) = true := h
    rcases Bool.or_eq_true_iff.mp h with z | z
    · exact Or.inl (Nat.blt_eq.mp z)
    · exact Or.inr (Nat.eq_of_beq_eq_true z)
  | _ => rfl
theorem kcv_mono {n n2 : Nat} (hn : n ≤ n2) {v : Value} (h : kcv n v = true) : kcv n2 v = true := by
  cases v with
  | ref k => exact Nat.blt_eq.mpr (Nat.lt_of_lt_of_le (Nat.blt_eq.mp h) hn)
  | _ => rfl
theorem kcE_ce {n : Nat} {cT : Nat → ClassId} {ad ad2 : Nat → Nat} (ha : ∀ k, k < n → ad2 k = ad k) {e : va_E} (h : kcE n e) : ce cT ad2 e = ce cT ad e := by
  obtain ⟨t, k, x⟩ | ⟨ci, fs⟩ := e
  · obtain f | f | f | f | f := x
    · rfl
    · rfl
    · rfl
    · rfl
    · have h : ∀ i r, f i = some r → r < n := h
      simp only [ce, cA]
      refine congrArg (fun g : Nat → Option Nat => (Sum.inl (cT t, k, Sum.inr (Sum.inr (Sum.inr (Sum.inr g)))) : va_E)) (funext fun i => ?_)
      cases hf : f i with
      | none => rfl
      | some r => exact congrArg some (ha r (h i r hf))
  · have h : fs.all (kcv n) = true := h
    simp only [ce]
    congr 2
    exact List.map_congr_left fun v hv => kcv_cv ha (List.all_eq_true.mp h v hv)
theorem kcE_mono {n n2 : Nat} (hn : n ≤ n2) {e : va_E} (h : kcE n e) : kcE n2 e := by
  obtain ⟨t, k, x⟩ | ⟨ci, fs⟩ := e
  · obtain f | f | f | f | f := x
    · trivial
    · trivial
    · trivial
    · trivial
    · exact fun i r hr => Nat.lt_of_lt_of_le (h i r hr) hn
  · exact List.all_eq_true.mpr fun v hv => kcv_mono hn (List.all_eq_true.mp h v hv)
theorem kcM_get {n : Nat} : ∀ {M : List va_E} {k : Nat} {e : va_E}, kcM n M → M[k]? = some e → kcE n e
  | [], k, e, _, h => by simp at h
  | x :: M, 0, e, hc, h => by cases h; exact hc.1
  | x :: M, k + 1, e, hc, h => kcM_get hc.2 (by simpa using h)
theorem kcM_of {n : Nat} : ∀ {M : List va_E}, (∀ (k : Nat) (e : va_E), M[k]? = some e → kcE n e) → kcM n M
  | [], _ => trivial
  | x :: M, h => ⟨h 0 x rfl, kcM_of fun k e hk => h (k + 1) e (by simpa using hk)⟩
theorem kcM_app {n : Nat} : ∀ {M N : List va_E}, kcM n M → kcM n N → kcM n (M ++ N)
  | [], _, _, h => h
  | _ :: _, _, h1, h2 => ⟨h1.1, kcM_app h1.2 h2⟩
theorem kcM_mono {n n2 : Nat} (hn : n ≤ n2) : ∀ {M : List va_E}, kcM n M → kcM n2 M
  | [], _ => trivial
  | _ :: _, h => ⟨kcE_mono hn h.1, kcM_mono hn h.2⟩
theorem rn_range {b n k : Nat} (h : k < n) : rn (List.range' b n) k = b + k := by
  apply rn_get
  rw [List.getElem?_range' h]
  simp
theorem kcE_re {b n : Nat} {e : va_E} (h : kcE n e) : kcE (b + n) (re (List.range' b n) e) := by
  obtain ⟨t, k, x⟩ | ⟨ci, fs⟩ := e
  · obtain f | f | f | f | f := x
    · trivial
    · trivial
    · trivial
    · trivial
    · intro i r hr
      have hr : (f i).map (rn (List.range' b n)) = some r := hr
      cases hf : f i with
      | none => rw [hf] at hr; cases hr
      | some q =>
        rw [hf] at hr
        have := h i q hf
        cases hr
        rw [rn_range this]
        omega
  · refine List.all_eq_true.mpr fun v hv => ?_
    obtain ⟨w, hw, rfl⟩ := List.mem_map.mp hv
    have := List.all_eq_true.mp h w hw
    cases w with
    | ref k =>
      have hk : k < n := Nat.blt_eq.mp this
      refine Nat.blt_eq.mpr ?_
      show rn (List.range' b n) k < b + n
      rw [rn_range hk]
      exact Nat.add_lt_add_left hk b
    | _ => rfl
theorem kcM_re {b n : Nat} : ∀ {N : List va_E}, kcM n N → kcM (b + n) (N.map (re (List.range' b n)))
  | [], _ => trivial
  | _ :: _, h => ⟨kcE_re h.1, kcM_re h.2⟩
theorem fm_congr {α β : Type} {f g : α → Option β} : ∀ {l : List α}, (∀ x ∈ l, f x = g x) → l.filterMap f = l.filterMap g
  | [], _ => rfl
  | a :: l, h => by
    rw [List.filterMap_cons, List.filterMap_cons, h a List.mem_cons_self, fm_congr (fun x hx => h x (List.mem_cons_of_mem _ hx))]
theorem lA_cl {n : Nat} {ad ad2 : Nat → Nat} (ha : ∀ k, k < n ∨ k = 4095 → ad2 k = ad k) {L : List (Option Value)} (h : kcL n L = true) : lA ad2 L = lA ad L := by
  unfold lA
  apply fm_congr
  rintro ⟨o, i⟩ hq
  cases o with
  | none => rfl
  | some v =>
    have h1 : some v ∈ L := List.fst_mem_of_mem_zipIdx hq
    have := List.all_eq_true.mp h _ h1
    exact congrArg (fun w => some (i, w)) (kcw_cv ha this)
theorem st_cl {n : Nat} {ad ad2 : Nat → Nat} (ha : ∀ k, k < n ∨ k = 4095 → ad2 k = ad k) {st : List Value} (h : st.all (kcw n) = true) : st.map (cv ad2) = st.map (cv ad) := List.map_congr_left fun v hv => kcw_cv ha (List.all_eq_true.mp h v hv)
theorem cw_cl {n : Nat} {cT : Nat → ClassId} {ad ad2 : Nat → Nat} (ha : ∀ k, k < n → ad2 k = ad k) {M : List va_E} (hn : M.length ≤ n) (h : kcM n M) : cw cT ad2 M = cw cT ad M := by
  apply List.ext_getElem?
  intro k
  simp only [cw, List.getElem?_mapIdx]
  cases hk : M[k]? with
  | none => rfl
  | some e =>
    have h1 : k < M.length := (List.getElem?_eq_some_iff.mp hk).1
    simp only [Option.map_some]
    rw [ha k (by omega), kcE_ce ha (kcM_get h hk)]
theorem cw_app {cT : Nat → ClassId} {ad : Nat → Nat} {M N : List va_E} : cw cT ad (M ++ N) = cw cT ad M ++ N.mapIdx (fun i e => (ad (i + M.length), ce cT ad e)) := by
  simp only [cw, List.mapIdx_append]
theorem ra_inj {U : State} {c1 c2 : ClassId} {ty : FieldType} (h1 : va_RA U c1 ty) (h2 : va_RA U c2 ty) : c1 = c2 := by
  cases ty with
  | object C =>
    obtain ⟨_, _, _, _, _, a⟩ := h1
    obtain ⟨_, _, _, _, _, b⟩ := h2
    exact Option.some.inj (a.symm.trans b)
  | _ => exact Option.some.inj (h1.symm.trans h2)
section GR
variable {X : Cx} {cc : ByteArray} {own : String} {ret : Option FieldType} {rm : Room} {post : Option Value → List va_E → Prop} {mc ms kc ks pc : Nat} {L : List (Option Value)} {st : List Value} {M : List va_E}
theorem GK.ok {n : Nat} (h : GK X cc own ret rm post mc ms n) : OK X cc own ret rm post mc ms := by
  obtain ⟨⟨p, l, e, R⟩, ⟨s, m, args, below⟩, ⟨meth, c, nL⟩, ⟨D, cT, ad⟩, A, Q⟩ := X
  exact h.2 ad (fun _ _ => rfl)
theorem GK.step {n n2 : Nat} (h : GK X cc own ret rm post mc ms n) (hn : n ≤ n2) {ad2 : Nat → Nat} (ha : ∀ k, k < n → ad2 k = adOf X k) : GK (xad X ad2) cc own ret rm post mc ms n2 :=
  ⟨h.1, fun ad3 h3 => h.2 ad3 (fun k hk => (h3 k (Nat.lt_of_lt_of_le hk hn)).trans (ha k hk))⟩
/-- a new cell behind the last place -/
theorem a_pushW {p : Program} {l : Launch} {e : Env} {R : Room} {s : State} {m : MethodId} {args : Array Value} {below : List Frame} {meth : Method} {c : Code} {nL : Nat} {D : va_G} {cT : Nat → ClassId} {ad : Nat → Nat} {A : Nat → Prop} {Q : State → Prop} {q : Nat} {H1 : Heap} {locs1 : List Loc} {ls : Array Slot} {E : va_E} (hM : M.length < 4095)
    (hcl : kcM M.length M) (hE : kcE M.length E) (hL : kcL M.length L = true) (hst : st.all (kcw M.length) = true)
    (k : AW ((p, l, e, R), (s, m, args, below), (meth, c, nL), (D, cT, fun k => if k = M.length then q else ad k), A, Q) kc ks pc L (.ref M.length :: st) (M ++ [E]))
    (hP : va_P D classes (cw cT ad M ++ [(q, ce cT ad E)]) H1) (hD : va_D A (cw cT ad M ++ [(q, ce cT ad E)])) (hS : va_S A s.heap H1 locs1) (hl : lv_has ls nL (lA ad L)) : W p l e R s m args below meth c H1 locs1 kc ks Q (F0 m pc ls (.ref q :: st.map (cv ad))) := by
  have ha9 : ∀ k, k < M.length ∨ k = 4095 → (fun k => if k = M.length then q else ad k) k = ad k := fun k hk => if_neg (by omega)
  have ha : ∀ k, k < M.length → (fun k => if k = M.length then q else ad k) k = ad k := fun k hk => ha9 k (Or.inl hk)
  have e1 : cw cT (fun k => if k = M.length then q else ad k) (M ++ [E]) = cw cT ad M ++ [(q, ce cT ad E)] := by
    rw [cw_app, cw_cl ha (Nat.le_refl _) hcl]
    simp only [List.mapIdx_cons, List.mapIdx_nil, Nat.zero_add, if_true]
    rw [kcE_ce ha hE]
  have e2 : (Value.ref M.length :: st).map (cv (fun k => if k = M.length then q else ad k)) = .ref q :: st.map (cv ad) := by
    rw [List.map_cons, st_cl ha9 hst]
    simp only [cv, if_true]
  have := k H1 locs1 ls (by rw [e1]; exact hP) (by rw [e1]; exact hD) hS (by rw [lA_cl ha9 hL]; exact hl)
  rw [e2] at this
  exact this
theorem a_newa {t n : Nat} {atype : ArrayType} {z : Int} {x : (Nat → Int32) ⊕ (Nat → Int64) ⊕ (Nat → UInt32) ⊕ (Nat → UInt64) ⊕ (Nat → Option Nat)} (gk : GK X cc own ret rm post mc ms M.length) (hM : M.length < 4095) (hd : decode cc pc = .ok (.newarray atype, 2)) (hw : Cond.arrayClass (newarray.typeOf atype) ∈ UG) (ht : ∀ cT, (tysL cT)[t]? = some (cT t, newarray.typeOf atype)) (hx : ∀ ad, cA ad x = x) (hE : kcE M.length (.inl (t, n, x)))
    (hv : ∀ c : ClassId, vp_cell c (n, x) = arrV c n (fun _ => defaultValue (newarray.typeOf atype))) (hz : ¬ Int32.ofInt z < 0) (hN : (Int32.ofInt z).toNatClampNeg = n) (hbytes : n * componentBytes (newarray.typeOf atype) ≤ 536870912)
    (hroom : kc + 1 ≤ rm.cells ∧ ks + n ≤ rm.slots) (hcl : kcM M.length M) (hL : kcL M.length L = true) (hst : st.all (kcw M.length) = true)
    (k : ∀ X2 : Cx, smX X2 X → GK X2 cc own ret rm post mc ms (M.length + 1) → AW X2 (kc + 1) (ks + n) (pc + 2) L (.ref M.length :: st) (M ++ [.inl (t, n, x)])) : AW X kc ks pc L (iv z :: st) M := by
  obtain ⟨⟨p, l, e, R⟩, ⟨s, m, args, below⟩, ⟨meth, c, nL⟩, ⟨D, cT, ad⟩, A, Q⟩ := X
  obtain ⟨hxx, hb, hml, ho, hts, hK, hA, -, hN9, rfl, -⟩ := gk.ok
  intro H locs ls hP hD hS hl
  refine va_newa hxx hb (hts _ hw) rfl hK hP hD hS hA (a0 := (n, x)) hv hz hN hbytes hroom.1 hroom.2 hd fun q cA9 H1 hK1 hP1 hD1 hS1 => ?_
  have hcT : cA9 = cT t := ra_inj (hK1.2 4 (cA9, newarray.typeOf atype) rfl).2 (hK.2 t _ (ht cT)).2
  subst hcT
  have e0 : (Sum.inl (cT t, n, x) : va_E) = ce cT ad (.inl (t, n, x)) := by show _ = Sum.inl (cT t, n, cA ad x); rw [hx]
  rw [e0] at hP1 hD1
  exact a_pushW hM hcl hE hL hst (k _ ⟨_, rfl, if_neg (by omega)⟩ (gk.step (n2 := M.length + 1) (Nat.le_succ _) (ad2 := fun k => if k = M.length then q else ad k) (fun k hk => if_neg (by omega)))) hP1 hD1 hS1 hl
theorem a_newq {n idx : Nat} {z : Int} (gk : GK X cc own ret rm post mc ms M.length) (hM : M.length < 4095) (hd : decode cc pc = .ok (.anewarray idx, 3)) (hw : Cond.classLink own idx RX4 ∈ UG)
    (hz : ¬ Int32.ofInt z < 0) (hN : (Int32.ofInt z).toNatClampNeg = n) (hbytes : n * 4 ≤ 536870912)
    (hroom : kc + 1 ≤ rm.cells ∧ ks + n ≤ rm.slots) (hcl : kcM M.length M) (hL : kcL M.length L = true) (hst : st.all (kcw M.length) = true)
    (k : ∀ X2 : Cx, smX X2 X → GK X2 cc own ret rm post mc ms (M.length + 1) → AW X2 (kc + 1) (ks + n) (pc + 3) L (.ref M.length :: st) (M ++ [qa n (fun _ => none)])) : AW X kc ks pc L (iv z :: st) M := by
  obtain ⟨⟨p, l, e, R⟩, ⟨s, m, args, below⟩, ⟨meth, c, nL⟩, ⟨D, cT, ad⟩, A, Q⟩ := X
  obtain ⟨hxx, hb, hml, ho, hts, hK, hA, -, hN9, rfl, -⟩ := gk.ok
  intro H locs ls hP hD hS hl
  refine va_newq (C := RX4) hxx hb ho (hts _ hw) gk.1 hK hP hD hS hA hz hN hbytes hroom.1 hroom.2 hd fun q cA9 H1 hK1 hP1 hD1 hS1 => ?_
  have hcT : cA9 = cT 3 := ra_inj (hK1.2 4 (cA9, .object RX4) rfl).2 (hK.2 3 (cT 3, .object RX4) rfl).2
  subst hcT
  exact a_pushW (E := qa n (fun _ => none)) hM hcl (fun i r h => by cases h) hL hst (k _ ⟨_, rfl, if_neg (by omega)⟩ (gk.step (n2 := M.length + 1) (Nat.le_succ _) (ad2 := fun k => if k = M.length then q else ad k) (fun k hk => if_neg (by omega)))) hP1 hD1 hS1 hl
/-- a class whose objects are made: its link, what 'new' asks, its blank cell -/
def NWC (own : String) (idx ci N : Nat) (fs : List Value) : Prop := ∃ (C : String) (T : u_T) (ty : Nat → FieldType), classes[ci]? = some (C, T, N) ∧ (∀ w ∈ u_ws C T N, w ∈ UG) ∧ (∀ k, k < N → parseFieldDescriptor (T k).2.2.1 = some (ty k)) ∧ Cond.classLink own idx C ∈ UG ∧ Cond.instantiable C N ∈ UG ∧ Cond.initialized C ∈ UG ∧ (∀ j, j < N → defaultValue (ty j) = vp_V fs j) ∧ fs.all (kcv 0) = true ∧ (∀ ad, fs.map (cv ad) = fs)
theorem a_new {idx ci N : Nat} {fs : List Value} (gk : GK X cc own ret rm post mc ms M.length) (hM : M.length < 4095) (hd : decode cc pc = .ok (.new idx, 3)) (nc : NWC own idx ci N fs)
    (hroom : kc + 1 ≤ rm.cells ∧ ks + N ≤ rm.slots) (hcl : kcM M.length M) (hL : kcL M.length L = true) (hst : st.all (kcw M.length) = true)
    (k : ∀ X2 : Cx, smX X2 X → GK X2 cc own ret rm post mc ms (M.length + 1) → AW X2 (kc + 1) (ks + N) (pc + 3) L (.ref M.length :: st) (M ++ [ob ci fs])) : AW X kc ks pc L st M := by
  obtain ⟨⟨p, l, e, R⟩, ⟨s, m, args, below⟩, ⟨meth, c, nL⟩, ⟨D, cT, ad⟩, A, Q⟩ := X
  obtain ⟨hxx, hb, hml, ho, hts, hK, hA, -, hN9, rfl, -⟩ := gk.ok
  obtain ⟨C, T, ty, c1, c2, c3, c4, c5, c6, c7, c8, c9⟩ := nc
  intro H locs ls hP hD hS hl
  refine va_new hxx hb hts c2 ty c3 ho (hts _ c4) (hts _ c5) (hts _ c6) hK hP hD hS hA c1 c7 hroom.1 hroom.2 hd fun q H1 hP1 hD1 hS1 => ?_
  have e0 : (Sum.inr (ci, fs) : va_E) = ce cT ad (ob ci fs) := by show _ = Sum.inr (ci, fs.map (cv ad)); rw [c9]
  rw [e0] at hP1 hD1
  exact a_pushW (E := ob ci fs) hM hcl (List.all_eq_true.mpr fun v hv => kcv_mono (Nat.zero_le _) (List.all_eq_true.mp c8 v hv)) hL hst (k _ ⟨_, rfl, if_neg (by omega)⟩ (gk.step (n2 := M.length + 1) (Nat.le_succ _) (ad2 := fun k => if k = M.length then q else ad k) (fun k hk => if_neg (by omega)))) hP1 hD1 hS1 hl
theorem oi1 : Cond.instanceMethod Lib.objectInit ∈ UG := ug1 23 (by decide +kernel) rfl
theorem oi2 : Cond.code Lib.objectInit ⟨#[0xb1]⟩ 1 none ∈ UG := ug1 24 (by decide +kernel) rfl
theorem a_objI (ok : OK X cc own ret rm post mc ms) {idx q : Nat} (hd : decode cc pc = .ok (.invokespecial idx, 3)) (hw : Cond.methodLink own idx Lib.objectInit ∈ UG) (hroom : 1 ≤ rm.frames ∧ 20 ≤ rm.locals) (hrest : (st.map fun v => v.category).sum ≤ 8) (k : AW X kc ks (pc + 3) L st M) : AW X kc ks pc L (.ref q :: st) M := by
  obtain ⟨⟨p, l, e, R⟩, ⟨s, m, args, below⟩, ⟨meth, c, nL⟩, ⟨D, cT, ad⟩, A, Q⟩ := X
  obtain ⟨hxx, hb, hml, ho, hts, hK, hA, -, hN9, rfl, -⟩ := ok
  intro H locs ls hP hD hS hl
  have h8 : ((st.map (cv ad)).map fun v => v.category).sum ≤ 8 := by
    rw [List.map_map]
    rw [show ((fun v : Value => v.category) ∘ cv ad) = fun v : Value => v.category from by funext v; exact cv_cat ad v]
    exact hrest
  refine W.objInit hxx hb ho (hts _ hw) (hts _ oi1) (hts _ oi2) rfl (by rw [hml]; exact hl.1) rfl hd hroom.1 (by show 2 * 0 + _ + 12 ≤ _; omega) ?_
  exact k H locs ls hP hD hS hl
/-- a final field's link -/
def FPF (own : String) (idx ci k : Nat) (ty : FieldType) : Prop := ∃ (T : u_T) (N : Nat) (ty0 : Nat → FieldType), classes[ci]? = some (own, T, N) ∧ (∀ w ∈ u_ws own T N, w ∈ UG) ∧ k < N ∧ (T k).1 = own ∧
  (∀ k, k < N → parseFieldDescriptor (T k).2.2.1 = some (ty0 k)) ∧ (∀ a, a < N → ∀ b, b < N → a ≠ b → (T a).2.1 ≠ (T b).2.1) ∧ (T k).2.2.2 = true ∧ parseFieldDescriptor (T k).2.2.1 = some ty ∧ Cond.fieldLink own idx own (T k).2.1 (T k).2.2.1 ∈ UG
theorem a_putfF (ok : OK X cc own ret rm post mc ms) {idx ci kf q : Nat} {fs : List Value} {v : Value} {ty : FieldType} (hd : decode cc pc = .ok (.putfield idx, 3)) (lk : FPF own idx ci kf ty) (hnm : X.2.2.1.1.name = "<init>") (he : M[q]? = some (.inr (ci, fs))) (hn : narrow ty v = v) (hf : fits ty v = true) (hl0 : kf < fs.length) (k : AW X kc ks (pc + 3) L st (M.set q (.inr (ci, fs.set kf v)))) : AW X kc ks pc L (v :: .ref q :: st) M := by
  obtain ⟨⟨p, l, e, R⟩, ⟨s, m, args, below⟩, ⟨meth, c, nL⟩, ⟨D, cT, ad⟩, A, Q⟩ := X
  obtain ⟨hx, hb, -, ho, hts, hK, -, -, hN, -⟩ := ok
  intro H locs ls hP hD hS hl
  obtain ⟨T, N, ty0, hc, hin, hk, hC, hty, hnmm, hfin, hpd, hw⟩ := lk
  have e1 : cw cT ad (M.set q (.inr (ci, fs.set kf v))) = (cw cT ad M).set q (ad q, .inr (ci, (fs.map (cv ad)).set kf (cv ad v))) := by
    rw [cw_set]; show _ = (cw cT ad M).set q _; rw [show ce cT ad (.inr (ci, fs.set kf v)) = .inr (ci, (fs.set kf v).map (cv ad)) from rfl, List.map_set]
  exact va_putF hx hb hts hin ty0 hty hnmm ho hK hP hD hS q (cw_get he) hc kf hk (ref := own) (hts _ hw) (fun x hx => by rw [hC] at hx; exact hx) hfin hnm hC hpd (cv_fits hn) (cv_fits2 hf) (by rw [List.length_map]; exact hl0) hd (fun H1 locs1 a b d => k H1 locs1 ls (by rw [e1]; exact a) (by rw [e1]; exact b) d hl)
theorem a_aast (ok : OK X cc own ret rm post mc ms) {q n qk : Nat} {fs : List Value} {f : Nat → Option Nat} {i : Int} (hd : decode cc pc = .ok (.aastore, 1)) (he : M[q]? = some (qa n f)) (hn : n ≤ 2147483647) (hi : 0 ≤ i ∧ i < n) (hv : M[qk]? = some (ob 4 fs)) (k : AW X kc ks (pc + 1) L st (M.set q (qa n (va_up f i.toNat (some qk))))) : AW X kc ks pc L (.ref qk :: iv i :: .ref q :: st) M := by
  obtain ⟨⟨p, l, e, R⟩, ⟨s, m, args, below⟩, ⟨meth, c, nL⟩, ⟨D, cT, ad⟩, A, Q⟩ := X
  obtain ⟨hxx, hb, -, ho, hts, hK, -⟩ := ok
  intro H locs ls hP hD hS hl
  have e1 : cw cT ad (M.set q (qa n (va_up f i.toNat (some qk)))) = (cw cT ad M).set q (ad q, .inl (cT 3, n, .inr (.inr (.inr (.inr (va_up (fun i => (f i).map ad) (Int32.ofInt i).toNatClampNeg (some (ad qk)))))))) := by
    rw [cw_set, r_cl hi.1 (by omega)]
    congr 1
    show (ad q, (Sum.inl (cT 3, n, .inr (.inr (.inr (.inr (fun j => (va_up f i.toNat (some qk) j).map ad))))) : va_E)) = _
    congr 7
    refine congrArg Sum.inr (funext fun j => ?_)
    simp only [va_up]
    split <;> rfl
  exact va_astq hxx hb hK hP hD hS q 3 qk 4 (cw_get he) rfl (cw_get hv) rfl (r_in hi hn) hd (fun H1 locs1 a b d => k H1 locs1 ls (by rw [e1]; exact a) (by rw [e1]; exact b) d hl)
end GR
/-- A CONTRACT THAT GROWS: a constructor; behind it stand the cells N, whose first are M's -/
def pgG (D : va_G) (cT : Nat → ClassId) (ad : Nat → Nat) (sz : Nat) (M : List va_E) : State → Prop := fun U => pg D cT ad sz M U ∧ va_AO RX4 U
theorem pgG_blind {D : va_G} {cT : Nat → ClassId} {ad : Nat → Nat} {sz : Nat} {M : List va_E} {av : List Value} : FrameBlind (va_Pc av (pgG D cT ad sz M)) := by
  intro a U g mk q
  obtain ⟨e, ⟨q0, qP, qK, qN, qD⟩, qA⟩ := q
  exact ⟨e, ⟨q0, qP, va_K.moved (u := U) (U := U.calling g mk a) (Vm.Alike.refl U.vm) qK, NW.same (s := U) (U := U.calling g mk a) rfl qN, qD⟩, va_AO.moved (u := U) (U := U.calling g mk a) (Vm.Alike.refl U.vm) qA⟩
def qgG (D : va_G) (cT : Nat → ClassId) (ad : Nat → Nat) (n : Nat) (N : List va_E) (A : Nat → Prop) : Array Value → State → Outcome → State → Prop := fun _ st oc t =>
  (oc = .returned none ∧ ∃ ad2 : Nat → Nat, (∀ k, k < n → ad2 k = ad k) ∧ va_P D classes (cw cT ad2 N) t.heap ∧ va_D A (cw cT ad2 N)) ∧ va_F A st t
def CtG (l : Launch) (y : MethodName) (cc : ByteArray) (nL : Nat) (rm : Room) (av : List Value) (M N : List va_E) : Prop :=
  ∀ (D : va_G) (cT : Nat → ClassId) (ad : Nat → Nat) (sz : Nat), Met l y (.code y cc nL none :: UG) rm (va_Pc (av.map (cv ad)) (pgG D cT ad sz M)) (qgG D cT ad M.length N (va_A (cw cT ad M) sz)) rm.cells rm.slots (va_A (cw cT ad M) sz)
theorem W.mono {p : Program} {l : Launch} {e : Env} {R : Room} {s : State} {m : MethodId} {args : Array Value} {below : List Frame} {meth : Method} {c : Code} {H : Heap} {locs : List Loc} {kc ks : Nat} {Q Q2 : State → Prop} {g : JFrame} (h : ∀ t, Q t → Q2 t) (k : W p l e R s m args below meth c H locs kc ks Q g) : W p l e R s m args below meth c H locs kc ks Q2 g := by
  intro T hT Y
  obtain ⟨t, a, b⟩ := k T hT Y
  exact ⟨t, a, h t b⟩
theorem CtG.of {l : Launch} {y : MethodName} {cc : ByteArray} {nL n : Nat} {rm : Room} {av : List Value} {M N : List va_E} (mi : MI y cc nL none n) (hlen : (eL av).length ≤ nL)
    (body : ∀ X : Cx, X.1.2.1 = l → nLof X = nL → X.2.2.1.1.name = y.name → GK X cc y.cls none rm (fun v M' => v = none ∧ M' = N) rm.cells rm.slots M.length → AW X 0 0 0 (eL av ++ List.replicate (nL - (eL av).length) none) [] M) : CtG l y cc nL rm av M N := by
  intro D cT ad sz
  refine Met.ofW (cc := cc) (maxL := nL) (ret := none) (ws' := UG) mi.2.2.1 rfl ?_
  intro p e s m args below meth c s₁ B hml hv
  obtain ⟨rfl, ⟨hsz, hP, hK, hN, hD0⟩, hAO⟩ := hv
  have hts := atoms_spec (ws := .code y cc nL none :: UG) B.pre
  have hown : s.vm.findClass y.cls = some m.cls := findClass_of_methodNamed B.named
  subst hsz
  have hD := hD0.self (sz := s.heap.size)
  have hA : ∀ q : Nat, s.heap.size ≤ q → va_A (cw cT ad M) s.heap.size q := fun q h => Or.inr h
  have hl := lv_entry (av.map (cv ad)) (n := nL) (by rw [eL_len]; exact hlen)
  rw [lg_entry_eq]
  refine body ((p, l, e, (headSpec (Cond.code y cc nL none :: UG) rm).room), (s, m, (av.map (cv ad)).toArray, below), (meth, c, nL), (D, cT, ad), va_A (cw cT ad M) s.heap.size, _) rfl rfl (name_of_methodNamed B.named B.method).1
    ⟨hAO, fun ad2 h2 => ⟨B.exec, B.bytes, hml, hown, fun w h => hts w (List.mem_cons_of_mem _ h), hK, hA, B.notSynchronized, hN, rfl, B.returns, fun _ _ _ k => W.mono (fun t ht => ?_) k⟩⟩ s.heap [] _ hP hD va_S.rf (lv_mono hl fun q hq => ?_)
  · obtain ⟨o, t1, t2, ⟨⟨v, M', g1, ⟨rfl, rfl⟩, g3, g4, g5⟩, g6⟩, t4⟩ := ht
    exact ⟨o, t1, t2, ⟨⟨g1, ad2, h2, g3, g5⟩, g6⟩, t4⟩
  · obtain ⟨v, h1, h2⟩ := lA_mem.mp hq
    have := eL_args ad (nL - (eL av).length) av 0 q.1 v h1
    rw [Nat.zero_add] at this
    obtain ⟨q1, q2⟩ := q
    dsimp only at h2 this ⊢
    rw [h2]; exact this
section GC
variable {X : Cx} {cc : ByteArray} {own : String} {ret : Option FieldType} {rm : Room} {post : Option Value → List va_E → Prop} {mc ms kc ks pc : Nat} {L : List (Option Value)} {st : List Value} {M : List va_E}
variable {y : MethodName} {cc2 : ByteArray} {nL2 idx : Nat} {rm2 : Room} {N : List va_E}
/-- a constructor on a blank cell, the last one -/
theorem a_callI (gk : GK X cc own ret rm post mc ms (M.length + 1)) (hM : M.length + N.length ≤ 4095) {ci : Nat} {fs : List Value} (hd : decode cc pc = .ok (.invokespecial idx, 3)) (hw : Cond.methodLink own idx y ∈ UG ∨ ∃ host, Cond.methodLinkNest own idx y host ∈ nwL) (hy : y.name = "<init>") (hi : Cond.instanceMethod y ∈ UG) (mi : MI y cc2 nL2 none 0) (ct : CtG X.1.2.1 y cc2 nL2 rm2 [.ref 0] [ob ci fs] N) (hNl : 1 ≤ N.length) (hNc : kcM N.length N)
    (hroom : rm2.frames + 1 ≤ rm.frames ∧ 8 + (nL2 + 11) + rm2.locals ≤ rm.locals ∧ kc + rm2.cells ≤ rm.cells ∧ ks + rm2.slots ≤ rm.slots) (hcl : kcM M.length M) (hfs : fs.all (kcv 0) = true) (hL : kcL M.length L = true) (hst : st.all (kcw (M.length + 1)) = true) (hrest : (st.map fun v => v.category).sum ≤ 8)
    (k : ∀ X2 : Cx, smX X2 X → GK X2 cc own ret rm post mc ms (M.length + N.length) → AW X2 (kc + rm2.cells) (ks + rm2.slots) (pc + 3) L st (M ++ N.map (re (List.range' M.length N.length)))) : AW X kc ks pc L (.ref M.length :: st) (M ++ [ob ci fs]) := by
  obtain ⟨⟨p, l, e, R⟩, ⟨s, m, args, below⟩, ⟨meth, c, nL⟩, ⟨D, cT, ad⟩, A, Q⟩ := X
  obtain ⟨hxx, hb, hml, ho, hts, hK, hA, -, hN9, rfl, -⟩ := gk.ok
  intro H locs ls hP hD hS hl
  have hPM : va_P D classes (cw cT ad M) H := fun k q hq => hP k q (by rw [cw_app]; rw [List.getElem?_append_left (List.getElem?_eq_some_iff.mp hq).1]; exact hq)
  have hcell : (M ++ [ob ci fs])[M.length]? = some (ob ci fs) := by simp
  have hb1 := hP M.length _ (cw_get hcell)
  have hDM : va_D A (cw cT ad M) := ⟨fun i j a b ha hb2 hab => hD.1 i j a b (by rw [cw_app]; rw [List.getElem?_append_left (List.getElem?_eq_some_iff.mp ha).1]; exact ha) (by rw [cw_app]; rw [List.getElem?_append_left (List.getElem?_eq_some_iff.mp hb2).1]; exact hb2) hab, fun k q hq => hD.2 k q (by rw [cw_app]; rw [List.getElem?_append_left (List.getElem?_eq_some_iff.mp hq).1]; exact hq)⟩
  -- the callee's world
  have ecl : cw cT (fun _ => ad M.length) [ob ci fs] = [(ad M.length, ce cT ad (ob ci fs))] := by
    show [(ad M.length, ce cT (fun _ => ad M.length) (ob ci fs))] = _
    rw [kcE_ce (n := 0) (ad := ad) (fun k h => absurd h (Nat.not_lt_zero k)) (show kcE 0 (ob ci fs) from hfs)]
  have hPc : va_P D classes (cw cT (fun _ => ad M.length) [ob ci fs]) H := by
    rw [ecl]
    intro k q hq
    have hz : k < 1 := (List.getElem?_eq_some_iff.mp hq).1
    rw [show k = 0 by omega] at hq
    cases hq
    exact hb1
  have hDc : va_D (fun _ => True) (cw cT (fun _ => ad M.length) [ob ci fs]) := by
    rw [ecl]
    refine ⟨fun i j a b ha hb2 _ => ?_, fun _ _ _ => trivial⟩
    have h1 : i < 1 := (List.getElem?_eq_some_iff.mp ha).1
    have h2 : j < 1 := (List.getElem?_eq_some_iff.mp hb2).1
    omega
  have h8 : ((st.map (cv ad)).map fun v => v.category).sum ≤ 8 := by
    rw [List.map_map]
    rw [show ((fun v : Value => v.category) ∘ cv ad) = fun v : Value => v.category from by funext v; exact cv_cat ad v]
    exact hrest
  have hr : va_Run p l e R s m args below meth c H locs kc ks rm2.cells rm2.slots (F0 m pc ls ((Value.ref M.length :: st).map (cv ad))) (st.map (cv ad)) (qgG D cT (fun _ => ad M.length) [ob ci fs].length N (va_A (cw cT (fun _ => ad M.length) [ob ci fs]) H.size) [Value.ref (ad M.length)].toArray) (va_A (cw cT (fun _ => ad M.length) [ob ci fs]) H.size) := by
    have hpre : PreS s H (va_Pc ([Value.ref 0].map (cv (fun _ => ad M.length))) (pgG D cT (fun _ => ad M.length) H.size [ob ci fs])) [Value.ref (ad M.length)] := ⟨pgG_blind, fun U hU hW => ⟨rfl, ⟨by rw [hU], by rw [hU]; exact hPc, va_K.moved hW.alike hK, hN9.moved hW, hDc⟩, va_AO.moved hW.alike gk.1⟩⟩
    rcases hw with hw | ⟨host, hw⟩
    · exact va_runI (p := p) (l := l) (e := e) (R := R) (s := s) (m := m) (args := args) (below := below) (meth := meth) (c := c) (Ts := UG) (b := ad M.length) (As := []) (n := 0) (nL := nL) ⟨hxx, hb, hml, ho, hts⟩ (ct D cT (fun _ => ad M.length) H.size)
        ⟨callB_of 0 hts (ug_goodIn mi.1) rfl rfl rfl (hts _ mi.2.2.2) (hts _ hw) mi.2.1 ⟨hroom.1, hroom.2.1⟩, hy, hts _ hi⟩ hpre rfl rfl hl.1 rfl (lv_room h8) hd ⟨hroom.2.2.1, hroom.2.2.2⟩
    · exact va_runIN (p := p) (l := l) (e := e) (R := R) (s := s) (m := m) (args := args) (below := below) (meth := meth) (c := c) (Ts := UG) (host := host) (b := ad M.length) (As := []) (n := 0) (nL := nL) ⟨hxx, hb, hml, ho, hts⟩ (ct D cT (fun _ => ad M.length) H.size)
        ⟨va_cnB 0 hts (ug_goodIn mi.1) rfl rfl rfl (hN9 _ hw) (hts _ mi.2.2.2) mi.2.1 ⟨hroom.1, hroom.2.1⟩, hy, hts _ hi⟩ hpre rfl rfl hl.1 rfl (lv_room h8) hd ⟨hroom.2.2.1, hroom.2.2.2⟩
  intro T hT Y
  obtain ⟨v, st₀, t, T', Lc, h0, Y', hLc, e1, e2, ⟨⟨hv, ad3, had3, hP', hD'⟩, hz, hk⟩, stp⟩ := hr T hT Y
  cases hv
  rw [h0] at hz hk
  -- the callee's addresses
  have hAc : ∀ q, va_A (cw cT (fun _ => ad M.length) [ob ci fs]) H.size q → q = ad M.length ∨ H.size ≤ q := by
    intro q hq
    rcases hq with ⟨i, e9, hq⟩ | hq
    · rw [ecl] at hq
      have hz : i < 1 := (List.getElem?_eq_some_iff.mp hq).1
      rw [show i = 0 by omega] at hq
      cases hq
      exact Or.inl rfl
    · exact Or.inr hq
  have hAM : A (ad M.length) := hD.2 M.length _ (cw_get hcell)
  have hAA : ∀ q, va_A (cw cT (fun _ => ad M.length) [ob ci fs]) H.size q → A q := by
    intro q hq
    rcases hAc q hq with rfl | h
    · exact hAM
    · exact hA q (Nat.le_trans hS.1 h)
  have hapart : ∀ (k : Nat) (q : Nat × va_E), (cw cT ad M)[k]? = some q → ¬ va_A (cw cT (fun _ => ad M.length) [ob ci fs]) H.size q.1 := by
    intro k q hq hA9
    have hk9 : k < M.length := by have := (List.getElem?_eq_some_iff.mp hq).1; simpa [cw] using this
    have hq2 : (cw cT ad (M ++ [ob ci fs]))[k]? = some q := by rw [cw_app, List.getElem?_append_left (List.getElem?_eq_some_iff.mp hq).1]; exact hq
    rcases hAc _ hA9 with h | h
    · have := hD.1 k M.length q _ hq2 (cw_get hcell) h
      omega
    · have := (hP k q hq2).lt
      omega
  have hk1 : ∀ q : Nat, q < H.size → ¬ va_A (cw cT (fun _ => ad M.length) [ob ci fs]) H.size q → T'.heap[q]? = H[q]? := fun q a b => by rw [e1]; exact hk q a b
  have hS1 : va_S A s.heap T'.heap (locs ++ Lc) := ⟨Nat.le_trans hS.1 (by rw [e1]; exact hz), fun q h1 h2 => by rw [hk1 q (Nat.lt_of_lt_of_le h1 hS.1) (fun z => h2 (hAA q z))]; exact hS.2.1 q h1 h2, fun q hq => by
      rcases List.mem_append.mp hq with h | h
      · exact hS.2.2 q h
      · exact hAA _ (hLc q h)⟩
  -- the addresses behind
  have had6 : ∀ k, k < M.length + 1 ∨ k = 4095 → (fun k => if k < M.length + 1 ∨ k = 4095 then ad k else ad3 (k - M.length)) k = ad k := fun k hk => if_pos hk
  have had5 : ∀ j, j < N.length → (fun k => if k < M.length + 1 ∨ k = 4095 then ad k else ad3 (k - M.length)) (M.length + j) = ad3 j := by
    intro j hj
    show (if M.length + j < M.length + 1 ∨ M.length + j = 4095 then _ else _) = _
    by_cases h : j = 0
    · subst h
      rw [if_pos (by omega)]
      exact (had3 0 (Nat.lt_succ_self 0)).symm
    · rw [if_neg (by omega), Nat.add_sub_cancel_left]
  generalize hg4 : (fun k => if k < M.length + 1 ∨ k = 4095 then ad k else ad3 (k - M.length)) = ad4 at had6 had5
  have had4 : ∀ k, k < M.length + 1 → ad4 k = ad k := fun k hk => had6 k (Or.inl hk)
  have e9 : cw cT ad4 (M ++ N.map (re (List.range' M.length N.length))) = cw cT ad M ++ cw cT ad3 N := by
    rw [cw_app, cw_cl (n := M.length) (fun k hk => had4 k (Nat.lt_succ_of_lt hk)) (Nat.le_refl _) hcl]
    congr 1
    apply List.ext_getElem?
    intro k
    simp only [cw, List.getElem?_mapIdx, List.getElem?_map, Option.map_map]
    cases hk : N[k]? with
    | none => rfl
    | some e0 =>
      simp only [Option.map_some, Function.comp]
      have hk9 : k < N.length := (List.getElem?_eq_some_iff.mp hk).1
      rw [Nat.add_comm k, had5 k hk9, ce_ce, kcE_ce (n := N.length) (ad := ad3) (fun j hj => by rw [rn_range hj, had5 j hj]) (kcM_get hNc hk)]
  have hP9 : va_P D classes (cw cT ad4 (M ++ N.map (re (List.range' M.length N.length)))) T'.heap := by
    rw [e9]
    exact va_P.app (hPM.kept fun k q hq => hk1 _ (hPM k q hq).lt (hapart k q hq)) (by rw [e1]; exact hP')
  have hD9 : va_D A (cw cT ad4 (M ++ N.map (re (List.range' M.length N.length)))) := by
    rw [e9]
    exact va_D.app hDM (hD'.weaken fun k q _ h => hAA _ h) fun i j a b ha hb2 hab => hapart i a ha (by rw [hab]; exact hD'.2 j b hb2)
  have gk2 : GK ((p, l, e, R), (s, m, args, below), (meth, c, nL), (D, cT, ad4), A, Q) cc own ret R post mc ms (M.length + N.length) := gk.step (n2 := M.length + N.length) (by omega) (ad2 := ad4) had4
  obtain ⟨t2, a1, b1⟩ := k ((p, l, e, R), (s, m, args, below), (meth, c, nL), (D, cT, ad4), A, Q) ⟨_, rfl, had6 4095 (Or.inr rfl)⟩ gk2 T'.heap (locs ++ Lc) ls hP9 hD9 hS1 (by rw [lA_cl (n := M.length) (fun k hk => had6 k (by omega)) hL]; exact hl) T' rfl Y'
  refine ⟨t2, stp t2 ?_, b1⟩
  rw [st_cl (n := M.length + 1) had6 hst] at a1
  exact a1
end GC
