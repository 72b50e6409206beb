/-! WRAPPERS in the layer: a class's world with the law's row 'out' behind it; methods with a table; longs in rows. -/
def πs (n f : Nat) : List Nat := List.range' 0 n ++ List.range' (n + 1) (f - n)
/-- the class's cells M (n of them, naming places below f), and the row out behind them -/
def wr (n f : Nat) (M : List va_E) (fo : Int → Int) : List va_E := M.map (re (πs n f)) ++ [la 1 fo]
theorem πs_take (n f : Nat) : (πs n f).take n = List.range' 0 n := by
  unfold πs
  rw [List.take_append_of_le_length (by simp)]
  exact List.take_of_length_le (by simp)
theorem fit_wr {n f : Nat} {M : List va_E} {fo : Int → Int} (h : M.length = n) : fitX (πs n f) n (wr n f M fo) M := by
  unfold fitX
  rw [πs_take]
  apply List.ext_getElem?
  intro i
  rw [List.getElem?_map, List.getElem?_map]
  by_cases hi : i < n
  · rw [List.getElem?_range' hi]
    simp only [Option.map_some, Nat.zero_add, Nat.one_mul]
    have h1 : M[i]? = some M[i] := List.getElem?_eq_getElem (by omega)
    rw [h1]
    unfold wr
    rw [List.getElem?_append_left (by rw [List.length_map]; omega), List.getElem?_map, h1]
    rfl
  · rw [List.getElem?_eq_none (by simp; omega), List.getElem?_eq_none (by omega)]
    rfl
theorem nd_wr (n f : Nat) : ((πs n f).take n).Nodup := by rw [πs_take]; exact List.nodup_range' (step := 1)
theorem pfind_rg (k : Nat) : ∀ (m s : Nat) (T : List Nat) (M' : List va_E), M'.length = m → pfind k (List.range' s m ++ T) M' = if s ≤ k ∧ k < s + m then M'[k - s]? else none
  | 0, s, T, M', h => by
    rw [if_neg (by omega)]
    cases M' with
    | nil => cases T <;> rfl
    | cons _ _ => simp at h
  | m + 1, s, T, M', h => by
    cases M' with
    | nil => simp at h
    | cons e M' =>
      rw [List.range'_succ, List.cons_append]
      simp only [pfind]
      cases hb : Nat.beq k s with
      | true =>
        have := Nat.eq_of_beq_eq_true hb
        subst this
        simp
      | false =>
        have hne : k ≠ s := fun z => by rw [z] at hb; simp at hb
        simp only
        rw [pfind_rg k m (s + 1) T M' (by simpa using h)]
        by_cases a : s + 1 ≤ k ∧ k < s + 1 + m
        · rw [if_pos a, if_pos (by omega), show k - s = (k - (s + 1)) + 1 by omega, List.getElem?_cons_succ]
        · rw [if_neg a, if_neg (by omega)]
theorem pb_wr {n f : Nat} {M M' : List va_E} {fo : Int → Int} (h : M.length = n) (h' : M'.length = n) : pb (πs n f) (wr n f M fo) M' = wr n f M' fo := by
  apply List.ext_getElem?
  intro i
  unfold pb
  rw [pbF_get, Nat.zero_add, show pfind i (πs n f) M' = _ from pfind_rg i n 0 _ M' h', Nat.sub_zero]
  unfold wr
  by_cases hi : i < n
  · rw [if_pos (by omega), List.getElem?_append_left (by rw [List.length_map]; omega), List.getElem?_append_left (by rw [List.length_map]; omega), List.getElem?_map, List.getElem?_map, List.getElem?_eq_getElem (by omega), List.getElem?_eq_getElem (by omega)]
    rfl
  · rw [if_neg (by omega), List.getElem?_append_right (by rw [List.length_map]; omega), List.getElem?_append_right (by rw [List.length_map]; omega), List.length_map, List.length_map, h, h']
    cases ([la 1 fo] : List va_E)[i - n]? <;> rfl
theorem wr_len {n f : Nat} {M : List va_E} {fo : Int → Int} (h : M.length = n) : (wr n f M fo).length = n + 1 := by unfold wr; simp [h]
theorem wr_out {n f : Nat} {M : List va_E} {fo : Int → Int} (h : M.length = n) : (wr n f M fo)[n]? = some (la 1 fo) := by
  unfold wr
  rw [List.getElem?_append_right (by rw [List.length_map]; omega), List.length_map, h, Nat.sub_self]; rfl
theorem wr_set {n f : Nat} {M : List va_E} {fo : Int → Int} {g : Int → Int} (h : M.length = n) : (wr n f M fo).set n (la 1 g) = wr n f M g := by
  unfold wr
  rw [List.set_append_right _ _ (by rw [List.length_map]; omega), List.length_map, h, Nat.sub_self]; rfl
section WL
variable {X : Cx} {cc : ByteArray} {own : String} {ret : Option FieldType} {rm : Room} {post : Option Value → List va_E → Prop} {mc ms kc ks pc : Nat} {L : List (Option Value)} {st : List Value} {M : List va_E}
theorem up_arrL {f : Int → Int} {i v : Int} (h : 0 ≤ i) : arrL (up f i v) = vp_updL (arrL f) i.toNat (Int64.ofInt v) := by
  funext j
  simp only [arrL, up, vp_updL]
  by_cases e : j = i.toNat
  · rw [if_pos e, if_pos (by omega)]
  · rw [if_neg e, if_neg (by omega)]
end WL
/-! a contract of a method with a table -/
def CtW (l : Launch) (y : MethodName) (cc : ByteArray) (nL : Nat) (ret : Option FieldType) (hh : List (Nat × Nat × Nat × Nat)) (rm : Room) (av : List Value) (M : List va_E) (post : Option Value → List va_E → Prop) : Prop :=
  ∀ (D : va_G) (cT : Nat → ClassId) (ad : Nat → Nat) (sz : Nat), Met l y (.codeWith y cc nL ret hh :: UG) rm (va_Pc (av.map (cv ad)) (pgX D cT ad sz M)) (qg D cT ad post (va_A (cw cT ad M) sz)) 1 6 (va_A (cw cT ad M) sz)
def TB : Cx → List (Nat × Nat × Nat × Nat) → Prop
  | (_, _, (_, c, _), _, _, _), hh => c.exceptionTable.toList = tableOf hh
def MIW (y : MethodName) (cc : ByteArray) (nL : Nat) (ret : Option FieldType) (hh : List (Nat × Nat × Nat × Nat)) (n : Nat) : Prop := Cond.codeWith y cc nL ret hh ∈ UG ∧ (y.cls ≠ "java/lang/invoke/MethodHandle" ∧ y.cls ≠ "java/lang/invoke/VarHandle" ∧ (parseMethodDescriptor y.desc).map (fun d => d.parameters.length) = some n) ∧ plainName y.cls = true ∧ Cond.initialized y.cls ∈ UG
theorem CtW.of {l : Launch} {y : MethodName} {cc : ByteArray} {nL n : Nat} {ret : Option FieldType} {hh : List (Nat × Nat × Nat × Nat)} {rm : Room} {av : List Value} {M : List va_E} {post : Option Value → List va_E → Prop} (hl0 : l.stackTraces = false) (mi : MIW y cc nL ret hh n) (hlen : (eL av).length ≤ nL)
    (body : ∀ X : Cx, X.1.2.1 = l → nLof X = nL → OK X cc y.cls ret rm post 1 6 → EX X → TB X hh → AW X 0 0 0 (eL av ++ List.replicate (nL - (eL av).length) none) [] M) : CtW l y cc nL ret hh rm av M post := by
  intro D cT ad sz
  refine MetFree.of_bodyS (code := cc) (maxLocals := nL) (ret := ret) mi.2.2.1 ?_ ?_
  · intro args s m h hn
    obtain ⟨m9, meth, c, hn9, h1, h2, h3, h4, -, h5, h6, -⟩ := Cond.codeWith_spec (atoms_spec (ws := .codeWith y cc nL ret hh :: UG) h _ List.mem_cons_self)
    cases hn.symm.trans hn9
    exact ⟨meth, c, h1, h2, h3, h4, h5, h6⟩
  · intro p e s m args below meth c s₁ B hml hv _
    have hh0 : s₁.heap = s.heap := by rw [B.state]; rfl
    obtain ⟨rfl, ⟨hsz, hP, hK, hN, hD0⟩, hx, hz⟩ := hv
    have hts := atoms_spec (ws := .codeWith y cc nL ret hh :: UG) B.pre
    have hown : s.vm.findClass y.cls = some m.cls := findClass_of_methodNamed B.named
    subst hsz
    have hD := hD0.self (sz := s.heap.size)
    have hA : ∀ q : Nat, s.heap.size ≤ q → va_A (cw cT ad M) s.heap.size q := fun q h => Or.inr h
    have hl := lv_entry (av.map (cv ad)) (n := nL) (by rw [eL_len]; exact hlen)
    have K : W p l e (headSpec (Cond.codeWith y cc nL ret hh :: UG) rm).room s m (av.map (cv ad)).toArray below meth c s.heap [] 0 0 (MQ below (qg D cT ad post (va_A (cw cT ad M) s.heap.size)) (av.map (cv ad)).toArray s 1 6 (va_A (cw cT ad M) s.heap.size)) (entryFrame m (av.map (cv ad)).toArray nL) := by
      rw [lg_entry_eq]
      refine body ((p, l, e, (headSpec (Cond.codeWith y cc nL ret hh :: UG) rm).room), (s, m, (av.map (cv ad)).toArray, below), (meth, c, nL), (D, cT, ad), va_A (cw cT ad M) s.heap.size, _) rfl rfl
        ⟨B.exec, B.bytes, hml, hown, fun w h => hts w (List.mem_cons_of_mem _ h), hK, hA, B.notSynchronized, hN, rfl, B.returns, fun _ _ _ k => k⟩ ⟨hl0, hx, hz⟩ (vx_table (x := y) B (hts _ List.mem_cons_self)) s.heap [] _ hP hD va_S.rf (lv_mono hl fun q hq => ?_)
      obtain ⟨v, h1, h2⟩ := lA_mem.mp hq
      have := eL_args ad (nL - (eL av).length) av 0 q.1 v h1
      rw [Nat.zero_add] at this
      obtain ⟨q1, q2⟩ := q
      dsimp only at h2 this ⊢
      rw [h2]; exact this
    obtain ⟨t, a1, o, b1, b2, b3⟩ := K s₁ hh0 (Stand.of_body B)
    exact ⟨t, o, a1, b1, b2, b3⟩
