/-! CONTRACTS over the layer, and calls. -/
def eL : List Value → List (Option Value)
  | [] => []
  | v :: vs => if v.category = 2 then some v :: none :: eL vs else some v :: eL vs
theorem eL_len (ad : Nat → Nat) : ∀ av : List Value, (lg_sl (av.map (cv ad))).length = (eL av).length
  | [] => rfl
  | v :: vs => by
    have ih := eL_len ad vs
    simp only [lg_sl, List.map_cons, List.flatMap_cons, List.length_append] at ih ⊢
    simp only [eL, cv_cat]
    by_cases h : v.category = 2
    · rw [if_pos h, if_pos h]; simp [ih]; omega
    · rw [if_neg h, if_neg h]; simp [ih]; omega
theorem eL_args (ad : Nat → Nat) (n : Nat) : ∀ (av : List Value) (i k : Nat) (v : Value), (eL av ++ List.replicate n none)[k]? = some (some v) → (i + k, cv ad v) ∈ lv_args i (av.map (cv ad))
  | [], i, k, v, h => by
    simp only [eL, List.nil_append, List.getElem?_replicate] at h
    split at h <;> cases h
  | w :: vs, i, k, v, h => by
    simp only [List.map_cons, lv_args, cv_cat]
    simp only [eL] at h
    by_cases c : w.category = 2
    · rw [if_pos c] at h ⊢
      match k, h with
      | 0, h => simp at h; subst h; simp
      | 1, h => simp at h
      | k + 2, h =>
        have := eL_args ad n vs (i + 2) k v (by simpa using h)
        refine List.mem_cons_of_mem _ ?_
        rw [show i + (k + 2) = i + 2 + k by omega]; exact this
    · rw [if_neg c] at h ⊢
      match k, h with
      | 0, h => simp at h; subst h; simp
      | k + 1, h =>
        have := eL_args ad n vs (i + 1) k v (by simpa using h)
        refine List.mem_cons_of_mem _ ?_
        rw [show i + (k + 1) = i + 1 + k by omega]; exact this
/-- what a method starts from -/
def pg (D : va_G) (cT : Nat → ClassId) (ad : Nat → Nat) (sz : Nat) (M : List va_E) : State → Prop := fun U =>
  U.heap.size = sz ∧ va_P D classes (cw cT ad M) U.heap ∧ va_K D classes (tysL cT) U ∧ NW U ∧ va_D (fun _ => True) (cw cT ad M)
theorem pg_blind {D : va_G} {cT : Nat → ClassId} {ad : Nat → Nat} {sz : Nat} {M : List va_E} {av : List Value} : FrameBlind (va_Pc av (pg D cT ad sz M)) := by
  intro a U g mk q
  obtain ⟨e, q0, qP, qK, qN, qD⟩ := q
  exact ⟨e, q0, qP, va_K.moved (u := U) (U := U.calling g mk a) (Vm.Alike.refl U.vm) qK, NW.same (s := U) (U := U.calling g mk a) rfl qN, qD⟩
/-- A CONTRACT: from the arguments av and the cells M the method returns, and what it returns and the cells behind it are as 'post' says; nothing else changes -/
def Ct (l : Launch) (y : MethodName) (cc : ByteArray) (nL : Nat) (ret : Option FieldType) (rm : Room) (av : List Value) (M : List va_E) (post : Option Value → List va_E → Prop) : Prop :=
  ∀ (D : va_G) (cT : Nat → ClassId) (ad : Nat → Nat) (sz : Nat), Met l y (.code y cc nL ret :: UG) rm (va_Pc (av.map (cv ad)) (pg D cT ad sz M)) (qg D cT ad post (va_A (cw cT ad M) sz)) 0 0 (va_A (cw cT ad M) sz)
/-- a method of the tables: its code, its arguments, how many -/
def MI (y : MethodName) (cc : ByteArray) (nL : Nat) (ret : Option FieldType) (n : Nat) : Prop := Cond.code y cc nL ret ∈ UG ∧ (y.cls ≠ "java/lang/invoke/MethodHandle" ∧ y.cls ≠ "java/lang/invoke/VarHandle" ∧ (parseMethodDescriptor y.desc).map (fun d => d.parameters.length) = some n) ∧ plainName y.cls = true ∧ Cond.initialized y.cls ∈ UG
theorem Ct.of {l : Launch} {y : MethodName} {cc : ByteArray} {nL n : Nat} {ret : Option FieldType} {rm : Room} {av : List Value} {M : List va_E} {post : Option Value → List va_E → Prop} (mi : MI y cc nL ret n) (hlen : (eL av).length ≤ nL)
    (body : ∀ X : Cx, X.1.2.1 = l → nLof X = nL → OK X cc y.cls ret rm post 0 0 → AW X 0 0 0 (eL av ++ List.replicate (nL - (eL av).length) none) [] M) : Ct l y cc nL ret rm av M post := by
  intro D cT ad sz
  refine Met.ofW (cc := cc) (maxL := nL) (ret := ret) (ws' := UG) mi.2.2.1 rfl ?_
  intro p e s m args below meth c s₁ B hml hv
  obtain ⟨rfl, hsz, hP, hK, hN, hD0⟩ := hv
  have hts := atoms_spec (ws := .code y cc nL ret :: UG) B.pre
  have hown : s.vm.findClass y.cls = some m.cls := findClass_of_methodNamed B.named
  subst hsz
  have hD := hD0.self (sz := s.heap.size)
  have hA : ∀ q : Nat, s.heap.size ≤ q → va_A (cw cT ad M) s.heap.size q := fun q h => Or.inr h
  have hl := lv_entry (av.map (cv ad)) (n := nL) (by rw [eL_len]; exact hlen)
  rw [lg_entry_eq]
  refine body ((p, l, e, (headSpec (Cond.code y cc nL ret :: UG) rm).room), (s, m, (av.map (cv ad)).toArray, below), (meth, c, nL), (D, cT, ad), va_A (cw cT ad M) s.heap.size, _) rfl rfl
    ⟨B.exec, B.bytes, hml, hown, fun w h => hts w (List.mem_cons_of_mem _ h), hK, hA, B.notSynchronized, hN, rfl, B.returns, fun _ _ _ k => k⟩ s.heap [] _ hP hD va_S.rf (lv_mono hl fun q hq => ?_)
  obtain ⟨v, h1, h2⟩ := lA_mem.mp hq
  have := eL_args ad (nL - (eL av).length) av 0 q.1 v h1
  rw [Nat.zero_add] at this
  obtain ⟨q1, q2⟩ := q
  dsimp only at h2 this ⊢
  rw [h2]; exact this
theorem Ct.mono {l : Launch} {y : MethodName} {cc : ByteArray} {nL : Nat} {ret : Option FieldType} {rm : Room} {av : List Value} {M : List va_E} {post post2 : Option Value → List va_E → Prop} (h : Ct l y cc nL ret rm av M post) (hp : ∀ v M', post v M' → post2 v M') : Ct l y cc nL ret rm av M post2 := by
  intro D cT ad sz p e ha hc hk s m args below hf hap hP hT
  obtain ⟨k, o, h1, h2, h3, ⟨⟨⟨v, M', q1, q2, q3⟩, q4⟩, q5⟩⟩ := h D cT ad sz p e ha hc hk s m args below hf hap hP hT
  exact ⟨k, o, h1, h2, h3, ⟨⟨⟨v, M', q1, hp _ _ q2, q3⟩, q4⟩, q5⟩⟩
def rn (π : List Nat) (k : Nat) : Nat := π.getD k 0
def re (π : List Nat) (e : va_E) : va_E := ce (fun t => t) (rn π) e
theorem ce_ce (cT : Nat → ClassId) (ad : Nat → Nat) (π : List Nat) (e : va_E) : ce cT ad (re π e) = ce cT (fun k => ad (rn π k)) e := by
  obtain ⟨t, n, x⟩ | ⟨ci, fs⟩ := e
  · obtain f | f | f | f | f := x <;> first | rfl | (simp only [re, ce, cA]; congr; funext i; cases f i <;> rfl)
  · simp only [re, ce, List.map_map]
    congr 2
    apply List.map_congr_left
    intro v _
    cases v <;> rfl
theorem cv_cv (ad : Nat → Nat) (π : List Nat) (v : Value) : cv ad (cv (rn π) v) = cv (fun k => ad (rn π k)) v := by cases v <;> rfl
def pfind (k : Nat) : List Nat → List va_E → Option va_E
  | a :: π, e :: M => match Nat.beq k a with
    | true => some e
    | false => pfind k π M
  | [], _ => none
  | _ :: _, [] => none
def pbF (π : List Nat) (M' : List va_E) : Nat → List va_E → List va_E
  | _, [] => []
  | k, e :: M => (match pfind k π M' with | some e' => re π e' | none => e) :: pbF π M' (k + 1) M
/-- the cells M, with the callee's M' at the places π -/
def pb (π : List Nat) (M M' : List va_E) : List va_E := pbF π M' 0 M
theorem pbF_get (π : List Nat) (M' : List va_E) : ∀ (M : List va_E) (k i : Nat), (pbF π M' k M)[i]? = M[i]?.map (fun e => match pfind (k + i) π M' with | some e' => re π e' | none => e)
  | [], k, i => by simp [pbF]
  | e :: M, k, i => by
    cases i with
    | zero => simp [pbF]
    | succ i => simp only [pbF, List.getElem?_cons_succ]; rw [pbF_get π M' M (k + 1) i, show k + 1 + i = k + (i + 1) by omega]
theorem pfind_some : ∀ (π : List Nat) (M' : List va_E) (k : Nat) (e : va_E), pfind k π M' = some e → ∃ i : Nat, π[i]? = some k ∧ M'[i]? = some e
  | a :: π, x :: M, k, e, h => by
    simp only [pfind] at h
    cases hb : Nat.beq k a with
    | true => rw [hb] at h; exact ⟨0, by rw [Nat.eq_of_beq_eq_true hb]; rfl, by simpa using h⟩
    | false =>
      rw [hb] at h
      obtain ⟨i, h1, h2⟩ := pfind_some π M k e h
      exact ⟨i + 1, by simpa using h1, by simpa using h2⟩
  | [], M, k, e, h => by simp [pfind] at h
  | _ :: _, [], k, e, h => by simp [pfind] at h
theorem pfind_none : ∀ (π : List Nat) (M' : List va_E) (k : Nat), pfind k π M' = none → π.length ≤ M'.length → k ∉ π
  | a :: π, x :: M, k, h, hl => by
    simp only [pfind] at h
    cases hb : Nat.beq k a with
    | true => rw [hb] at h; cases h
    | false =>
      rw [hb] at h
      have := pfind_none π M k h (by simpa using hl)
      intro z
      rcases List.mem_cons.mp z with e | e
      · rw [e] at hb; simp at hb
      · exact this e
  | [], M, k, h, hl => by simp
  | _ :: _, [], k, h, hl => by simp at hl
theorem rn_get {π : List Nat} {i k : Nat} (h : π[i]? = some k) : rn π i = k := by simp [rn, List.getD, h]
/-- the callee's cells are the caller's, by the places π -/
def fitP (π : List Nat) (M M2 : List va_E) : Prop := π.map (fun k => M[k]?) = M2.map (fun e => some (re π e))
theorem fitP_len {π : List Nat} {M M2 : List va_E} (h : fitP π M M2) : π.length = M2.length := by have := congrArg List.length h; simpa using this
theorem fitP_get {π : List Nat} {M M2 : List va_E} (h : fitP π M M2) {i : Nat} {e : va_E} (he : M2[i]? = some e) : ∃ k, π[i]? = some k ∧ M[k]? = some (re π e) := by
  have h1 : (π.map (fun k => M[k]?))[i]? = some (some (re π e)) := by rw [show π.map (fun k => M[k]?) = M2.map (fun e => some (re π e)) from h, List.getElem?_map, he]; rfl
  rw [List.getElem?_map] at h1
  cases hk : π[i]? with
  | none => rw [hk] at h1; cases h1
  | some k => rw [hk] at h1; exact ⟨k, rfl, Option.some.inj h1⟩
theorem fitP_cw {π : List Nat} {M M2 : List va_E} (h : fitP π M M2) (cT : Nat → ClassId) (ad : Nat → Nat) {i : Nat} {q : Nat × va_E} (hq : (cw cT (fun k => ad (rn π k)) M2)[i]? = some q) : ∃ k, π[i]? = some k ∧ (cw cT ad M)[k]? = some q := by
  obtain ⟨e, h1, rfl⟩ := cw_inv hq
  obtain ⟨k, h2, h3⟩ := fitP_get h h1
  refine ⟨k, h2, ?_⟩
  rw [cw_get h3, ce_ce, rn_get h2]
theorem nd_get {π : List Nat} (h : π.Nodup) {i j k : Nat} (h1 : π[i]? = some k) (h2 : π[j]? = some k) : i = j := by
  have hi := (List.getElem?_eq_some_iff.mp h1)
  have hj := (List.getElem?_eq_some_iff.mp h2)
  exact (List.getElem_inj h).mp (hi.2.trans hj.2.symm)
theorem fitP_P {π : List Nat} {M M2 : List va_E} (h : fitP π M M2) {D : va_G} {cT : Nat → ClassId} {ad : Nat → Nat} {H : Heap} (hP : va_P D classes (cw cT ad M) H) : va_P D classes (cw cT (fun k => ad (rn π k)) M2) H := by
  intro i q hq
  obtain ⟨k, -, h2⟩ := fitP_cw h cT ad hq
  exact hP k q h2
theorem fitP_D {π : List Nat} {M M2 : List va_E} (h : fitP π M M2) (hn : π.Nodup) {A : Nat → Prop} {cT : Nat → ClassId} {ad : Nat → Nat} (hD : va_D A (cw cT ad M)) : va_D A (cw cT (fun k => ad (rn π k)) M2) := by
  refine ⟨fun i j a b ha hb hab => ?_, fun i q hq => ?_⟩
  · obtain ⟨k1, h1, h2⟩ := fitP_cw h cT ad ha
    obtain ⟨k2, h3, h4⟩ := fitP_cw h cT ad hb
    have := hD.1 k1 k2 a b h2 h4 hab
    subst this
    exact nd_get hn h1 h3
  · obtain ⟨k, -, h2⟩ := fitP_cw h cT ad hq
    exact hD.2 k q h2
theorem fitP_A {π : List Nat} {M M2 : List va_E} (h : fitP π M M2) {A : Nat → Prop} {cT : Nat → ClassId} {ad : Nat → Nat} {sz : Nat} (hD : va_D A (cw cT ad M)) (hA : ∀ q, sz ≤ q → A q) : ∀ q, va_A (cw cT (fun k => ad (rn π k)) M2) sz q → A q := by
  intro q hq
  rcases hq with ⟨i, e, hq⟩ | hq
  · obtain ⟨k, -, h2⟩ := fitP_cw h cT ad hq
    exact hD.2 k _ h2
  · exact hA q hq
/-- behind the call -/
theorem pb_P {π : List Nat} {M M2 M' : List va_E} (h : fitP π M M2) (hn : π.Nodup) (hl : M'.length = M2.length) {D : va_G} {A : Nat → Prop} {cT : Nat → ClassId} {ad : Nat → Nat} {H H1 : Heap} (hP : va_P D classes (cw cT ad M) H) (hD : va_D A (cw cT ad M))
    (hk : ∀ q : Nat, q < H.size → ¬ va_A (cw cT (fun k => ad (rn π k)) M2) H.size q → H1[q]? = H[q]?) (hP1 : va_P D classes (cw cT (fun k => ad (rn π k)) M') H1) : va_P D classes (cw cT ad (pb π M M')) H1 := by
  intro k q hq
  obtain ⟨e, he, rfl⟩ := cw_inv hq
  unfold pb at he
  rw [pbF_get, Nat.zero_add] at he
  cases hM : M[k]? with
  | none => rw [hM] at he; cases he
  | some e0 =>
    rw [hM] at he
    simp only [Option.map_some, Option.some.injEq] at he
    cases hf : pfind k π M' with
    | some e' =>
      rw [hf] at he
      simp only at he
      subst he
      obtain ⟨i, h1, h2⟩ := pfind_some π M' k e' hf
      have := hP1 i _ (cw_get h2)
      rw [rn_get h1] at this
      rw [ce_ce]; exact this
    | none =>
      rw [hf] at he
      simp only at he
      subst he
      have hkn := pfind_none π M' k hf (by rw [hl, fitP_len h]; exact Nat.le_refl _)
      have hc := cw_get (cT := cT) (ad := ad) hM
      have h0 := hP k _ hc
      refine h0.kept ?_
      refine hk _ h0.lt ?_
      rintro (⟨i, e2, h2⟩ | h2)
      · obtain ⟨k2, h3, h4⟩ := fitP_cw h cT ad h2
        have := hD.1 k k2 _ _ hc h4 rfl
        subst this
        exact hkn (List.mem_of_getElem? h3)
      · have h5 := h0.lt
        dsimp only at h2 h5
        omega
theorem pb_D {π : List Nat} {M M' : List va_E} {A : Nat → Prop} {cT : Nat → ClassId} {ad : Nat → Nat} (hD : va_D A (cw cT ad M)) : va_D A (cw cT ad (pb π M M')) := by
  have key : ∀ (k : Nat) (q : Nat × va_E), (cw cT ad (pb π M M'))[k]? = some q → ∃ e, (cw cT ad M)[k]? = some (q.1, e) := by
    intro k q hq
    obtain ⟨e, he, rfl⟩ := cw_inv hq
    unfold pb at he
    rw [pbF_get] at he
    cases hM : M[k]? with
    | none => rw [hM] at he; cases he
    | some e0 => exact ⟨_, cw_get hM⟩
  refine ⟨fun i j a b ha hb hab => ?_, fun i q hq => ?_⟩
  · obtain ⟨e1, h1⟩ := key i a ha
    obtain ⟨e2, h2⟩ := key j b hb
    exact hD.1 i j _ _ h1 h2 hab
  · obtain ⟨e1, h1⟩ := key i q hq
    exact hD.2 i (q.1, e1) h1
/-- nothing changed -/
theorem pb_self {π : List Nat} {M M2 : List va_E} (h : fitP π M M2) (hn : π.Nodup) : pb π M M2 = M := by
  apply List.ext_getElem?
  intro k
  unfold pb
  rw [pbF_get, Nat.zero_add]
  cases hM : M[k]? with
  | none => rfl
  | some e0 =>
    simp only [Option.map_some, Option.some.injEq]
    cases hf : pfind k π M2 with
    | none => rfl
    | some e' =>
      obtain ⟨i, h1, h2⟩ := pfind_some π M2 k e' hf
      obtain ⟨k2, h3, h4⟩ := fitP_get h h2
      rw [h1] at h3
      cases h3
      rw [hM] at h4
      exact (Option.some.inj h4).symm
/-- links of calls: an instance method by its class; a static method, of a nest mate too -/
def MV (own : String) (idx : Nat) (y : MethodName) : Prop := Cond.methodLink own idx y ∈ UG ∧ Cond.instanceMethod y ∈ UG ∧ Cond.selects y.cls y y ∈ UG
def MS (own : String) (idx : Nat) (y : MethodName) : Prop := (Cond.methodLink own idx y ∈ UG ∨ ∃ host, Cond.methodLinkNest own idx y host ∈ nwL) ∧ Cond.static y ∈ UG
section RC
variable {X : Cx} {cc : ByteArray} {own : String} {ret : Option FieldType} {rm : Room} {post : Option Value → List va_E → Prop} {mc ms kc ks pc : Nat} {L : List (Option Value)} {st : List Value} {M : List va_E}
variable {y : MethodName} {cc2 : ByteArray} {nL2 n2 idx : Nat} {ret2 : Option FieldType} {rm2 : Room} {M2 : List va_E} {post2 : Option Value → List va_E → Prop} {rest : List Value}
theorem a_after {p : Program} {l : Launch} {e : Env} {R : Room} {s : State} {m : MethodId} {args : Array Value} {below : List Frame} {meth : Method} {c : Code} {nL : Nat} {D : va_G} {cT : Nat → ClassId} {ad : Nat → Nat} {A : Nat → Prop} {Q : State → Prop} {H : Heap} {locs : List Loc} {ls : Array Slot} {st0 : List Value} {av : Array Value} {π : List Nat}
    (hA : ∀ q, s.heap.size ≤ q → A q) (hfit : fitP π M M2) (hn : π.Nodup) (hlen : ∀ v M', post2 v M' → M'.length = M2.length) (hP : va_P D classes (cw cT ad M) H) (hD : va_D A (cw cT ad M)) (hS : va_S A s.heap H locs) (hl : lv_has ls nL (lA ad L))
    (hr : va_Run p l e R s m args below meth c H locs kc ks 0 0 (F0 m pc ls st0) (rest.map (cv ad)) (qg D cT (fun k => ad (rn π k)) post2 (va_A (cw cT (fun k => ad (rn π k)) M2) H.size) av) (va_A (cw cT (fun k => ad (rn π k)) M2) H.size))
    (kk : ∀ v M', post2 v M' → AW ((p, l, e, R), (s, m, args, below), (meth, c, nL), (D, cT, ad), A, Q) kc ks (pc + 3) L ((v.map (cv (rn π))).toList ++ rest) (pb π M M')) : W p l e R s m args below meth c H locs kc ks Q (F0 m pc ls st0) := by
  intro T hT Y
  obtain ⟨v, st₀, t, T', Lc, h0, Y', hL, e1, e2, ⟨⟨v', M', hv, hpost, hP', hK', hD'⟩, hz, hk⟩, stp⟩ := hr T hT Y
  cases hv
  rw [h0] at hz hk
  have hAA := fitP_A hfit (sz := H.size) hD (fun q h => hA q (Nat.le_trans hS.1 h))
  have hk1 : ∀ q : Nat, q < H.size → ¬ va_A (cw cT (fun k => ad (rn π k)) M2) H.size q → T'.heap[q]? = H[q]? := fun q a b => by rw [e1]; exact hk q a b
  have hS1 : va_S A s.heap T'.heap (locs ++ Lc) := ⟨Nat.le_trans hS.1 (by rw [e1]; exact hz), fun q h1 h2 => by rw [hk1 q (Nat.lt_of_lt_of_le h1 hS.1) (fun z => h2 (hAA q z))]; exact hS.2.1 q h1 h2, fun q hq => by
      rcases List.mem_append.mp hq with h | h
      · exact hS.2.2 q h
      · exact hAA _ (hL q h)⟩
  obtain ⟨t2, a1, b1⟩ := kk v' M' hpost T'.heap (locs ++ Lc) ls (pb_P hfit hn (hlen _ _ hpost) hP hD hk1 (by rw [e1]; exact hP')) (pb_D hD) hS1 hl T' rfl Y'
  refine ⟨t2, stp t2 ?_, b1⟩
  have e3 : ((v'.map (cv (rn π))).toList ++ rest).map (cv ad) = (v'.map (cv (fun k => ad (rn π k)))).toList ++ rest.map (cv ad) := by
    rw [List.map_append]
    congr 1
    cases v' with
    | none => rfl
    | some w => simp [cv_cv]
  rw [e3] at a1
  exact a1
theorem a_callV (ok : OK X cc own ret rm post mc ms) {av2 : List Value} {ci q : Nat} {fs : List Value} (π : List Nat) (hd : decode cc pc = .ok (.invokevirtual idx, 3)) (mv : MV own idx y) (mi : MI y cc2 nL2 ret2 n2) (ct : Ct X.1.2.1 y cc2 nL2 ret2 rm2 (.ref q :: av2) M2 post2)
    (hroom : rm2.frames + 1 ≤ rm.frames ∧ 8 + (nL2 + 11) + rm2.locals ≤ rm.locals ∧ rm2.cells = 0 ∧ rm2.slots = 0 ∧ kc ≤ rm.cells ∧ ks ≤ rm.slots) (hn2 : av2.length = n2) (hst : st = (av2.map (cv (rn π))).reverse ++ .ref (rn π q) :: rest) (hrest : (rest.map fun v => v.category).sum ≤ 8)
    (hfit : fitP π M M2) (hn : π.Nodup) (hcell : M2[q]? = some (.inr (ci, fs))) (hcls : (classes[ci]?).map (fun r => r.1) = some y.cls) (hlen : ∀ v M', post2 v M' → M'.length = M2.length)
    (kk : ∀ v M', post2 v M' → AW X kc ks (pc + 3) L ((v.map (cv (rn π))).toList ++ rest) (pb π M M')) : AW X kc ks pc L st M := by
  obtain ⟨⟨p, l, e, R⟩, ⟨s, m, args, below⟩, ⟨meth, c, nL⟩, ⟨D, cT, ad⟩, A, Q⟩ := X
  obtain ⟨hx, hb, hml, ho, hts, hK, hA, -, hN, rfl, -⟩ := ok
  intro H locs ls hP hD hS hl
  subst hst
  obtain ⟨r, hr1, hr2⟩ : ∃ r, classes[ci]? = some r ∧ r.1 = y.cls := by
    cases h : classes[ci]? with
    | none => rw [h] at hcls; cases hcls
    | some r => rw [h] at hcls; exact ⟨r, rfl, Option.some.inj hcls⟩
  have hcw := cw_get (cT := cT) (ad := fun k => ad (rn π k)) hcell
  have hPc := fitP_P hfit hP
  have hDc := fitP_D hfit hn hD
  refine a_after hA hfit hn hlen hP hD hS hl (av := (Value.ref (ad (rn π q)) :: av2.map (cv (fun k => ad (rn π k)))).toArray) (va_runV (C := y.cls) (Ts := UG) (b := ad (rn π q)) (As := av2.map (cv (fun k => ad (rn π k)))) (n := n2) (nL := nL) ⟨hx, hb, hml, ho, hts⟩ (ct D cT (fun k => ad (rn π k)) H.size)
    ⟨callB_of n2 hts (ug_goodIn mi.1) rfl hroom.2.2.1 hroom.2.2.2.1 (hts _ mi.2.2.2) (hts _ mv.1) mi.2.1 ⟨hroom.1, hroom.2.1⟩, hts _ mv.2.1, hts _ mv.2.2⟩
    ⟨pg_blind, ?_, fun U hU hW => ⟨rfl, by rw [hU], by rw [hU]; exact hPc, va_K.moved hW.alike hK, hN.moved hW, hDc.weaken (fun _ _ _ _ => trivial)⟩⟩ rfl (by rw [List.length_map]; exact hn2) hl.1 ?_ (lv_room ?_) hd ⟨hroom.2.2.2.2.1, hroom.2.2.2.2.2⟩) kk
  · obtain ⟨cell, g1, g2, g3⟩ := va_recv hK hPc hr1 (hcw)
    exact ⟨cell, g1, g2, by rw [← hr2]; exact g3⟩
  · show List.map (cv ad) _ = _
    simp only [List.map_append, List.map_reverse, List.map_map, List.map_cons]
    congr 2
    apply List.map_congr_left
    intro v _
    exact cv_cv ad π v
  · rw [List.map_map]
    rw [show ((fun v : Value => v.category) ∘ cv ad) = fun v : Value => v.category from by funext v; exact cv_cat ad v]
    exact hrest
theorem a_callS (ok : OK X cc own ret rm post mc ms) {av2 : List Value} (π : List Nat) (hd : decode cc pc = .ok (.invokestatic idx, 3)) (mv : MS own idx y) (mi : MI y cc2 nL2 ret2 n2) (ct : Ct X.1.2.1 y cc2 nL2 ret2 rm2 av2 M2 post2)
    (hroom : rm2.frames + 1 ≤ rm.frames ∧ 8 + (nL2 + 11) + rm2.locals ≤ rm.locals ∧ rm2.cells = 0 ∧ rm2.slots = 0 ∧ kc ≤ rm.cells ∧ ks ≤ rm.slots) (hn2 : av2.length = n2) (hst : st = (av2.map (cv (rn π))).reverse ++ rest) (hrest : (rest.map fun v => v.category).sum ≤ 8)
    (hfit : fitP π M M2) (hn : π.Nodup) (hlen : ∀ v M', post2 v M' → M'.length = M2.length)
    (kk : ∀ v M', post2 v M' → AW X kc ks (pc + 3) L ((v.map (cv (rn π))).toList ++ rest) (pb π M M')) : AW X kc ks pc L st M := by
  obtain ⟨⟨p, l, e, R⟩, ⟨s, m, args, below⟩, ⟨meth, c, nL⟩, ⟨D, cT, ad⟩, A, Q⟩ := X
  obtain ⟨hx, hb, hml, ho, hts, hK, hA, -, hN, rfl, -⟩ := ok
  intro H locs ls hP hD hS hl
  subst hst
  have hPc := fitP_P hfit hP
  have hDc := fitP_D hfit hn hD
  have hst2 : List.map (cv ad) ((av2.map (cv (rn π))).reverse ++ rest) = (av2.map (cv (fun k => ad (rn π k)))).reverse ++ rest.map (cv ad) := by
    simp only [List.map_append, List.map_reverse, List.map_map]
    congr 2
    apply List.map_congr_left
    intro v _
    exact cv_cv ad π v
  have hsum : ((rest.map (cv ad)).map fun v => v.category).sum ≤ 8 := by
    rw [List.map_map]
    rw [show ((fun v : Value => v.category) ∘ cv ad) = fun v : Value => v.category from by funext v; exact cv_cat ad v]
    exact hrest
  refine a_after hA hfit hn hlen hP hD hS hl (av := (av2.map (cv (fun k => ad (rn π k)))).toArray) ?_ kk
  rcases mv.1 with hw | ⟨host, hw⟩
  · exact va_runS (Ts := UG) (As := av2.map (cv (fun k => ad (rn π k)))) (n := n2) (nL := nL) ⟨hx, hb, hml, ho, hts⟩ (ct D cT (fun k => ad (rn π k)) H.size)
      ⟨callB_of n2 hts (ug_goodIn mi.1) rfl hroom.2.2.1 hroom.2.2.2.1 (hts _ mi.2.2.2) (hts _ hw) mi.2.1 ⟨hroom.1, hroom.2.1⟩, hts _ mv.2⟩
      ⟨pg_blind, fun U hU hW => ⟨rfl, by rw [hU], by rw [hU]; exact hPc, va_K.moved hW.alike hK, hN.moved hW, hDc.weaken (fun _ _ _ _ => trivial)⟩⟩ rfl (by rw [List.length_map]; exact hn2) hl.1 hst2 (lv_room hsum) hd ⟨hroom.2.2.2.2.1, hroom.2.2.2.2.2⟩
  · exact va_runSN (Ts := UG) (host := host) (As := av2.map (cv (fun k => ad (rn π k)))) (n := n2) (nL := nL) ⟨hx, hb, hml, ho, hts⟩ (ct D cT (fun k => ad (rn π k)) H.size)
      ⟨va_cnB n2 hts (ug_goodIn mi.1) rfl hroom.2.2.1 hroom.2.2.2.1 (hN _ hw) (hts _ mi.2.2.2) mi.2.1 ⟨hroom.1, hroom.2.1⟩, hts _ mv.2, trivial⟩
      ⟨pg_blind, fun U hU hW => ⟨rfl, by rw [hU], by rw [hU]; exact hPc, va_K.moved hW.alike hK, hN.moved hW, hDc.weaken (fun _ _ _ _ => trivial)⟩⟩ rfl (by rw [List.length_map]; exact hn2) hl.1 hst2 (lv_room hsum) hd ⟨hroom.2.2.2.2.1, hroom.2.2.2.2.2⟩
/-- told posts: an answer and the cells behind -/
abbrev Cd (l : Launch) (y : MethodName) (cc : ByteArray) (nL : Nat) (ret : Option FieldType) (rm : Room) (av : List Value) (M : List va_E) (r : Option Value) (M' : List va_E) : Prop := Ct l y cc nL ret rm av M (fun v m => v = r ∧ m = M')
theorem a_callVi (ok : OK X cc own ret rm post mc ms) {av2 : List Value} {ci q : Nat} {fs : List Value} {x : Int32} {M2' : List va_E} (π : List Nat) (hd : decode cc pc = .ok (.invokevirtual idx, 3)) (mv : MV own idx y) (mi : MI y cc2 nL2 ret2 n2) (ct : Cd X.1.2.1 y cc2 nL2 ret2 rm2 (.ref q :: av2) M2 (some (.int x)) M2')
    (hroom : rm2.frames + 1 ≤ rm.frames ∧ 8 + (nL2 + 11) + rm2.locals ≤ rm.locals ∧ rm2.cells = 0 ∧ rm2.slots = 0 ∧ kc ≤ rm.cells ∧ ks ≤ rm.slots) (hn2 : av2.length = n2) (hst : st = (av2.map (cv (rn π))).reverse ++ .ref (rn π q) :: rest) (hrest : (rest.map fun v => v.category).sum ≤ 8)
    (hfit : fitP π M M2) (hn : π.Nodup) (hcell : M2[q]? = some (.inr (ci, fs))) (hcls : (classes[ci]?).map (fun r => r.1) = some y.cls) (hlen : M2'.length = M2.length)
    (kk : AW X kc ks (pc + 3) L (.int x :: rest) (pb π M M2')) : AW X kc ks pc L st M :=
  a_callV ok π hd mv mi ct hroom hn2 hst hrest hfit hn hcell hcls (fun _ _ h => by rw [h.2]; exact hlen) (fun _ _ h => by obtain ⟨rfl, rfl⟩ := h; exact kk)
theorem a_callVr (ok : OK X cc own ret rm post mc ms) {av2 : List Value} {ci q x : Nat} {fs : List Value} {M2' : List va_E} (π : List Nat) (hd : decode cc pc = .ok (.invokevirtual idx, 3)) (mv : MV own idx y) (mi : MI y cc2 nL2 ret2 n2) (ct : Cd X.1.2.1 y cc2 nL2 ret2 rm2 (.ref q :: av2) M2 (some (.ref x)) M2')
    (hroom : rm2.frames + 1 ≤ rm.frames ∧ 8 + (nL2 + 11) + rm2.locals ≤ rm.locals ∧ rm2.cells = 0 ∧ rm2.slots = 0 ∧ kc ≤ rm.cells ∧ ks ≤ rm.slots) (hn2 : av2.length = n2) (hst : st = (av2.map (cv (rn π))).reverse ++ .ref (rn π q) :: rest) (hrest : (rest.map fun v => v.category).sum ≤ 8)
    (hfit : fitP π M M2) (hn : π.Nodup) (hcell : M2[q]? = some (.inr (ci, fs))) (hcls : (classes[ci]?).map (fun r => r.1) = some y.cls) (hlen : M2'.length = M2.length)
    (kk : AW X kc ks (pc + 3) L (.ref (rn π x) :: rest) (pb π M M2')) : AW X kc ks pc L st M :=
  a_callV ok π hd mv mi ct hroom hn2 hst hrest hfit hn hcell hcls (fun _ _ h => by rw [h.2]; exact hlen) (fun _ _ h => by obtain ⟨rfl, rfl⟩ := h; exact kk)
theorem a_callVv (ok : OK X cc own ret rm post mc ms) {av2 : List Value} {ci q : Nat} {fs : List Value} {M2' : List va_E} (π : List Nat) (hd : decode cc pc = .ok (.invokevirtual idx, 3)) (mv : MV own idx y) (mi : MI y cc2 nL2 ret2 n2) (ct : Cd X.1.2.1 y cc2 nL2 ret2 rm2 (.ref q :: av2) M2 none M2')
    (hroom : rm2.frames + 1 ≤ rm.frames ∧ 8 + (nL2 + 11) + rm2.locals ≤ rm.locals ∧ rm2.cells = 0 ∧ rm2.slots = 0 ∧ kc ≤ rm.cells ∧ ks ≤ rm.slots) (hn2 : av2.length = n2) (hst : st = (av2.map (cv (rn π))).reverse ++ .ref (rn π q) :: rest) (hrest : (rest.map fun v => v.category).sum ≤ 8)
    (hfit : fitP π M M2) (hn : π.Nodup) (hcell : M2[q]? = some (.inr (ci, fs))) (hcls : (classes[ci]?).map (fun r => r.1) = some y.cls) (hlen : M2'.length = M2.length)
    (kk : AW X kc ks (pc + 3) L rest (pb π M M2')) : AW X kc ks pc L st M :=
  a_callV ok π hd mv mi ct hroom hn2 hst hrest hfit hn hcell hcls (fun _ _ h => by rw [h.2]; exact hlen) (fun _ _ h => by obtain ⟨rfl, rfl⟩ := h; exact kk)
theorem a_callVp (ok : OK X cc own ret rm post mc ms) {av2 : List Value} {ci q : Nat} {fs : List Value} {x : Int32} (π : List Nat) (hd : decode cc pc = .ok (.invokevirtual idx, 3)) (mv : MV own idx y) (mi : MI y cc2 nL2 ret2 n2) (ct : Cd X.1.2.1 y cc2 nL2 ret2 rm2 (.ref q :: av2) M2 (some (.int x)) M2)
    (hroom : rm2.frames + 1 ≤ rm.frames ∧ 8 + (nL2 + 11) + rm2.locals ≤ rm.locals ∧ rm2.cells = 0 ∧ rm2.slots = 0 ∧ kc ≤ rm.cells ∧ ks ≤ rm.slots) (hn2 : av2.length = n2) (hst : st = (av2.map (cv (rn π))).reverse ++ .ref (rn π q) :: rest) (hrest : (rest.map fun v => v.category).sum ≤ 8)
    (hfit : fitP π M M2) (hn : π.Nodup) (hcell : M2[q]? = some (.inr (ci, fs))) (hcls : (classes[ci]?).map (fun r => r.1) = some y.cls)
    (kk : AW X kc ks (pc + 3) L (.int x :: rest) M) : AW X kc ks pc L st M :=
  a_callVi ok π hd mv mi ct hroom hn2 hst hrest hfit hn hcell hcls rfl (by rw [pb_self hfit hn]; exact kk)
theorem a_callSi (ok : OK X cc own ret rm post mc ms) {av2 : List Value} {x : Int32} {M2' : List va_E} (π : List Nat) (hd : decode cc pc = .ok (.invokestatic idx, 3)) (mv : MS own idx y) (mi : MI y cc2 nL2 ret2 n2) (ct : Cd X.1.2.1 y cc2 nL2 ret2 rm2 av2 M2 (some (.int x)) M2')
    (hroom : rm2.frames + 1 ≤ rm.frames ∧ 8 + (nL2 + 11) + rm2.locals ≤ rm.locals ∧ rm2.cells = 0 ∧ rm2.slots = 0 ∧ kc ≤ rm.cells ∧ ks ≤ rm.slots) (hn2 : av2.length = n2) (hst : st = (av2.map (cv (rn π))).reverse ++ rest) (hrest : (rest.map fun v => v.category).sum ≤ 8)
    (hfit : fitP π M M2) (hn : π.Nodup) (hlen : M2'.length = M2.length) (kk : AW X kc ks (pc + 3) L (.int x :: rest) (pb π M M2')) : AW X kc ks pc L st M :=
  a_callS ok π hd mv mi ct hroom hn2 hst hrest hfit hn (fun _ _ h => by rw [h.2]; exact hlen) (fun _ _ h => by obtain ⟨rfl, rfl⟩ := h; exact kk)
theorem a_callSv (ok : OK X cc own ret rm post mc ms) {av2 : List Value} {M2' : List va_E} (π : List Nat) (hd : decode cc pc = .ok (.invokestatic idx, 3)) (mv : MS own idx y) (mi : MI y cc2 nL2 ret2 n2) (ct : Cd X.1.2.1 y cc2 nL2 ret2 rm2 av2 M2 none M2')
    (hroom : rm2.frames + 1 ≤ rm.frames ∧ 8 + (nL2 + 11) + rm2.locals ≤ rm.locals ∧ rm2.cells = 0 ∧ rm2.slots = 0 ∧ kc ≤ rm.cells ∧ ks ≤ rm.slots) (hn2 : av2.length = n2) (hst : st = (av2.map (cv (rn π))).reverse ++ rest) (hrest : (rest.map fun v => v.category).sum ≤ 8)
    (hfit : fitP π M M2) (hn : π.Nodup) (hlen : M2'.length = M2.length) (kk : AW X kc ks (pc + 3) L rest (pb π M M2')) : AW X kc ks pc L st M :=
  a_callS ok π hd mv mi ct hroom hn2 hst hrest hfit hn (fun _ _ h => by rw [h.2]; exact hlen) (fun _ _ h => by obtain ⟨rfl, rfl⟩ := h; exact kk)
theorem a_callSp (ok : OK X cc own ret rm post mc ms) {av2 : List Value} {x : Int32} (π : List Nat) (hd : decode cc pc = .ok (.invokestatic idx, 3)) (mv : MS own idx y) (mi : MI y cc2 nL2 ret2 n2) (ct : Cd X.1.2.1 y cc2 nL2 ret2 rm2 av2 M2 (some (.int x)) M2)
    (hroom : rm2.frames + 1 ≤ rm.frames ∧ 8 + (nL2 + 11) + rm2.locals ≤ rm.locals ∧ rm2.cells = 0 ∧ rm2.slots = 0 ∧ kc ≤ rm.cells ∧ ks ≤ rm.slots) (hn2 : av2.length = n2) (hst : st = (av2.map (cv (rn π))).reverse ++ rest) (hrest : (rest.map fun v => v.category).sum ≤ 8)
    (hfit : fitP π M M2) (hn : π.Nodup) (kk : AW X kc ks (pc + 3) L (.int x :: rest) M) : AW X kc ks pc L st M :=
  a_callSi ok π hd mv mi ct hroom hn2 hst hrest hfit hn rfl (by rw [pb_self hfit hn]; exact kk)
end RC
