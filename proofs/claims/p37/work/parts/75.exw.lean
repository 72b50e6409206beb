/-! EXCEPTIONS in the layer: what a throw needs of the machine; contracts of methods that throw. -/
abbrev nIA : String := "java/lang/IllegalArgumentException"
abbrev nIS : String := "java/lang/IllegalStateException"
abbrev nIO : String := "java/lang/IndexOutOfBoundsException"
abbrev nmL : List String := ["java/lang/RuntimeException", "java/lang/Exception"]
def isXn (w : Cond) : Bool := match w with | .castable .. => true | .declares .. => true | _ => false
def xnL : List Cond := tables_1.filter isXn
def XN (U : State) : Prop := ∀ w ∈ xnL, va_Nw w U
theorem XN.moved {s U : State} (hW : s.WarmedH U.vm) (h : XN s) : XN U := by
  intro w hw
  have h1 := h w hw
  have h2 := (List.mem_filter.mp hw).2
  cases w <;> first | exact va_Nw.warmC hW h1 | exact va_Nw.warmD hW h1 | cases h2
theorem XN.same {s U : State} (hv : s.vm = U.vm) (h : XN s) : XN U := by
  intro w hw
  have h1 := h w hw
  have h2 := (List.mem_filter.mp hw).2
  refine va_Nw.same ?_ hv h1
  cases w <;> first | rfl | cases h2
/-- the texts of the exceptions -/
def txtL : List (Nat × String) := [(86, "the text is full"), (102, "the text is not a plate"), (311, "the box ends before it begins"), (321, "the threshold cannot be put in or taken out"), (341, "no state is remembered"), (376, "the script has too many digits or is negative"), (393, "nothing has been saved in the slot"), (399, "an argument is out of its range"), (403, "there is no such thing")]
def XSt (U : State) : Prop := ∀ q ∈ txtL, ∃ sa : Nat, vk_R RX6 q.1 q.2 sa U
theorem XSt.moved {s U : State} (hW : s.WarmedH U.vm) (h : XSt s) : XSt U := fun q hq => by obtain ⟨sa, h1⟩ := h q hq; exact ⟨sa, vk_R.warm hW h1⟩
theorem XSt.same {s U : State} (hv : U.vm = s.vm) (h : XSt s) : XSt U := fun q hq => by obtain ⟨sa, h1⟩ := h q hq; exact ⟨sa, vk_R.same hv h1⟩
def ncL : List (String × String) := [(nIA, nIS), (nIA, nIO), (nIS, nIA), (nIS, nIO), (nIO, nIA), (nIO, nIS)]
def XCs (U : State) : Prop := ∀ q ∈ ncL, va_Nc q.1 q.2 U
theorem XCs.moved {s U : State} (hv : s.vm.Alike U.vm) (h : XCs s) : XCs U := fun q hq => va_Nc.moved hv (h q hq)
def XZ (A : Nat → Prop) (U : State) (H : Heap) : Prop := vx_Zq Bundle.tN "UNASSIGNED_STACK" Bundle.steD A U H ∧ vx_Zq Bundle.tN "SUPPRESSED_SENTINEL" Bundle.listD A U H
theorem XZ.moved {A : Nat → Prop} {u U : State} {H : Heap} (hv : u.vm.Alike U.vm) (h : XZ A u H) : XZ A U H := ⟨vx_Zq.moved hv h.1, vx_Zq.moved hv h.2⟩
theorem XZ.kept {A : Nat → Prop} {U : State} {H H1 : Heap} (h : XZ A U H) (hq : ∀ a : Nat, a < H.size → ¬ A a → H1[a]? = H[a]?) : XZ A U H1 := ⟨vx_Zq.kept h.1 hq, vx_Zq.kept h.2 hq⟩
theorem XZ.narrow {A B : Nat → Prop} {U : State} {H : Heap} (h : XZ A U H) (hAB : ∀ q, B q → A q) : XZ B U H := ⟨vx_Zq.narrow h.1 hAB, vx_Zq.narrow h.2 hAB⟩
/-- what a method that may throw starts from -/
def pgX (D : va_G) (cT : Nat → ClassId) (ad : Nat → Nat) (sz : Nat) (M : List va_E) : State → Prop := fun U => pg D cT ad sz M U ∧ (XN U ∧ XSt U ∧ XCs U) ∧ XZ (va_A (cw cT ad M) sz) U U.heap
theorem pgX_blind {D : va_G} {cT : Nat → ClassId} {ad : Nat → Nat} {sz : Nat} {M : List va_E} {av : List Value} : FrameBlind (va_Pc av (pgX D cT ad sz M)) := by
  intro a U g mk q
  obtain ⟨e, ⟨q0, qP, qK, qN, qD⟩, ⟨x1, x2, x3⟩, z⟩ := q
  exact ⟨e, ⟨q0, qP, va_K.moved (u := U) (U := U.calling g mk a) (Vm.Alike.refl U.vm) qK, NW.same (s := U) (U := U.calling g mk a) rfl qN, qD⟩, ⟨XN.same (s := U) (U := U.calling g mk a) rfl x1, XSt.same (s := U) (U := U.calling g mk a) rfl x2, XCs.moved (s := U) (U := U.calling g mk a) (Vm.Alike.refl U.vm) x3⟩, XZ.moved (u := U) (U := U.calling g mk a) (Vm.Alike.refl U.vm) z⟩
/-- where a method has thrown -/
def xq (E : String) (D : va_G) (cT : Nat → ClassId) (ad : Nat → Nat) (postX : List va_E → Prop) (A : Nat → Prop) : String → State → State → Prop := fun E' st t =>
  E' = E ∧ (∃ M' : List va_E, postX M' ∧ va_P D classes (cw cT ad M') t.heap ∧ va_K D classes (tysL cT) t ∧ va_D A (cw cT ad M')) ∧ va_F A st t
/-- A CONTRACT: from av and M the method throws an E; the cells behind are as postX says -/
def CtX (l : Launch) (y : MethodName) (cc : ByteArray) (nL : Nat) (ret : Option FieldType) (rm : Room) (av : List Value) (M : List va_E) (E : String) (postX : List va_E → Prop) : Prop :=
  ∀ (D : va_G) (cT : Nat → ClassId) (ad : Nat → Nat) (sz : Nat), vx_Met l y (.code y cc nL ret :: UG) rm (va_Pc (av.map (cv ad)) (pgX D cT ad sz M)) (fun _ _ _ _ => False) (xq E D cT ad postX (va_A (cw cT ad M) sz)) 1 6 (va_A (cw cT ad M) sz)
def EX : Cx → Prop
  | ((_, l, _, _), (s, _, _, _), _, _, A, _) => l.stackTraces = false ∧ (XN s ∧ XSt s ∧ XCs s) ∧ XZ A s s.heap
def TX : Cx → String → (List va_E → Prop) → Prop
  | (_, (s, _, args, below), (_, c, _), (D, cT, ad), A, Q), E, postX => (∀ x ∈ c.exceptionTable.toList, False) ∧ Q = vx_MQ below (fun _ _ _ _ => False) (xq E D cT ad postX A) args s 1 6 A
theorem CtX.of {l : Launch} {y : MethodName} {cc : ByteArray} {nL n : Nat} {ret : Option FieldType} {rm : Room} {av : List Value} {M : List va_E} {E : String} {postX : List va_E → Prop} (hl0 : l.stackTraces = false) (mi : MI y cc nL ret n) (hlen : (eL av).length ≤ nL)
    (body : ∀ X : Cx, X.1.2.1 = l → nLof X = nL → OK X cc y.cls ret rm (fun _ _ => False) 1 6 → EX X → TX X E postX → AW X 0 0 0 (eL av ++ List.replicate (nL - (eL av).length) none) [] M) : CtX l y cc nL ret rm av M E postX := by
  intro D cT ad sz
  refine vx_ofW (cc := cc) (maxL := nL) (ret := ret) (ws' := UG) mi.2.2.1 rfl ?_
  intro p e s m args below meth c s₁ B hml ht hv
  obtain ⟨rfl, ⟨hsz, hP, hK, hN, hD0⟩, hx, hz⟩ := hv
  have hts := atoms_spec (ws := .code y cc nL ret :: UG) B.pre
  have hown : s.vm.findClass y.cls = some m.cls := findClass_of_methodNamed B.named
  subst hsz
  have hD := hD0.self (sz := s.heap.size)
  have hA : ∀ q : Nat, s.heap.size ≤ q → va_A (cw cT ad M) s.heap.size q := fun q h => Or.inr h
  have hl := lv_entry (av.map (cv ad)) (n := nL) (by rw [eL_len]; exact hlen)
  rw [lg_entry_eq]
  refine body ((p, l, e, (headSpec (Cond.code y cc nL ret :: UG) rm).room), (s, m, (av.map (cv ad)).toArray, below), (meth, c, nL), (D, cT, ad), va_A (cw cT ad M) s.heap.size, _) rfl rfl
    ⟨B.exec, B.bytes, hml, hown, fun w h => hts w (List.mem_cons_of_mem _ h), hK, hA, B.notSynchronized, hN, rfl, B.returns, fun H locs g k => ?_⟩ ⟨hl0, hx, hz⟩ ⟨ht, rfl⟩ s.heap [] _ hP hD va_S.rf (lv_mono hl fun q hq => ?_)
  · intro T hT X9
    obtain ⟨t, a1, o, b1, b2, ⟨⟨v, M', -, h, -⟩, -⟩, -⟩ := k T hT X9
    exact h.elim
  · obtain ⟨v, h1, h2⟩ := lA_mem.mp hq
    have := eL_args ad (nL - (eL av).length) av 0 q.1 v h1
    rw [Nat.zero_add] at this
    obtain ⟨q1, q2⟩ := q
    dsimp only at h2 this ⊢
    rw [h2]; exact this
theorem CtX.mono {l : Launch} {y : MethodName} {cc : ByteArray} {nL : Nat} {ret : Option FieldType} {rm : Room} {av : List Value} {M : List va_E} {E : String} {postX post2 : List va_E → Prop} (h : CtX l y cc nL ret rm av M E postX) (hp : ∀ M', postX M' → post2 M') : CtX l y cc nL ret rm av M E post2 := by
  intro D cT ad sz p e ha hc hk s m args below hf hap hP hT
  obtain ⟨k, o, h1, h2, h3, hq⟩ := h D cT ad sz p e ha hc hk s m args below hf hap hP hT
  refine ⟨k, o, h1, h2, h3, ?_⟩
  rcases hq with ⟨f, -⟩ | ⟨q, e1, E', ce, L, ⟨e2, ⟨M', g1, g2⟩, g3⟩, r⟩
  · exact f.elim
  · exact Or.inr ⟨q, e1, E', ce, L, ⟨e2, ⟨M', hp _ g1, g2⟩, g3⟩, r⟩
section RT
variable {X : Cx} {cc : ByteArray} {own : String} {ret : Option FieldType} {rm : Room} {post : Option Value → List va_E → Prop} {mc ms pc : Nat} {L : List (Option Value)} {st : List Value} {M : List va_E} {E : String} {postX : List va_E → Prop}
variable {y : MethodName} {cc2 : ByteArray} {nL2 n2 idx : Nat} {ret2 : Option FieldType} {rm2 : Room} {M2 : List va_E} {postX2 : List va_E → Prop} {rest : List Value}
/-- a callee has thrown: it goes on -/
theorem t_after {p : Program} {l : Launch} {e : Env} {R : Room} {s : State} {m : MethodId} {args : Array Value} {below : List Frame} {meth : Method} {c : Code} {D : va_G} {cT : Nat → ClassId} {ad : Nat → Nat} {A : Nat → Prop} {H : Heap} {locs : List Loc} {ls : Array Slot} {st0 rest0 : List Value} {av : Array Value} {π : List Nat} {n : Nat}
    (hA : ∀ q, s.heap.size ≤ q → A q) (hlk : meth.locks = false) (htab : ∀ x ∈ c.exceptionTable.toList, False) (hfit : fitX π n M M2) (hk2 : M2.length = n) (hn : (π.take n).Nodup) (hlen : ∀ M', postX2 M' → M'.length = M2.length) (hP : va_P D classes (cw cT ad M) H) (hD : va_D A (cw cT ad M)) (hS : va_S A s.heap H locs)
    (hr : vx_Run p l e R s m args below meth c H locs 0 0 1 6 (F0 m pc ls st0) rest0 ((fun _ _ _ _ => False) av) (xq E D cT (fun k => ad (rn π k)) postX2 (va_A (cw cT (fun k => ad (rn π k)) M2) H.size)) (va_A (cw cT (fun k => ad (rn π k)) M2) H.size))
    (hpost : ∀ M', postX2 M' → postX (pb π M M')) : W p l e R s m args below meth c H locs 0 0 (vx_MQ below (fun _ _ _ _ => False) (xq E D cT ad postX A) args s 1 6 A) (F0 m pc ls st0) := by
  intro T hT Y
  rcases hr T hT Y with ⟨v, st₀, t, T', Lc, h0, Y', hL, e1, e2, hq, stp⟩ | ⟨q9, st₀, t, T', Lc, E', ce, h0, Y', hL, e1, e2, ⟨e3, ⟨M', hpx, hP', hK', hD'⟩, hz, hk⟩, hce, hcv, hcl, stp⟩
  · exact hq.elim
  subst e3
  rw [h0] at hz hk
  have hAA := fitX_A hfit (sz := H.size) hD (fun q h => hA q (Nat.le_trans hS.1 h))
  have hk1 : ∀ q : Nat, q < H.size → ¬ va_A (cw cT (fun k => ad (rn π k)) M2) H.size q → T'.heap[q]? = H[q]? := fun q a b => by rw [e1]; exact hk q a b
  have hS1 : va_S A s.heap T'.heap (locs ++ Lc) := ⟨Nat.le_trans hS.1 (by rw [e1]; exact hz), fun q h1 h2 => by rw [hk1 q (Nat.lt_of_lt_of_le h1 hS.1) (fun z => h2 (hAA q z))]; exact hS.2.1 q h1 h2, fun q hq => by
      rcases List.mem_append.mp hq with h | h
      · exact hS.2.2 q h
      · exact hAA _ (hL q h)⟩
  have hPn := pbX_P hfit hk2 hn (hlen _ hpx) hP hD hk1 (by rw [e1]; exact hP')
  have hDn : va_D A (cw cT ad (pb π M M')) := pb_D hD
  obtain ⟨t2, a1, b1⟩ := vx_out (p := p) (l := l) (e := e) (R := R) (s := s) (m := m) (args := args) (below := below) (meth := meth) (c := c) (H := T'.heap) (locs := locs ++ Lc) (cells := 0 + 1) (slots := 0 + 6) (free := A) (ls := ls) (rest := rest0) (Qc := fun _ _ _ _ => False) (XC := xq E' D cT ad postX A) (pc := pc) (E := E') (ce := ce) (q := q9) (mc := 1) (ms := 6)
    (fun x hx => (htab x hx).elim) hlk (by rw [e1]; exact hce) hcv hcl (fun t9 ht9 hal => ⟨rfl, ⟨pb π M M', hpost _ hpx, by rw [ht9]; exact hPn, va_K.moved (by have h9 := Y'.warmed.alike; rw [e2] at h9; exact (h9.symm).trans hal) hK', hDn⟩, hS1.F ht9⟩) hS1.2.2 (Nat.le_refl _) (Nat.le_refl _) T' rfl Y'
  exact ⟨t2, stp.trans a1, b1⟩
end RT
