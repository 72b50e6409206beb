/-! CALLS with places that the callee names but doesn't hold: π is longer than its cells. -/
def fitX (π : List Nat) (k : Nat) (M M2 : List va_E) : Prop := (π.take k).map (fun j => M[j]?) = M2.map (fun e => some (re π e))
theorem fitX_len {π : List Nat} {k : Nat} {M M2 : List va_E} (h : fitX π k M M2) : (π.take k).length = M2.length := by have := congrArg List.length h; simpa using this
theorem fitX_get {π : List Nat} {k : Nat} {M M2 : List va_E} (h : fitX π k M M2) {i : Nat} {e : va_E} (he : M2[i]? = some e) : ∃ j, (π.take k)[i]? = some j ∧ π[i]? = some j ∧ M[j]? = some (re π e) := by
  have h1 : ((π.take k).map (fun j => M[j]?))[i]? = some (some (re π e)) := by rw [show (π.take k).map (fun j => M[j]?) = M2.map (fun e => some (re π e)) from h, List.getElem?_map, he]; rfl
  rw [List.getElem?_map] at h1
  cases hk : (π.take k)[i]? with
  | none => rw [hk] at h1; cases h1
  | some j =>
    rw [hk] at h1
    refine ⟨j, rfl, ?_, Option.some.inj h1⟩
    rw [List.getElem?_take] at hk
    split at hk
    · exact hk
    · cases hk
theorem fitX_cw {π : List Nat} {k : Nat} {M M2 : List va_E} (h : fitX π k M M2) (cT : Nat → ClassId) (ad : Nat → Nat) {i : Nat} {q : Nat × va_E} (hq : (cw cT (fun k => ad (rn π k)) M2)[i]? = some q) : ∃ j, (π.take k)[i]? = some j ∧ (cw cT ad M)[j]? = some q := by
  obtain ⟨e, h1, rfl⟩ := cw_inv hq
  obtain ⟨j, h2, h3, h4⟩ := fitX_get h h1
  refine ⟨j, h2, ?_⟩
  rw [cw_get h4, ce_ce, rn_get h3]
theorem fitX_P {π : List Nat} {k : Nat} {M M2 : List va_E} (h : fitX π k M M2) {D : va_G} {cT : Nat → ClassId} {ad : Nat → Nat} {H : Heap} (hP : va_P D classes (cw cT ad M) H) : va_P D classes (cw cT (fun k => ad (rn π k)) M2) H := by
  intro i q hq
  obtain ⟨j, -, h2⟩ := fitX_cw h cT ad hq
  exact hP j q h2
theorem fitX_D {π : List Nat} {k : Nat} {M M2 : List va_E} (h : fitX π k M M2) (hn : (π.take k).Nodup) {A : Nat → Prop} {cT : Nat → ClassId} {ad : Nat → Nat} (hD : va_D A (cw cT ad M)) : va_D A (cw cT (fun k => ad (rn π k)) M2) := by
  refine ⟨fun i j a b ha hb hab => ?_, fun i q hq => ?_⟩
  · obtain ⟨k1, h1, h2⟩ := fitX_cw h cT ad ha
    obtain ⟨k2, h3, h4⟩ := fitX_cw h cT ad hb
    have := hD.1 k1 k2 a b h2 h4 hab
    subst this
    exact nd_get hn h1 h3
  · obtain ⟨j, -, h2⟩ := fitX_cw h cT ad hq
    exact hD.2 j q h2
theorem fitX_A {π : List Nat} {k : Nat} {M M2 : List va_E} (h : fitX π k M M2) {A : Nat → Prop} {cT : Nat → ClassId} {ad : Nat → Nat} {sz : Nat} (hD : va_D A (cw cT ad M)) (hA : ∀ q, sz ≤ q → A q) : ∀ q, va_A (cw cT (fun k => ad (rn π k)) M2) sz q → A q := by
  intro q hq
  rcases hq with ⟨i, e, hq⟩ | hq
  · obtain ⟨j, -, h2⟩ := fitX_cw h cT ad hq
    exact hD.2 j _ h2
  · exact hA q hq
theorem pfind_noneX : ∀ (π : List Nat) (M' : List va_E) (k : Nat), pfind k π M' = none → k ∉ π.take M'.length
  | a :: π, x :: M, k, h => by
    simp only [pfind] at h
    cases hb : Nat.beq k a with
    | true => rw [hb] at h; cases h
    | false =>
      rw [hb] at h
      have := pfind_noneX π M k h
      intro z
      rw [List.length_cons, List.take_succ_cons] at z
      rcases List.mem_cons.mp z with e | e
      · rw [e] at hb; simp at hb
      · exact this e
  | [], M, k, h => by simp
  | _ :: _, [], k, h => by simp
theorem pbX_P {π : List Nat} {n : Nat} {M M2 M' : List va_E} (h : fitX π n M M2) (hk2 : M2.length = n) (hn : (π.take n).Nodup) (hl : M'.length = M2.length) {D : va_G} {A : Nat → Prop} {cT : Nat → ClassId} {ad : Nat → Nat} {H H1 : Heap} (hP : va_P D classes (cw cT ad M) H) (hD : va_D A (cw cT ad M))
    (hk : ∀ q : Nat, q < H.size → ¬ va_A (cw cT (fun k => ad (rn π k)) M2) H.size q → H1[q]? = H[q]?) (hP1 : va_P D classes (cw cT (fun k => ad (rn π k)) M') H1) : va_P D classes (cw cT ad (pb π M M')) H1 := by
  intro k q hq
  obtain ⟨e, he, rfl⟩ := cw_inv hq
  unfold pb at he
  rw [pbF_get, Nat.zero_add] at he
  cases hM : M[k]? with
  | none => rw [hM] at he; cases he
  | some e0 =>
    rw [hM] at he
    simp only [Option.map_some, Option.some.injEq] at he
    cases hf : pfind k π M' with
    | some e' =>
      rw [hf] at he
      simp only at he
      subst he
      obtain ⟨i, h1, h2⟩ := pfind_some π M' k e' hf
      have := hP1 i _ (cw_get h2)
      rw [rn_get h1] at this
      rw [ce_ce]; exact this
    | none =>
      rw [hf] at he
      simp only at he
      subst he
      have hkn := pfind_noneX π M' k hf
      rw [hl, hk2] at hkn
      have hc := cw_get (cT := cT) (ad := ad) hM
      have h0 := hP k _ hc
      refine h0.kept ?_
      refine hk _ h0.lt ?_
      rintro (⟨i, e2, h2⟩ | h2)
      · obtain ⟨k2, h3, h4⟩ := fitX_cw h cT ad h2
        have := hD.1 k k2 _ _ hc h4 rfl
        subst this
        exact hkn (List.mem_of_getElem? h3)
      · have h5 := h0.lt
        dsimp only at h2 h5
        omega
theorem pfind_lt : ∀ (π : List Nat) (M' : List va_E) (k : Nat) (e : va_E), pfind k π M' = some e → ∃ i : Nat, π[i]? = some k ∧ M'[i]? = some e := pfind_some
theorem pbX_self {π : List Nat} {n : Nat} {M M2 : List va_E} (h : fitX π n M M2) : pb π M M2 = M := by
  apply List.ext_getElem?
  intro k
  unfold pb
  rw [pbF_get, Nat.zero_add]
  cases hM : M[k]? with
  | none => rfl
  | some e0 =>
    simp only [Option.map_some, Option.some.injEq]
    cases hf : pfind k π M2 with
    | none => rfl
    | some e' =>
      obtain ⟨i, h1, h2⟩ := pfind_some π M2 k e' hf
      obtain ⟨k2, h3, h4, h5⟩ := fitX_get h h2
      rw [h1] at h4
      cases h4
      rw [hM] at h5
      exact (Option.some.inj h5).symm
section RX
variable {X : Cx} {cc : ByteArray} {own : String} {ret : Option FieldType} {rm : Room} {post : Option Value → List va_E → Prop} {mc ms kc ks pc : Nat} {L : List (Option Value)} {st : List Value} {M : List va_E}
variable {y : MethodName} {cc2 : ByteArray} {nL2 n2 idx : Nat} {ret2 : Option FieldType} {rm2 : Room} {M2 : List va_E} {post2 : Option Value → List va_E → Prop} {rest : List Value}
theorem x_after {p : Program} {l : Launch} {e : Env} {R : Room} {s : State} {m : MethodId} {args : Array Value} {below : List Frame} {meth : Method} {c : Code} {nL : Nat} {D : va_G} {cT : Nat → ClassId} {ad : Nat → Nat} {A : Nat → Prop} {Q : State → Prop} {H : Heap} {locs : List Loc} {ls : Array Slot} {st0 : List Value} {av : Array Value} {π : List Nat} {n : Nat}
    (hA : ∀ q, s.heap.size ≤ q → A q) (hfit : fitX π n M M2) (hk2 : M2.length = n) (hn : (π.take n).Nodup) (hlen : ∀ v M', post2 v M' → M'.length = M2.length) (hP : va_P D classes (cw cT ad M) H) (hD : va_D A (cw cT ad M)) (hS : va_S A s.heap H locs) (hl : lv_has ls nL (lA ad L))
    (hr : va_Run p l e R s m args below meth c H locs kc ks 0 0 (F0 m pc ls st0) (rest.map (cv ad)) (qg D cT (fun k => ad (rn π k)) post2 (va_A (cw cT (fun k => ad (rn π k)) M2) H.size) av) (va_A (cw cT (fun k => ad (rn π k)) M2) H.size))
    (kk : ∀ v M', post2 v M' → AW ((p, l, e, R), (s, m, args, below), (meth, c, nL), (D, cT, ad), A, Q) kc ks (pc + 3) L ((v.map (cv (rn π))).toList ++ rest) (pb π M M')) : W p l e R s m args below meth c H locs kc ks Q (F0 m pc ls st0) := by
  intro T hT Y
  obtain ⟨v, st₀, t, T', Lc, h0, Y', hL, e1, e2, ⟨⟨v', M', hv, hpost, hP', hK', hD'⟩, hz, hk⟩, stp⟩ := hr T hT Y
  cases hv
  rw [h0] at hz hk
  have hAA := fitX_A hfit (sz := H.size) hD (fun q h => hA q (Nat.le_trans hS.1 h))
  have hk1 : ∀ q : Nat, q < H.size → ¬ va_A (cw cT (fun k => ad (rn π k)) M2) H.size q → T'.heap[q]? = H[q]? := fun q a b => by rw [e1]; exact hk q a b
  have hS1 : va_S A s.heap T'.heap (locs ++ Lc) := ⟨Nat.le_trans hS.1 (by rw [e1]; exact hz), fun q h1 h2 => by rw [hk1 q (Nat.lt_of_lt_of_le h1 hS.1) (fun z => h2 (hAA q z))]; exact hS.2.1 q h1 h2, fun q hq => by
      rcases List.mem_append.mp hq with h | h
      · exact hS.2.2 q h
      · exact hAA _ (hL q h)⟩
  obtain ⟨t2, a1, b1⟩ := kk v' M' hpost T'.heap (locs ++ Lc) ls (pbX_P hfit hk2 hn (hlen _ _ hpost) hP hD hk1 (by rw [e1]; exact hP')) (pb_D hD) hS1 hl T' rfl Y'
  refine ⟨t2, stp t2 ?_, b1⟩
  have e3 : ((v'.map (cv (rn π))).toList ++ rest).map (cv ad) = (v'.map (cv (fun k => ad (rn π k)))).toList ++ rest.map (cv ad) := by
    rw [List.map_append]
    congr 1
    cases v' with
    | none => rfl
    | some w => simp [cv_cv]
  rw [e3] at a1
  exact a1
theorem x_callV (ok : OK X cc own ret rm post mc ms) {av2 : List Value} {ci q : Nat} {fs : List Value} (π : List Nat) (n : Nat) (hd : decode cc pc = .ok (.invokevirtual idx, 3)) (mv : MV own idx y) (mi : MI y cc2 nL2 ret2 n2) (ct : Ct X.1.2.1 y cc2 nL2 ret2 rm2 (.ref q :: av2) M2 post2)
    (hroom : rm2.frames + 1 ≤ rm.frames ∧ 8 + (nL2 + 11) + rm2.locals ≤ rm.locals ∧ rm2.cells = 0 ∧ rm2.slots = 0 ∧ kc ≤ rm.cells ∧ ks ≤ rm.slots) (hn2 : av2.length = n2) (hst : st = (av2.map (cv (rn π))).reverse ++ .ref (rn π q) :: rest) (hrest : (rest.map fun v => v.category).sum ≤ 8)
    (hk2 : M2.length = n) (hfit : fitX π n M M2) (hn : (π.take n).Nodup) (hcell : M2[q]? = some (.inr (ci, fs))) (hcls : (classes[ci]?).map (fun r => r.1) = some y.cls) (hlen : ∀ v M', post2 v M' → M'.length = M2.length)
    (kk : ∀ v M', post2 v M' → AW X kc ks (pc + 3) L ((v.map (cv (rn π))).toList ++ rest) (pb π M M')) : AW X kc ks pc L st M := by
  obtain ⟨⟨p, l, e, R⟩, ⟨s, m, args, below⟩, ⟨meth, c, nL⟩, ⟨D, cT, ad⟩, A, Q⟩ := X
  obtain ⟨hx, hb, hml, ho, hts, hK, hA, -, hN, rfl, -⟩ := ok
  intro H locs ls hP hD hS hl
  subst hst
  obtain ⟨r, hr1, hr2⟩ : ∃ r, classes[ci]? = some r ∧ r.1 = y.cls := by
    cases h : classes[ci]? with
    | none => rw [h] at hcls; cases hcls
    | some r => rw [h] at hcls; exact ⟨r, rfl, Option.some.inj hcls⟩
  have hcw := cw_get (cT := cT) (ad := fun k => ad (rn π k)) hcell
  have hPc := fitX_P hfit hP
  have hDc := fitX_D hfit hn hD
  refine x_after hA hfit hk2 hn hlen hP hD hS hl (av := (Value.ref (ad (rn π q)) :: av2.map (cv (fun k => ad (rn π k)))).toArray) (va_runV (C := y.cls) (Ts := UG) (b := ad (rn π q)) (As := av2.map (cv (fun k => ad (rn π k)))) (n := n2) (nL := nL) ⟨hx, hb, hml, ho, hts⟩ (ct D cT (fun k => ad (rn π k)) H.size)
    ⟨callB_of n2 hts (ug_goodIn mi.1) rfl hroom.2.2.1 hroom.2.2.2.1 (hts _ mi.2.2.2) (hts _ mv.1) mi.2.1 ⟨hroom.1, hroom.2.1⟩, hts _ mv.2.1, hts _ mv.2.2⟩
    ⟨pg_blind, ?_, fun U hU hW => ⟨rfl, by rw [hU], by rw [hU]; exact hPc, va_K.moved hW.alike hK, hN.moved hW, hDc.weaken (fun _ _ _ _ => trivial)⟩⟩ rfl (by rw [List.length_map]; exact hn2) hl.1 ?_ (lv_room ?_) hd ⟨hroom.2.2.2.2.1, hroom.2.2.2.2.2⟩) kk
  · obtain ⟨cell, g1, g2, g3⟩ := va_recv hK hPc hr1 (hcw)
    exact ⟨cell, g1, g2, by rw [← hr2]; exact g3⟩
  · show List.map (cv ad) _ = _
    simp only [List.map_append, List.map_reverse, List.map_map, List.map_cons]
    congr 2
    apply List.map_congr_left
    intro v _
    exact cv_cv ad π v
  · rw [List.map_map]
    rw [show ((fun v : Value => v.category) ∘ cv ad) = fun v : Value => v.category from by funext v; exact cv_cat ad v]
    exact hrest
theorem x_callS (ok : OK X cc own ret rm post mc ms) {av2 : List Value} (π : List Nat) (n : Nat) (hd : decode cc pc = .ok (.invokestatic idx, 3)) (mv : MS own idx y) (mi : MI y cc2 nL2 ret2 n2) (ct : Ct X.1.2.1 y cc2 nL2 ret2 rm2 av2 M2 post2)
    (hroom : rm2.frames + 1 ≤ rm.frames ∧ 8 + (nL2 + 11) + rm2.locals ≤ rm.locals ∧ rm2.cells = 0 ∧ rm2.slots = 0 ∧ kc ≤ rm.cells ∧ ks ≤ rm.slots) (hn2 : av2.length = n2) (hst : st = (av2.map (cv (rn π))).reverse ++ rest) (hrest : (rest.map fun v => v.category).sum ≤ 8)
    (hk2 : M2.length = n) (hfit : fitX π n M M2) (hn : (π.take n).Nodup) (hlen : ∀ v M', post2 v M' → M'.length = M2.length)
    (kk : ∀ v M', post2 v M' → AW X kc ks (pc + 3) L ((v.map (cv (rn π))).toList ++ rest) (pb π M M')) : AW X kc ks pc L st M := by
  obtain ⟨⟨p, l, e, R⟩, ⟨s, m, args, below⟩, ⟨meth, c, nL⟩, ⟨D, cT, ad⟩, A, Q⟩ := X
  obtain ⟨hx, hb, hml, ho, hts, hK, hA, -, hN, rfl, -⟩ := ok
  intro H locs ls hP hD hS hl
  subst hst
  have hPc := fitX_P hfit hP
  have hDc := fitX_D hfit hn hD
  have hst2 : List.map (cv ad) ((av2.map (cv (rn π))).reverse ++ rest) = (av2.map (cv (fun k => ad (rn π k)))).reverse ++ rest.map (cv ad) := by
    simp only [List.map_append, List.map_reverse, List.map_map]
    congr 2
    apply List.map_congr_left
    intro v _
    exact cv_cv ad π v
  have hsum : ((rest.map (cv ad)).map fun v => v.category).sum ≤ 8 := by
    rw [List.map_map]
    rw [show ((fun v : Value => v.category) ∘ cv ad) = fun v : Value => v.category from by funext v; exact cv_cat ad v]
    exact hrest
  refine x_after hA hfit hk2 hn hlen hP hD hS hl (av := (av2.map (cv (fun k => ad (rn π k)))).toArray) ?_ kk
  rcases mv.1 with hw | ⟨host, hw⟩
  · exact va_runS (Ts := UG) (As := av2.map (cv (fun k => ad (rn π k)))) (n := n2) (nL := nL) ⟨hx, hb, hml, ho, hts⟩ (ct D cT (fun k => ad (rn π k)) H.size)
      ⟨callB_of n2 hts (ug_goodIn mi.1) rfl hroom.2.2.1 hroom.2.2.2.1 (hts _ mi.2.2.2) (hts _ hw) mi.2.1 ⟨hroom.1, hroom.2.1⟩, hts _ mv.2⟩
      ⟨pg_blind, fun U hU hW => ⟨rfl, by rw [hU], by rw [hU]; exact hPc, va_K.moved hW.alike hK, hN.moved hW, hDc.weaken (fun _ _ _ _ => trivial)⟩⟩ rfl (by rw [List.length_map]; exact hn2) hl.1 hst2 (lv_room hsum) hd ⟨hroom.2.2.2.2.1, hroom.2.2.2.2.2⟩
  · exact va_runSN (Ts := UG) (host := host) (As := av2.map (cv (fun k => ad (rn π k)))) (n := n2) (nL := nL) ⟨hx, hb, hml, ho, hts⟩ (ct D cT (fun k => ad (rn π k)) H.size)
      ⟨va_cnB n2 hts (ug_goodIn mi.1) rfl hroom.2.2.1 hroom.2.2.2.1 (hN _ hw) (hts _ mi.2.2.2) mi.2.1 ⟨hroom.1, hroom.2.1⟩, hts _ mv.2, trivial⟩
      ⟨pg_blind, fun U hU hW => ⟨rfl, by rw [hU], by rw [hU]; exact hPc, va_K.moved hW.alike hK, hN.moved hW, hDc.weaken (fun _ _ _ _ => trivial)⟩⟩ rfl (by rw [List.length_map]; exact hn2) hl.1 hst2 (lv_room hsum) hd ⟨hroom.2.2.2.2.1, hroom.2.2.2.2.2⟩
theorem x_callVi (ok : OK X cc own ret rm post mc ms) {av2 : List Value} {ci q : Nat} {fs : List Value} {x : Int32} {M2' : List va_E} (π : List Nat) (n : Nat) (hd : decode cc pc = .ok (.invokevirtual idx, 3)) (mv : MV own idx y) (mi : MI y cc2 nL2 ret2 n2) (ct : Cd X.1.2.1 y cc2 nL2 ret2 rm2 (.ref q :: av2) M2 (some (.int x)) M2')
    (hroom : rm2.frames + 1 ≤ rm.frames ∧ 8 + (nL2 + 11) + rm2.locals ≤ rm.locals ∧ rm2.cells = 0 ∧ rm2.slots = 0 ∧ kc ≤ rm.cells ∧ ks ≤ rm.slots) (hn2 : av2.length = n2) (hst : st = (av2.map (cv (rn π))).reverse ++ .ref (rn π q) :: rest) (hrest : (rest.map fun v => v.category).sum ≤ 8)
    (hk2 : M2.length = n) (hfit : fitX π n M M2) (hn : (π.take n).Nodup) (hcell : M2[q]? = some (.inr (ci, fs))) (hcls : (classes[ci]?).map (fun r => r.1) = some y.cls) (hlen : M2'.length = M2.length)
    (kk : AW X kc ks (pc + 3) L (.int x :: rest) (pb π M M2')) : AW X kc ks pc L st M :=
  x_callV ok π n hd mv mi ct hroom hn2 hst hrest hk2 hfit hn hcell hcls (fun _ _ h => by rw [h.2]; exact hlen) (fun _ _ h => by obtain ⟨rfl, rfl⟩ := h; exact kk)
theorem x_callVv (ok : OK X cc own ret rm post mc ms) {av2 : List Value} {ci q : Nat} {fs : List Value} {M2' : List va_E} (π : List Nat) (n : Nat) (hd : decode cc pc = .ok (.invokevirtual idx, 3)) (mv : MV own idx y) (mi : MI y cc2 nL2 ret2 n2) (ct : Cd X.1.2.1 y cc2 nL2 ret2 rm2 (.ref q :: av2) M2 none M2')
    (hroom : rm2.frames + 1 ≤ rm.frames ∧ 8 + (nL2 + 11) + rm2.locals ≤ rm.locals ∧ rm2.cells = 0 ∧ rm2.slots = 0 ∧ kc ≤ rm.cells ∧ ks ≤ rm.slots) (hn2 : av2.length = n2) (hst : st = (av2.map (cv (rn π))).reverse ++ .ref (rn π q) :: rest) (hrest : (rest.map fun v => v.category).sum ≤ 8)
    (hk2 : M2.length = n) (hfit : fitX π n M M2) (hn : (π.take n).Nodup) (hcell : M2[q]? = some (.inr (ci, fs))) (hcls : (classes[ci]?).map (fun r => r.1) = some y.cls) (hlen : M2'.length = M2.length)
    (kk : AW X kc ks (pc + 3) L rest (pb π M M2')) : AW X kc ks pc L st M :=
  x_callV ok π n hd mv mi ct hroom hn2 hst hrest hk2 hfit hn hcell hcls (fun _ _ h => by rw [h.2]; exact hlen) (fun _ _ h => by obtain ⟨rfl, rfl⟩ := h; exact kk)
theorem x_callVr (ok : OK X cc own ret rm post mc ms) {av2 : List Value} {ci q x : Nat} {fs : List Value} {M2' : List va_E} (π : List Nat) (n : Nat) (hd : decode cc pc = .ok (.invokevirtual idx, 3)) (mv : MV own idx y) (mi : MI y cc2 nL2 ret2 n2) (ct : Cd X.1.2.1 y cc2 nL2 ret2 rm2 (.ref q :: av2) M2 (some (.ref x)) M2')
    (hroom : rm2.frames + 1 ≤ rm.frames ∧ 8 + (nL2 + 11) + rm2.locals ≤ rm.locals ∧ rm2.cells = 0 ∧ rm2.slots = 0 ∧ kc ≤ rm.cells ∧ ks ≤ rm.slots) (hn2 : av2.length = n2) (hst : st = (av2.map (cv (rn π))).reverse ++ .ref (rn π q) :: rest) (hrest : (rest.map fun v => v.category).sum ≤ 8)
    (hk2 : M2.length = n) (hfit : fitX π n M M2) (hn : (π.take n).Nodup) (hcell : M2[q]? = some (.inr (ci, fs))) (hcls : (classes[ci]?).map (fun r => r.1) = some y.cls) (hlen : M2'.length = M2.length)
    (kk : AW X kc ks (pc + 3) L (.ref (rn π x) :: rest) (pb π M M2')) : AW X kc ks pc L st M :=
  x_callV ok π n hd mv mi ct hroom hn2 hst hrest hk2 hfit hn hcell hcls (fun _ _ h => by rw [h.2]; exact hlen) (fun _ _ h => by obtain ⟨rfl, rfl⟩ := h; exact kk)
theorem x_callVp (ok : OK X cc own ret rm post mc ms) {av2 : List Value} {ci q : Nat} {fs : List Value} {x : Int32} (π : List Nat) (n : Nat) (hd : decode cc pc = .ok (.invokevirtual idx, 3)) (mv : MV own idx y) (mi : MI y cc2 nL2 ret2 n2) (ct : Cd X.1.2.1 y cc2 nL2 ret2 rm2 (.ref q :: av2) M2 (some (.int x)) M2)
    (hroom : rm2.frames + 1 ≤ rm.frames ∧ 8 + (nL2 + 11) + rm2.locals ≤ rm.locals ∧ rm2.cells = 0 ∧ rm2.slots = 0 ∧ kc ≤ rm.cells ∧ ks ≤ rm.slots) (hn2 : av2.length = n2) (hst : st = (av2.map (cv (rn π))).reverse ++ .ref (rn π q) :: rest) (hrest : (rest.map fun v => v.category).sum ≤ 8)
    (hk2 : M2.length = n) (hfit : fitX π n M M2) (hn : (π.take n).Nodup) (hcell : M2[q]? = some (.inr (ci, fs))) (hcls : (classes[ci]?).map (fun r => r.1) = some y.cls)
    (kk : AW X kc ks (pc + 3) L (.int x :: rest) M) : AW X kc ks pc L st M :=
  x_callVi ok π n hd mv mi ct hroom hn2 hst hrest hk2 hfit hn hcell hcls rfl (by rw [pbX_self hfit]; exact kk)
theorem x_callSi (ok : OK X cc own ret rm post mc ms) {av2 : List Value} {x : Int32} {M2' : List va_E} (π : List Nat) (n : Nat) (hd : decode cc pc = .ok (.invokestatic idx, 3)) (mv : MS own idx y) (mi : MI y cc2 nL2 ret2 n2) (ct : Cd X.1.2.1 y cc2 nL2 ret2 rm2 av2 M2 (some (.int x)) M2')
    (hroom : rm2.frames + 1 ≤ rm.frames ∧ 8 + (nL2 + 11) + rm2.locals ≤ rm.locals ∧ rm2.cells = 0 ∧ rm2.slots = 0 ∧ kc ≤ rm.cells ∧ ks ≤ rm.slots) (hn2 : av2.length = n2) (hst : st = (av2.map (cv (rn π))).reverse ++ rest) (hrest : (rest.map fun v => v.category).sum ≤ 8)
    (hk2 : M2.length = n) (hfit : fitX π n M M2) (hn : (π.take n).Nodup) (hlen : M2'.length = M2.length) (kk : AW X kc ks (pc + 3) L (.int x :: rest) (pb π M M2')) : AW X kc ks pc L st M :=
  x_callS ok π n hd mv mi ct hroom hn2 hst hrest hk2 hfit hn (fun _ _ h => by rw [h.2]; exact hlen) (fun _ _ h => by obtain ⟨rfl, rfl⟩ := h; exact kk)
theorem x_callSv (ok : OK X cc own ret rm post mc ms) {av2 : List Value} {M2' : List va_E} (π : List Nat) (n : Nat) (hd : decode cc pc = .ok (.invokestatic idx, 3)) (mv : MS own idx y) (mi : MI y cc2 nL2 ret2 n2) (ct : Cd X.1.2.1 y cc2 nL2 ret2 rm2 av2 M2 none M2')
    (hroom : rm2.frames + 1 ≤ rm.frames ∧ 8 + (nL2 + 11) + rm2.locals ≤ rm.locals ∧ rm2.cells = 0 ∧ rm2.slots = 0 ∧ kc ≤ rm.cells ∧ ks ≤ rm.slots) (hn2 : av2.length = n2) (hst : st = (av2.map (cv (rn π))).reverse ++ rest) (hrest : (rest.map fun v => v.category).sum ≤ 8)
    (hk2 : M2.length = n) (hfit : fitX π n M M2) (hn : (π.take n).Nodup) (hlen : M2'.length = M2.length) (kk : AW X kc ks (pc + 3) L rest (pb π M M2')) : AW X kc ks pc L st M :=
  x_callS ok π n hd mv mi ct hroom hn2 hst hrest hk2 hfit hn (fun _ _ h => by rw [h.2]; exact hlen) (fun _ _ h => by obtain ⟨rfl, rfl⟩ := h; exact kk)
theorem x_callSp (ok : OK X cc own ret rm post mc ms) {av2 : List Value} {x : Int32} (π : List Nat) (n : Nat) (hd : decode cc pc = .ok (.invokestatic idx, 3)) (mv : MS own idx y) (mi : MI y cc2 nL2 ret2 n2) (ct : Cd X.1.2.1 y cc2 nL2 ret2 rm2 av2 M2 (some (.int x)) M2)
    (hroom : rm2.frames + 1 ≤ rm.frames ∧ 8 + (nL2 + 11) + rm2.locals ≤ rm.locals ∧ rm2.cells = 0 ∧ rm2.slots = 0 ∧ kc ≤ rm.cells ∧ ks ≤ rm.slots) (hn2 : av2.length = n2) (hst : st = (av2.map (cv (rn π))).reverse ++ rest) (hrest : (rest.map fun v => v.category).sum ≤ 8)
    (hk2 : M2.length = n) (hfit : fitX π n M M2) (hn : (π.take n).Nodup) (kk : AW X kc ks (pc + 3) L (.int x :: rest) M) : AW X kc ks pc L st M :=
  x_callSi ok π n hd mv mi ct hroom hn2 hst hrest hk2 hfit hn rfl (by rw [pbX_self hfit]; exact kk)
end RX
