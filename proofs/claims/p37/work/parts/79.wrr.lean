/-! WRAPPERS in the layer: a throw caught; a call of a wrapper. -/
section WR
variable {X : Cx} {cc : ByteArray} {own : String} {ret : Option FieldType} {rm : Room} {post : Option Value → List va_E → Prop} {mc ms kc ks pc : Nat} {L : List (Option Value)} {st : List Value} {M : List va_E} {E : String}
variable {y : MethodName} {cc2 : ByteArray} {nL2 n2 idx : Nat} {ret2 : Option FieldType} {rm2 : Room} {M2 : List va_E} {postX2 : List va_E → Prop} {rest : List Value} {hh : List (Nat × Nat × Nat × Nat)}
/-- the handler of the row x: it keeps the exception in a place, and hands k back -/
def hnd (cc : ByteArray) (nL hp : Nat) (k : Int) : Prop :=
  (∃ i : Fin 4, decode cc hp = .ok (.astore_n i, 1) ∧ (i : Nat) < nL ∧ decode cc (hp + 1) = .ok (.iconst k, 1) ∧ decode cc (hp + 2) = .ok (.ireturn, 1)) ∨
  (∃ i : Nat, decode cc hp = .ok (.astore i, 2) ∧ i < nL ∧ decode cc (hp + 2) = .ok (.iconst k, 1) ∧ decode cc (hp + 3) = .ok (.ireturn, 1))
theorem w_callV (ok : OK X cc own (some .int) rm post 1 6) (ex : EX X) (tb : TB X hh) {av2 : List Value} {ci q : Nat} {fs : List Value} {k : Int} {name : String} {pre suf : List ExceptionTableEntry} {x : ExceptionTableEntry} (π : List Nat) (n : Nat) (hd : decode cc pc = .ok (.invokevirtual idx, 3)) (mv : MV own idx y) (mi : MI y cc2 nL2 ret2 n2) (ct : CtX X.1.2.1 y cc2 nL2 ret2 rm2 (.ref q :: av2) M2 E postX2)
    (hroom : rm2.frames + 1 ≤ rm.frames ∧ 8 + (nL2 + 11) + rm2.locals ≤ rm.locals ∧ rm2.cells = 1 ∧ rm2.slots = 6 ∧ 0 + 1 ≤ rm.cells ∧ 0 + 6 ≤ rm.slots) (hn2 : av2.length = n2) (hst : st = (av2.map (cv (rn π))).reverse ++ .ref (rn π q) :: rest) (hrest : (rest.map fun v => v.category).sum ≤ 8)
    (hk2 : M2.length = n) (hfit : fitX π n M M2) (hn : (π.take n).Nodup) (hcell : M2[q]? = some (.inr (ci, fs))) (hcls : (classes[ci]?).map (fun r => r.1) = some y.cls) (hlen : ∀ M', postX2 M' → M'.length = M2.length)
    (hsplit : tableOf hh = pre ++ x :: suf) (hpass : ∀ z ∈ pre, z.catchType ≠ 0 ∧ ∃ nm : String, Cond.classLink own z.catchType nm ∈ UG ∧ (E, nm) ∈ ncL) (hcov : covers x pc = true) (h0 : x.catchType ≠ 0) (hlink : Cond.classLink own x.catchType name ∈ UG) (hcast : Cond.castable E name ∈ xnL)
    (hhd : hnd cc (nLof X) x.handlerPc k) (hpost : ∀ M', postX2 M' → post (some (iv k)) (pb π M M')) : AW X 0 0 pc L st M := by
  obtain ⟨⟨p, l, e, R⟩, ⟨s, m, args, below⟩, ⟨meth, c, nL⟩, ⟨D, cT, ad⟩, A, Q⟩ := X
  obtain ⟨hx, hb, hml, ho, hts, hK, hA, hlk, hN, rfl, hr0, hQ⟩ := ok
  intro H locs ls hP hD hS hl
  subst hst
  obtain ⟨r, hr1, hr2⟩ : ∃ r, classes[ci]? = some r ∧ r.1 = y.cls := by
    cases h : classes[ci]? with
    | none => rw [h] at hcls; cases hcls
    | some r => rw [h] at hcls; exact ⟨r, rfl, Option.some.inj hcls⟩
  have hcw := cw_get (cT := cT) (ad := fun k => ad (rn π k)) hcell
  have hPc := fitX_P hfit hP
  have hr := vx_runV (p := p) (l := l) (e := e) (R := R) (s := s) (m := m) (args := args) (below := below) (meth := meth) (c := c) (H := H) (locs := locs) (cells := 0) (slots := 0) (C := y.cls) (Ts := UG) (b := ad (rn π q)) (As := av2.map (cv (fun k => ad (rn π k)))) (n := n2) (nL := nL) (rest := rest.map (cv ad)) (g := F0 m pc ls (((av2.map (cv (rn π))).reverse ++ .ref (rn π q) :: rest).map (cv ad))) ⟨hx, hb, hml, ho, hts⟩ (ct D cT (fun k => ad (rn π k)) H.size)
    ⟨callB_of n2 hts (ug_goodIn mi.1) rfl hroom.2.2.1 hroom.2.2.2.1 (hts _ mi.2.2.2) (hts _ mv.1) mi.2.1 ⟨hroom.1, hroom.2.1⟩, hts _ mv.2.1, hts _ mv.2.2⟩
    ⟨pgX_blind, by
      obtain ⟨cell, g1, g2, g3⟩ := va_recv hK hPc hr1 (hcw)
      exact ⟨cell, g1, g2, by rw [← hr2]; exact g3⟩, fun U hU hW => ⟨rfl, pgX_at ex hA hK hN hfit hn hP hD hS hU hW⟩⟩ rfl (by rw [List.length_map]; exact hn2) hl.1 (by
      show List.map (cv ad) _ = _
      simp only [List.map_append, List.map_reverse, List.map_map, List.map_cons]
      congr 2
      apply List.map_congr_left
      intro v _
      exact cv_cv ad π v) (lv_room (by
      rw [List.map_map]
      rw [show ((fun v : Value => v.category) ∘ cv ad) = fun v : Value => v.category from by funext v; exact cv_cat ad v]
      exact hrest)) hd ⟨hroom.2.2.2.2.1, hroom.2.2.2.2.2⟩
  intro T hT Y
  rcases hr T hT Y with ⟨v, st₀, t, T', Lc, g0, Y', hL, e1, e2, hq, stp⟩ | ⟨q9, st₀, t, T', Lc, E', ce, g0, Y', hL, e1, e2, ⟨e3, ⟨M', hpx, hP', hK', hD'⟩, hz, hk⟩, hce, hcv, hcl, stp⟩
  · exact hq.elim
  subst e3
  rw [g0] at hz hk
  have hAA := fitX_A hfit (sz := H.size) hD (fun q h => hA q (Nat.le_trans hS.1 h))
  have hk1 : ∀ q : Nat, q < H.size → ¬ va_A (cw cT (fun k => ad (rn π k)) M2) H.size q → T'.heap[q]? = H[q]? := fun q a b => by rw [e1]; exact hk q a b
  have hS1 : va_S A s.heap T'.heap (locs ++ Lc) := ⟨Nat.le_trans hS.1 (by rw [e1]; exact hz), fun q h1 h2 => by rw [hk1 q (Nat.lt_of_lt_of_le h1 hS.1) (fun z => h2 (hAA q z))]; exact hS.2.1 q h1 h2, fun q hq => by
      rcases List.mem_append.mp hq with h | h
      · exact hS.2.2 q h
      · exact hAA _ (hL q h)⟩
  have hPn := pbX_P hfit hk2 hn (hlen _ hpx) hP hD hk1 (by rw [e1]; exact hP')
  have hDn : va_D A (cw cT ad (pb π M M')) := pb_D hD
  have fin : ∀ {pc9 : Nat} {ls9 : Array Slot}, decode cc pc9 = .ok (.ireturn, 1) → W p l e R s m args below meth c T'.heap (locs ++ Lc) (0 + 1) (0 + 6) Q (F0 m pc9 ls9 [.int (Int32.ofInt k)]) := fun h9 =>
    hQ T'.heap (locs ++ Lc) _ (W.iret hx hb hr0 (fun t ht hW => ⟨⟨some (iv k), pb π M M', rfl, hpost _ hpx, by rw [ht]; exact hPn, va_K.moved hW.alike hK, hDn⟩, hS1.F ht⟩) hS1.2.2 h9 hlk)
  have kk : W p l e R s m args below meth c T'.heap (locs ++ Lc) (0 + 1) (0 + 6) Q (F0 m x.handlerPc ls [.ref q9]) := by
    rcases hhd with ⟨i, d1, d2, d3, d4⟩ | ⟨i, d1, d2, d3, d4⟩
    · exact lv_astore_n hx hb d1 rfl hl d2 rfl fun ls' _ => lv_iconst hx hb d3 rfl (fin d4)
    · exact lv_astore hx hb d1 hl d2 rfl fun ls' _ => lv_iconst hx hb d3 rfl (fin d4)
  obtain ⟨t2, a1, b1⟩ := vx_catch (own := own) (name := name) (E := E') (ce := ce) (q := q9) (pc := pc) (rest := rest.map (cv ad)) ho pre x suf (tb.trans hsplit) (fun z hz => Or.inr ⟨(hpass z hz).1, by
      obtain ⟨nm, h1, h2⟩ := (hpass z hz).2
      exact ⟨nm, hts _ h1, ex.2.1.2.2 _ h2⟩⟩) hcov h0 (hts _ hlink) (va_Nw.use (w := Cond.castable E' name) rfl (ex.2.1.1 _ hcast)) (by rw [e1]; exact hce) hcv hcl kk T' rfl Y'
  exact ⟨t2, stp.trans a1, b1⟩
theorem l_after {p : Program} {l : Launch} {e : Env} {R : Room} {s : State} {m : MethodId} {args : Array Value} {below : List Frame} {meth : Method} {c : Code} {nL : Nat} {D : va_G} {cT : Nat → ClassId} {ad : Nat → Nat} {A : Nat → Prop} {Q : State → Prop} {H : Heap} {locs : List Loc} {ls : Array Slot} {st0 : List Value} {av : Array Value} {π : List Nat} {n a b : Nat} {post2 : Option Value → List va_E → Prop}
    (hA : ∀ q, s.heap.size ≤ q → A q) (hfit : fitX π n M M2) (hk2 : M2.length = n) (hn : (π.take n).Nodup) (hlen : ∀ v M', post2 v M' → M'.length = M2.length) (hP : va_P D classes (cw cT ad M) H) (hD : va_D A (cw cT ad M)) (hS : va_S A s.heap H locs) (hl : lv_has ls nL (lA ad L))
    (hr : va_Run p l e R s m args below meth c H locs kc ks a b (F0 m pc ls st0) (rest.map (cv ad)) (qg D cT (fun k => ad (rn π k)) post2 (va_A (cw cT (fun k => ad (rn π k)) M2) H.size) av) (va_A (cw cT (fun k => ad (rn π k)) M2) H.size))
    (kk : ∀ v M', post2 v M' → AW ((p, l, e, R), (s, m, args, below), (meth, c, nL), (D, cT, ad), A, Q) (kc + a) (ks + b) (pc + 3) L ((v.map (cv (rn π))).toList ++ rest) (pb π M M')) : W p l e R s m args below meth c H locs kc ks Q (F0 m pc ls st0) := by
  intro T hT Y
  obtain ⟨v, st₀, t, T', Lc, h0, Y', hL, e1, e2, ⟨⟨v', M', hv, hpost, hP', hK', hD'⟩, hz, hk⟩, stp⟩ := hr T hT Y
  cases hv
  rw [h0] at hz hk
  have hAA := fitX_A hfit (sz := H.size) hD (fun q h => hA q (Nat.le_trans hS.1 h))
  have hk1 : ∀ q : Nat, q < H.size → ¬ va_A (cw cT (fun k => ad (rn π k)) M2) H.size q → T'.heap[q]? = H[q]? := fun q a b => by rw [e1]; exact hk q a b
  have hS1 : va_S A s.heap T'.heap (locs ++ Lc) := ⟨Nat.le_trans hS.1 (by rw [e1]; exact hz), fun q h1 h2 => by rw [hk1 q (Nat.lt_of_lt_of_le h1 hS.1) (fun z => h2 (hAA q z))]; exact hS.2.1 q h1 h2, fun q hq => by
      rcases List.mem_append.mp hq with h | h
      · exact hS.2.2 q h
      · exact hAA _ (hL q h)⟩
  obtain ⟨t2, a1, b1⟩ := kk v' M' hpost T'.heap (locs ++ Lc) ls (pbX_P hfit hk2 hn (hlen _ _ hpost) hP hD hk1 (by rw [e1]; exact hP')) (pb_D hD) hS1 hl T' rfl Y'
  refine ⟨t2, stp t2 ?_, b1⟩
  have e3 : ((v'.map (cv (rn π))).toList ++ rest).map (cv ad) = (v'.map (cv (fun k => ad (rn π k)))).toList ++ rest.map (cv ad) := by
    rw [List.map_append]
    congr 1
    cases v' with
    | none => rfl
    | some w => simp [cv_cv]
  rw [e3] at a1
  exact a1
/-- the law calls a wrapper -/
theorem l_callS (ok : OK X cc own ret rm post mc ms) (ex : EX X) {av2 : List Value} {post2 : Option Value → List va_E → Prop} (π : List Nat) (n : Nat) (hd : decode cc pc = .ok (.invokestatic idx, 3)) (hw : Cond.methodLink own idx y ∈ UG) (hsx : Cond.static y ∈ UG) (mi : MIW y cc2 nL2 ret2 hh n2) (ct : CtW X.1.2.1 y cc2 nL2 ret2 hh rm2 av2 M2 post2)
    (hroom : rm2.frames + 1 ≤ rm.frames ∧ 8 + (nL2 + 11) + rm2.locals ≤ rm.locals ∧ rm2.cells = 1 ∧ rm2.slots = 6) (hroom2 : kc + 1 ≤ rm.cells ∧ ks + 6 ≤ rm.slots) (hn2 : av2.length = n2) (hst : st = (av2.map (cv (rn π))).reverse ++ rest) (hrest : (rest.map fun v => v.category).sum ≤ 8)
    (hk2 : M2.length = n) (hfit : fitX π n M M2) (hn : (π.take n).Nodup) (hlen : ∀ v M', post2 v M' → M'.length = M2.length)
    (kk : ∀ v M', post2 v M' → AW X (kc + 1) (ks + 6) (pc + 3) L ((v.map (cv (rn π))).toList ++ rest) (pb π M M')) : AW X kc ks pc L st M := by
  obtain ⟨⟨p, l, e, R⟩, ⟨s, m, args, below⟩, ⟨meth, c, nL⟩, ⟨D, cT, ad⟩, A, Q⟩ := X
  obtain ⟨hx, hb, hml, ho, hts, hK, hA, -, hN, rfl, -⟩ := ok
  intro H locs ls hP hD hS hl
  subst hst
  have hst2 : List.map (cv ad) ((av2.map (cv (rn π))).reverse ++ rest) = (av2.map (cv (fun k => ad (rn π k)))).reverse ++ rest.map (cv ad) := by
    simp only [List.map_append, List.map_reverse, List.map_map]
    congr 2
    apply List.map_congr_left
    intro v _
    exact cv_cv ad π v
  have hsum : ((rest.map (cv ad)).map fun v => v.category).sum ≤ 8 := by
    rw [List.map_map]
    rw [show ((fun v : Value => v.category) ∘ cv ad) = fun v : Value => v.category from by funext v; exact cv_cat ad v]
    exact hrest
  exact l_after hA hfit hk2 hn hlen hP hD hS hl (av := (av2.map (cv (fun k => ad (rn π k)))).toArray) (vx_runSW (Ts := UG) (As := av2.map (cv (fun k => ad (rn π k)))) (n := n2) (nL := nL) ⟨hx, hb, hml, ho, hts⟩ (ct D cT (fun k => ad (rn π k)) H.size)
      (vx_cwSW n2 hts (fun w hw9 => by
        rcases List.mem_cons.mp (show w ∈ Cond.methodLink own idx y :: (Cond.static y :: (Cond.initialized y.cls :: (Cond.codeWith y cc2 nL2 ret2 hh :: UG))) by simpa [va_wsS] using hw9) with e9 | h9
        · exact e9 ▸ ug_good _ hw
        · rcases List.mem_cons.mp h9 with e9 | h9
          · exact e9 ▸ ug_good _ hsx
          · rcases List.mem_cons.mp h9 with e9 | h9
            · exact e9 ▸ ug_good _ mi.2.2.2
            · exact ug_goodIn mi.1 w h9) rfl hroom.2.2.1 hroom.2.2.2 mi.2.1 ⟨hroom.1, hroom.2.1⟩)
      ⟨pgX_blind, fun U hU hW => ⟨rfl, pgX_at ex hA hK hN hfit hn hP hD hS hU hW⟩⟩ rfl (by rw [List.length_map]; exact hn2) hl.1 hst2 (lv_room hsum) hd ⟨hroom2.1, hroom2.2⟩) kk
end WR
