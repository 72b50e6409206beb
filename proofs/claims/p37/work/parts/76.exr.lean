/-! EXCEPTIONS in the layer: calls that throw, and throws. -/
section RT2
variable {X : Cx} {cc : ByteArray} {own : String} {ret : Option FieldType} {rm : Room} {post : Option Value → List va_E → Prop} {mc ms pc : Nat} {L : List (Option Value)} {st : List Value} {M : List va_E} {E : String} {postX : List va_E → Prop}
variable {y : MethodName} {cc2 : ByteArray} {nL2 n2 idx : Nat} {ret2 : Option FieldType} {rm2 : Room} {M2 : List va_E} {postX2 : List va_E → Prop} {rest : List Value}
theorem pgX_at {p : Program} {l : Launch} {e : Env} {R : Room} {s : State} {m : MethodId} {args : Array Value} {below : List Frame} {meth : Method} {c : Code} {nL : Nat} {D : va_G} {cT : Nat → ClassId} {ad : Nat → Nat} {A : Nat → Prop} {Q : State → Prop} {H : Heap} {locs : List Loc} {π : List Nat} {n : Nat}
    (ex : EX ((p, l, e, R), (s, m, args, below), (meth, c, nL), (D, cT, ad), A, Q)) (hA : ∀ q, s.heap.size ≤ q → A q) (hK : va_K D classes (tysL cT) s) (hN : NW s) (hfit : fitX π n M M2) (hn : (π.take n).Nodup) (hP : va_P D classes (cw cT ad M) H) (hD : va_D A (cw cT ad M)) (hS : va_S A s.heap H locs)
    {U : State} (hU : U.heap = H) (hW : s.WarmedH U.vm) : pgX D cT (fun k => ad (rn π k)) H.size M2 U := by
  obtain ⟨-, ⟨x1, x2, x3⟩, z⟩ := ex
  refine ⟨⟨by rw [hU], by rw [hU]; exact fitX_P hfit hP, va_K.moved hW.alike hK, hN.moved hW, (fitX_D hfit hn hD).weaken (fun _ _ _ _ => trivial)⟩, ⟨x1.moved hW, x2.moved hW, x3.moved hW.alike⟩, ?_⟩
  rw [hU]
  exact ((z.kept hS.2.1).moved hW.alike).narrow (fitX_A hfit hD (fun q h => hA q (Nat.le_trans hS.1 h)))
theorem t_callV (ok : OK X cc own ret rm post mc ms) (ex : EX X) (tx : TX X E postX) {av2 : List Value} {ci q : Nat} {fs : List Value} (π : List Nat) (n : Nat) (hd : decode cc pc = .ok (.invokevirtual idx, 3)) (mv : MV own idx y) (mi : MI y cc2 nL2 ret2 n2) (ct : CtX X.1.2.1 y cc2 nL2 ret2 rm2 (.ref q :: av2) M2 E postX2)
    (hroom : rm2.frames + 1 ≤ rm.frames ∧ 8 + (nL2 + 11) + rm2.locals ≤ rm.locals ∧ rm2.cells = 1 ∧ rm2.slots = 6 ∧ 0 + 1 ≤ rm.cells ∧ 0 + 6 ≤ rm.slots) (hn2 : av2.length = n2) (hst : st = (av2.map (cv (rn π))).reverse ++ .ref (rn π q) :: rest) (hrest : (rest.map fun v => v.category).sum ≤ 8)
    (hk2 : M2.length = n) (hfit : fitX π n M M2) (hn : (π.take n).Nodup) (hcell : M2[q]? = some (.inr (ci, fs))) (hcls : (classes[ci]?).map (fun r => r.1) = some y.cls) (hlen : ∀ M', postX2 M' → M'.length = M2.length)
    (hpost : ∀ M', postX2 M' → postX (pb π M M')) : AW X 0 0 pc L st M := by
  obtain ⟨⟨p, l, e, R⟩, ⟨s, m, args, below⟩, ⟨meth, c, nL⟩, ⟨D, cT, ad⟩, A, Q⟩ := X
  obtain ⟨hx, hb, hml, ho, hts, hK, hA, hlk, hN, rfl, -⟩ := ok
  obtain ⟨htab, rfl⟩ := tx
  intro H locs ls hP hD hS hl
  subst hst
  obtain ⟨r, hr1, hr2⟩ : ∃ r, classes[ci]? = some r ∧ r.1 = y.cls := by
    cases h : classes[ci]? with
    | none => rw [h] at hcls; cases hcls
    | some r => rw [h] at hcls; exact ⟨r, rfl, Option.some.inj hcls⟩
  have hcw := cw_get (cT := cT) (ad := fun k => ad (rn π k)) hcell
  have hPc := fitX_P hfit hP
  refine t_after hA hlk htab hfit hk2 hn hlen hP hD hS (rest0 := rest.map (cv ad)) (av := (Value.ref (ad (rn π q)) :: av2.map (cv (fun k => ad (rn π k)))).toArray) (vx_runV (C := y.cls) (Ts := UG) (b := ad (rn π q)) (As := av2.map (cv (fun k => ad (rn π k)))) (n := n2) (nL := nL) ⟨hx, hb, hml, ho, hts⟩ (ct D cT (fun k => ad (rn π k)) H.size)
    ⟨callB_of n2 hts (ug_goodIn mi.1) rfl hroom.2.2.1 hroom.2.2.2.1 (hts _ mi.2.2.2) (hts _ mv.1) mi.2.1 ⟨hroom.1, hroom.2.1⟩, hts _ mv.2.1, hts _ mv.2.2⟩
    ⟨pgX_blind, ?_, fun U hU hW => ⟨rfl, pgX_at ex hA hK hN hfit hn hP hD hS hU hW⟩⟩ rfl (by rw [List.length_map]; exact hn2) hl.1 ?_ (lv_room ?_) hd ⟨hroom.2.2.2.2.1, hroom.2.2.2.2.2⟩) hpost
  · obtain ⟨cell, g1, g2, g3⟩ := va_recv hK hPc hr1 (hcw)
    exact ⟨cell, g1, g2, by rw [← hr2]; exact g3⟩
  · show List.map (cv ad) _ = _
    simp only [List.map_append, List.map_reverse, List.map_map, List.map_cons]
    congr 2
    apply List.map_congr_left
    intro v _
    exact cv_cv ad π v
  · rw [List.map_map]
    rw [show ((fun v : Value => v.category) ∘ cv ad) = fun v : Value => v.category from by funext v; exact cv_cat ad v]
    exact hrest
theorem t_callS (ok : OK X cc own ret rm post mc ms) (ex : EX X) (tx : TX X E postX) {av2 : List Value} (π : List Nat) (n : Nat) (hd : decode cc pc = .ok (.invokestatic idx, 3)) (hw : Cond.methodLink own idx y ∈ UG) (mv : MS own idx y) (mi : MI y cc2 nL2 ret2 n2) (ct : CtX X.1.2.1 y cc2 nL2 ret2 rm2 av2 M2 E postX2)
    (hroom : rm2.frames + 1 ≤ rm.frames ∧ 8 + (nL2 + 11) + rm2.locals ≤ rm.locals ∧ rm2.cells = 1 ∧ rm2.slots = 6 ∧ 0 + 1 ≤ rm.cells ∧ 0 + 6 ≤ rm.slots) (hn2 : av2.length = n2) (hst : st = (av2.map (cv (rn π))).reverse ++ rest) (hrest : (rest.map fun v => v.category).sum ≤ 8)
    (hk2 : M2.length = n) (hfit : fitX π n M M2) (hn : (π.take n).Nodup) (hlen : ∀ M', postX2 M' → M'.length = M2.length)
    (hpost : ∀ M', postX2 M' → postX (pb π M M')) : AW X 0 0 pc L st M := by
  obtain ⟨⟨p, l, e, R⟩, ⟨s, m, args, below⟩, ⟨meth, c, nL⟩, ⟨D, cT, ad⟩, A, Q⟩ := X
  obtain ⟨hx, hb, hml, ho, hts, hK, hA, hlk, hN, rfl, -⟩ := ok
  obtain ⟨htab, rfl⟩ := tx
  intro H locs ls hP hD hS hl
  subst hst
  refine t_after hA hlk htab hfit hk2 hn hlen hP hD hS (rest0 := rest.map (cv ad)) (av := (av2.map (cv (fun k => ad (rn π k)))).toArray) (vx_runS (Ts := UG) (As := av2.map (cv (fun k => ad (rn π k)))) (n := n2) (nL := nL) ⟨hx, hb, hml, ho, hts⟩ (ct D cT (fun k => ad (rn π k)) H.size)
    ⟨callB_of n2 hts (ug_goodIn mi.1) rfl hroom.2.2.1 hroom.2.2.2.1 (hts _ mi.2.2.2) (hts _ hw) mi.2.1 ⟨hroom.1, hroom.2.1⟩, hts _ mv.2⟩
    ⟨pgX_blind, fun U hU hW => ⟨rfl, pgX_at ex hA hK hN hfit hn hP hD hS hU hW⟩⟩ rfl (by rw [List.length_map]; exact hn2) hl.1 ?_ (lv_room ?_) hd ⟨hroom.2.2.2.2.1, hroom.2.2.2.2.2⟩) hpost
  · simp only [List.map_append, List.map_reverse, List.map_map]
    congr 2
    apply List.map_congr_left
    intro v _
    exact cv_cv ad π v
  · rw [List.map_map]
    rw [show ((fun v : Value => v.category) ∘ cv ad) = fun v : Value => v.category from by funext v; exact cv_cat ad v]
    exact hrest
/-- the words of a throw, by the tables -/
def thrW (ik ic : Nat) (E : String) : Prop := Bundle.fit E = true ∧ Cond.classLink RX6 ik E ∈ UG ∧ Cond.initialized E ∈ UG ∧ (∀ w ∈ vx_atS RX6 ic E nmL, w ∈ UG ∨ w ∈ xnL) ∧ ∀ w ∈ Cond.classLink RX6 ik E :: Cond.initialized E :: vx_atS RX6 ic E nmL, vx_ot w = true
theorem nm_fit : ∀ n ∈ nmL, Bundle.fit n = true := by decide +kernel
theorem t_heap {D : va_G} {ws : va_W} {H H1 : Heap} (hP : va_P D classes ws H) (hk : ∀ q : Nat, q < H.size → H1[q]? = H[q]?) : va_P D classes ws H1 := fun i q hq => (hP i q hq).kept (hk _ (hP i q hq).lt)
theorem t_hats {X : Cx} (ok : OK X cc own ret rm post mc ms) (ex : EX X) {ws : List Cond} (h : ∀ w ∈ ws, w ∈ UG ∨ w ∈ xnL) : ∀ w ∈ ws, w.before X.2.1.2.2.1 X.2.1.1 = true := by
  obtain ⟨⟨p, l, e, R⟩, ⟨s, m, args, below⟩, ⟨meth, c, nL⟩, ⟨D, cT, ad⟩, A, Q⟩ := X
  obtain ⟨-, -, -, -, hts, -⟩ := ok
  intro w hw
  rcases h w hw with z | z
  · exact hts w z
  · have h1 := ex.2.1.1 w z
    have h2 := (List.mem_filter.mp z).2
    refine va_Nw.use ?_ h1
    cases w <;> first | rfl | cases h2
theorem t_throwS (ok : OK X cc RX6 ret rm post mc ms) (ex : EX X) (tx : TX X E postX) {ik is ic : Nat} {text : String} (hw : thrW ik ic E) (hs : (is, text) ∈ txtL)
    (d0 : decode cc pc = .ok (.new ik, 3)) (d3 : decode cc (pc + 3) = .ok (.dup, 1)) (d4 : decode cc (pc + 4) = .ok (.ldc is, 2)) (d6 : decode cc (pc + 6) = .ok (.invokespecial ic, 3)) (d9 : decode cc (pc + 9) = .ok (.athrow, 1))
    (hroom : 5 < rm.frames ∧ 82 ≤ rm.locals ∧ 0 + 1 ≤ rm.cells ∧ 0 + 6 ≤ rm.slots) (hp : postX M) : AW X 0 0 pc L [] M := by
  have hat := t_hats ok ex hw.2.2.2.1
  obtain ⟨⟨p, l, e, R⟩, ⟨s, m, args, below⟩, ⟨meth, c, nL⟩, ⟨D, cT, ad⟩, A, Q⟩ := X
  obtain ⟨hx, hb, hml, ho, hts, hK, hA, hlk, hN, rfl, -⟩ := ok
  obtain ⟨htab, rfl⟩ := tx
  obtain ⟨hl0, ⟨x1, x2, x3⟩, zU, zN⟩ := ex
  obtain ⟨sa, hsa⟩ := x2 _ hs
  intro H locs ls hP hD hS hl
  exact vx_throwS (names := nmL) (A := A) hx hb hl0 ho hw.1 nm_fit (hts _ hw.2.1) (hts _ hw.2.2.1) hsa hat hw.2.2.2.2 zU zN hS (hl.1.trans hml.symm) d0 d3 d4 d6 d9 (fun x h => (htab x h).elim) hroom.1 (by simpa using hroom.2.1) hroom.2.2.1 hroom.2.2.2 hlk
    (fun t hal h1 h2 => ⟨rfl, ⟨M, hp, t_heap hP h2, va_K.moved hal hK, hD⟩, ⟨Nat.le_trans hS.1 h1, fun q a b => by rw [h2 q (Nat.lt_of_lt_of_le a hS.1)]; exact hS.2.1 q a b⟩⟩) hS.2.2 (Nat.le_refl _) (Nat.le_refl _)
theorem t_throwW (ok : OK X cc RX6 ret rm post mc ms) (ex : EX X) (tx : TX X E postX) {ik is ic : Nat} {text : String} (hw : thrW ik ic E) (hs : (is, text) ∈ txtL)
    (d0 : decode cc pc = .ok (.new ik, 3)) (d3 : decode cc (pc + 3) = .ok (.dup, 1)) (d4 : decode cc (pc + 4) = .ok (.ldc_w is, 3)) (d7 : decode cc (pc + 7) = .ok (.invokespecial ic, 3)) (d10 : decode cc (pc + 10) = .ok (.athrow, 1))
    (hroom : 5 < rm.frames ∧ 82 ≤ rm.locals ∧ 0 + 1 ≤ rm.cells ∧ 0 + 6 ≤ rm.slots) (hp : postX M) : AW X 0 0 pc L [] M := by
  have hat := t_hats ok ex hw.2.2.2.1
  obtain ⟨⟨p, l, e, R⟩, ⟨s, m, args, below⟩, ⟨meth, c, nL⟩, ⟨D, cT, ad⟩, A, Q⟩ := X
  obtain ⟨hx, hb, hml, ho, hts, hK, hA, hlk, hN, rfl, -⟩ := ok
  obtain ⟨htab, rfl⟩ := tx
  obtain ⟨hl0, ⟨x1, x2, x3⟩, zU, zN⟩ := ex
  obtain ⟨sa, hsa⟩ := x2 _ hs
  intro H locs ls hP hD hS hl
  exact vx_throwSW (names := nmL) (A := A) hx hb hl0 ho hw.1 nm_fit (hts _ hw.2.1) (hts _ hw.2.2.1) hsa hat hw.2.2.2.2 zU zN hS (hl.1.trans hml.symm) d0 d3 d4 d7 d10 (fun x h => (htab x h).elim) hroom.1 (by simpa using hroom.2.1) hroom.2.2.1 hroom.2.2.2 hlk
    (fun t hal h1 h2 => ⟨rfl, ⟨M, hp, t_heap hP h2, va_K.moved hal hK, hD⟩, ⟨Nat.le_trans hS.1 h1, fun q a b => by rw [h2 q (Nat.lt_of_lt_of_le a hS.1)]; exact hS.2.1 q a b⟩⟩) hS.2.2 (Nat.le_refl _) (Nat.le_refl _)
end RT2
theorem thr_and {ik ic : Nat} {E : String} (h1 : Cond.classLink RX6 ik E ∈ UG) (h2 : Cond.initialized E ∈ UG) (h0 : Bundle.fit E = true) (h3 : ((vx_atS RX6 ic E nmL).all fun w => (goodWord w && decide (w ∈ lw_tbl)) || (isXn w && decide (w ∈ tables_1))) = true) (h4 : ((Cond.classLink RX6 ik E :: Cond.initialized E :: vx_atS RX6 ic E nmL).all vx_ot) = true) : thrW ik ic E :=
  ⟨h0, h1, h2, fun w hw => by
    have := List.all_eq_true.mp h3 w hw
    simp only [Bool.or_eq_true, Bool.and_eq_true, decide_eq_true_eq] at this
    rcases this with ⟨a, b⟩ | ⟨a, b⟩
    · exact Or.inl (List.mem_filter.mpr ⟨b, a⟩)
    · exact Or.inr (List.mem_filter.mpr ⟨b, a⟩), List.all_eq_true.mp h4⟩
