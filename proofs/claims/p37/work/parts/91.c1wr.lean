/-! THE LAW'S WRAPPERS over one object. Printed by wip/p37/gen/mkwr.py. -/
section WR
variable {X : Cx} {cc : ByteArray} {own : String} {ret : Option FieldType} {rm : Room} {post : Option Value → List va_E → Prop} {mc ms kc ks pc : Nat} {L : List (Option Value)} {st : List Value} {M : List va_E} {E : String}
variable {y : MethodName} {cc2 : ByteArray} {nL2 n2 idx : Nat} {ret2 : Option FieldType} {rm2 : Room} {M2 : List va_E} {postX2 : List va_E → Prop} {rest : List Value} {hh : List (Nat × Nat × Nat × Nat)}
/-- the handler of the row x: it keeps the exception in a place, and hands a constant back -/
def hnd2 (own : String) (cc : ByteArray) (nL hp : Nat) (k : Int) : Prop :=
  (∃ (i : Fin 4) (j : Nat), decode cc hp = .ok (.astore_n i, 1) ∧ (i : Nat) < nL ∧ decode cc (hp + 1) = .ok (.ldc j, 2) ∧ Cond.constant own j (Int32.ofInt k) ∈ UG ∧ decode cc (hp + 3) = .ok (.ireturn, 1)) ∨
  (∃ (i : Nat) (j : Nat), decode cc hp = .ok (.astore i, 2) ∧ i < nL ∧ decode cc (hp + 2) = .ok (.ldc j, 2) ∧ Cond.constant own j (Int32.ofInt k) ∈ UG ∧ decode cc (hp + 4) = .ok (.ireturn, 1))
theorem w_callV2 (ok : OK X cc own (some .int) rm post 1 6) (ex : EX X) (tb : TB X hh) {av2 : List Value} {ci q : Nat} {fs : List Value} {k : Int} {name : String} {pre suf : List ExceptionTableEntry} {x : ExceptionTableEntry} (π : List Nat) (n : Nat) (hd : decode cc pc = .ok (.invokevirtual idx, 3)) (mv : MV own idx y) (mi : MI y cc2 nL2 ret2 n2) (ct : CtX X.1.2.1 y cc2 nL2 ret2 rm2 (.ref q :: av2) M2 E postX2)
    (hroom : rm2.frames + 1 ≤ rm.frames ∧ 8 + (nL2 + 11) + rm2.locals ≤ rm.locals ∧ rm2.cells = 1 ∧ rm2.slots = 6 ∧ 0 + 1 ≤ rm.cells ∧ 0 + 6 ≤ rm.slots) (hn2 : av2.length = n2) (hst : st = (av2.map (cv (rn π))).reverse ++ .ref (rn π q) :: rest) (hrest : (rest.map fun v => v.category).sum ≤ 8)
    (hk2 : M2.length = n) (hfit : fitX π n M M2) (hn : (π.take n).Nodup) (hcell : M2[q]? = some (.inr (ci, fs))) (hcls : (classes[ci]?).map (fun r => r.1) = some y.cls) (hlen : ∀ M', postX2 M' → M'.length = M2.length)
    (hsplit : tableOf hh = pre ++ x :: suf) (hpass : ∀ z ∈ pre, z.catchType ≠ 0 ∧ ∃ nm : String, Cond.classLink own z.catchType nm ∈ UG ∧ (E, nm) ∈ ncL) (hcov : covers x pc = true) (h0 : x.catchType ≠ 0) (hlink : Cond.classLink own x.catchType name ∈ UG) (hcast : Cond.castable E name ∈ xnL)
    (hhd : hnd2 own cc (nLof X) x.handlerPc k) (hpost : ∀ M', postX2 M' → post (some (iv k)) (pb π M M')) : AW X 0 0 pc L st M := by
  obtain ⟨⟨p, l, e, R⟩, ⟨s, m, args, below⟩, ⟨meth, c, nL⟩, ⟨D, cT, ad⟩, A, Q⟩ := X
  obtain ⟨hx, hb, hml, ho, hts, hK, hA, hlk, hN, rfl, hr0, hQ⟩ := ok
  intro H locs ls hP hD hS hl
  subst hst
  obtain ⟨r, hr1, hr2⟩ : ∃ r, classes[ci]? = some r ∧ r.1 = y.cls := by
    cases h : classes[ci]? with
    | none => rw [h] at hcls; cases hcls
    | some r => rw [h] at hcls; exact ⟨r, rfl, Option.some.inj hcls⟩
  have hcw := cw_get (cT := cT) (ad := fun k => ad (rn π k)) hcell
  have hPc := fitX_P hfit hP
  have hr := vx_runV (p := p) (l := l) (e := e) (R := R) (s := s) (m := m) (args := args) (below := below) (meth := meth) (c := c) (H := H) (locs := locs) (cells := 0) (slots := 0) (C := y.cls) (Ts := UG) (b := ad (rn π q)) (As := av2.map (cv (fun k => ad (rn π k)))) (n := n2) (nL := nL) (rest := rest.map (cv ad)) (g := F0 m pc ls (((av2.map (cv (rn π))).reverse ++ .ref (rn π q) :: rest).map (cv ad))) ⟨hx, hb, hml, ho, hts⟩ (ct D cT (fun k => ad (rn π k)) H.size)
    ⟨callB_of n2 hts (ug_goodIn mi.1) rfl hroom.2.2.1 hroom.2.2.2.1 (hts _ mi.2.2.2) (hts _ mv.1) mi.2.1 ⟨hroom.1, hroom.2.1⟩, hts _ mv.2.1, hts _ mv.2.2⟩
    ⟨pgX_blind, by
      obtain ⟨cell, g1, g2, g3⟩ := va_recv hK hPc hr1 (hcw)
      exact ⟨cell, g1, g2, by rw [← hr2]; exact g3⟩, fun U hU hW => ⟨rfl, pgX_at ex hA hK hN hfit hn hP hD hS hU hW⟩⟩ rfl (by rw [List.length_map]; exact hn2) hl.1 (by
      show List.map (cv ad) _ = _
      simp only [List.map_append, List.map_reverse, List.map_map, List.map_cons]
      congr 2
      apply List.map_congr_left
      intro v _
      exact cv_cv ad π v) (lv_room (by
      rw [List.map_map]
      rw [show ((fun v : Value => v.category) ∘ cv ad) = fun v : Value => v.category from by funext v; exact cv_cat ad v]
      exact hrest)) hd ⟨hroom.2.2.2.2.1, hroom.2.2.2.2.2⟩
  intro T hT Y
  rcases hr T hT Y with ⟨v, st₀, t, T', Lc, g0, Y', hL, e1, e2, hq, stp⟩ | ⟨q9, st₀, t, T', Lc, E', ce, g0, Y', hL, e1, e2, ⟨e3, ⟨M', hpx, hP', hK', hD'⟩, hz, hk⟩, hce, hcv, hcl, stp⟩
  · exact hq.elim
  subst e3
  rw [g0] at hz hk
  have hAA := fitX_A hfit (sz := H.size) hD (fun q h => hA q (Nat.le_trans hS.1 h))
  have hk1 : ∀ q : Nat, q < H.size → ¬ va_A (cw cT (fun k => ad (rn π k)) M2) H.size q → T'.heap[q]? = H[q]? := fun q a b => by rw [e1]; exact hk q a b
  have hS1 : va_S A s.heap T'.heap (locs ++ Lc) := ⟨Nat.le_trans hS.1 (by rw [e1]; exact hz), fun q h1 h2 => by rw [hk1 q (Nat.lt_of_lt_of_le h1 hS.1) (fun z => h2 (hAA q z))]; exact hS.2.1 q h1 h2, fun q hq => by
      rcases List.mem_append.mp hq with h | h
      · exact hS.2.2 q h
      · exact hAA _ (hL q h)⟩
  have hPn := pbX_P hfit hk2 hn (hlen _ hpx) hP hD hk1 (by rw [e1]; exact hP')
  have hDn : va_D A (cw cT ad (pb π M M')) := pb_D hD
  have fin : ∀ {pc9 : Nat} {ls9 : Array Slot}, decode cc pc9 = .ok (.ireturn, 1) → W p l e R s m args below meth c T'.heap (locs ++ Lc) (0 + 1) (0 + 6) Q (F0 m pc9 ls9 [.int (Int32.ofInt k)]) := fun h9 =>
    hQ T'.heap (locs ++ Lc) _ (W.iret hx hb hr0 (fun t ht hW => ⟨⟨some (iv k), pb π M M', rfl, hpost _ hpx, by rw [ht]; exact hPn, va_K.moved hW.alike hK, hDn⟩, hS1.F ht⟩) hS1.2.2 h9 hlk)
  have kk : W p l e R s m args below meth c T'.heap (locs ++ Lc) (0 + 1) (0 + 6) Q (F0 m x.handlerPc ls [.ref q9]) := by
    rcases hhd with ⟨i, j, d1, d2, d3, d5, d4⟩ | ⟨i, j, d1, d2, d3, d5, d4⟩
    · exact lv_astore_n hx hb d1 rfl hl d2 rfl fun ls' _ => lv_ldc hx hb ho (hts _ d5) d3 (fin d4)
    · exact lv_astore hx hb d1 hl d2 rfl fun ls' _ => lv_ldc hx hb ho (hts _ d5) d3 (fin d4)
  obtain ⟨t2, a1, b1⟩ := vx_catch (own := own) (name := name) (E := E') (ce := ce) (q := q9) (pc := pc) (rest := rest.map (cv ad)) ho pre x suf (tb.trans hsplit) (fun z hz => Or.inr ⟨(hpass z hz).1, by
      obtain ⟨nm, h1, h2⟩ := (hpass z hz).2
      exact ⟨nm, hts _ h1, ex.2.1.2.2 _ h2⟩⟩) hcov h0 (hts _ hlink) (va_Nw.use (w := Cond.castable E' name) rfl (ex.2.1.1 _ hcast)) (by rw [e1]; exact hce) hcv hcl kk T' rfl Y'
  exact ⟨t2, stp.trans a1, b1⟩
end WR
def hhL_parts : List (Nat × Nat × Nat × Nat) := [(0, 6, 7, 13), (0, 6, 11, 16)]
def rwL_parts : Room := { frames := 8, cells := 1, slots := 6, locals := 144 }
theorem miL_parts : MIW yL_parts cL_parts 4 (some .int) hhL_parts 3 := ⟨ug4 220 (by decide +kernel) rfl, by decide +kernel, by decide +kernel, ug1 0 (by decide +kernel) rfl⟩
def hhL_boxes : List (Nat × Nat × Nat × Nat) := [(0, 11, 12, 23), (0, 11, 17, 13)]
def rwL_boxes : Room := { frames := 8, cells := 1, slots := 6, locals := 147 }
theorem miL_boxes : MIW yL_boxes cL_boxes 7 (some .int) hhL_boxes 6 := ⟨ug4 211 (by decide +kernel) rfl, by decide +kernel, by decide +kernel, ug1 0 (by decide +kernel) rfl⟩
def hhL_noises : List (Nat × Nat × Nat × Nat) := [(0, 6, 7, 13)]
def rwL_noises : Room := { frames := 8, cells := 1, slots := 6, locals := 145 }
theorem miL_noises : MIW yL_noises cL_noises 5 (some .int) hhL_noises 3 := ⟨ug4 230 (by decide +kernel) rfl, by decide +kernel, by decide +kernel, ug1 0 (by decide +kernel) rfl⟩
def hhL_would : List (Nat × Nat × Nat × Nat) := [(0, 9, 10, 23), (0, 9, 15, 13)]
def rwL_would : Room := { frames := 8, cells := 1, slots := 6, locals := 201 }
theorem miL_would : MIW yL_would cL_would 6 (some .int) hhL_would 5 := ⟨ug5 5 (by decide +kernel) rfl, by decide +kernel, by decide +kernel, ug1 0 (by decide +kernel) rfl⟩
def hhL_doScript : List (Nat × Nat × Nat × Nat) := [(0, 6, 7, 13)]
def rwL_doScript : Room := { frames := 8, cells := 1, slots := 6, locals := 211 }
theorem miL_doScript : MIW yL_doScript cL_doScript 5 (some .int) hhL_doScript 3 := ⟨ug5 16 (by decide +kernel) rfl, by decide +kernel, by decide +kernel, ug1 0 (by decide +kernel) rfl⟩
def hhL_doSimulate : List (Nat × Nat × Nat × Nat) := [(0, 6, 7, 13)]
def rwL_doSimulate : Room := { frames := 8, cells := 1, slots := 6, locals := 183 }
theorem miL_doSimulate : MIW yL_doSimulate cL_doSimulate 5 (some .int) hhL_doSimulate 3 := ⟨ug5 37 (by decide +kernel) rfl, by decide +kernel, by decide +kernel, ug1 0 (by decide +kernel) rfl⟩
def hhL_tryAppend : List (Nat × Nat × Nat × Nat) := [(0, 5, 6, 13), (0, 5, 10, 16)]
def rwL_tryAppend : Room := { frames := 8, cells := 1, slots := 6, locals := 143 }
theorem miL_tryAppend : MIW yL_tryAppend cL_tryAppend 3 (some .int) hhL_tryAppend 2 := ⟨ug2 21 (by decide +kernel) rfl, by decide +kernel, by decide +kernel, ug1 0 (by decide +kernel) rfl⟩
def hhL_tryAbout : List (Nat × Nat × Nat × Nat) := [(0, 5, 6, 13)]
def rwL_tryAbout : Room := { frames := 9, cells := 1, slots := 6, locals := 219 }
theorem miL_tryAbout : MIW yL_tryAbout cL_tryAbout 3 (some .int) hhL_tryAbout 2 := ⟨ug3 35 (by decide +kernel) rfl, by decide +kernel, by decide +kernel, ug1 0 (by decide +kernel) rfl⟩
def hhL_tryCell : List (Nat × Nat × Nat × Nat) := [(0, 7, 8, 23), (0, 7, 13, 13)]
def rwL_tryCell : Room := { frames := 8, cells := 1, slots := 6, locals := 201 }
theorem miL_tryCell : MIW yL_tryCell cL_tryCell 5 (some .int) hhL_tryCell 4 := ⟨ug3 163 (by decide +kernel) rfl, by decide +kernel, by decide +kernel, ug1 0 (by decide +kernel) rfl⟩
def hhL_tryPart : List (Nat × Nat × Nat × Nat) := [(0, 5, 6, 23)]
def rwL_tryPart : Room := { frames := 8, cells := 1, slots := 6, locals := 141 }
theorem miL_tryPart : MIW yL_tryPart cL_tryPart 3 (some .int) hhL_tryPart 2 := ⟨ug3 208 (by decide +kernel) rfl, by decide +kernel, by decide +kernel, ug1 0 (by decide +kernel) rfl⟩
def hhL_tryIsle : List (Nat × Nat × Nat × Nat) := [(0, 6, 7, 23), (0, 6, 11, 13)]
def rwL_tryIsle : Room := { frames := 9, cells := 1, slots := 6, locals := 221 }
theorem miL_tryIsle : MIW yL_tryIsle cL_tryIsle 4 (some .int) hhL_tryIsle 3 := ⟨ug3 219 (by decide +kernel) rfl, by decide +kernel, by decide +kernel, ug1 0 (by decide +kernel) rfl⟩
def hhL_tryBorder : List (Nat × Nat × Nat × Nat) := [(0, 6, 7, 23)]
def rwL_tryBorder : Room := { frames := 8, cells := 1, slots := 6, locals := 200 }
theorem miL_tryBorder : MIW yL_tryBorder cL_tryBorder 4 (some .int) hhL_tryBorder 3 := ⟨ug4 11 (by decide +kernel) rfl, by decide +kernel, by decide +kernel, ug1 0 (by decide +kernel) rfl⟩
def hhL_tryOutline : List (Nat × Nat × Nat × Nat) := [(0, 6, 7, 23), (0, 6, 11, 13)]
def rwL_tryOutline : Room := { frames := 8, cells := 1, slots := 6, locals := 200 }
theorem miL_tryOutline : MIW yL_tryOutline cL_tryOutline 4 (some .int) hhL_tryOutline 3 := ⟨ug4 22 (by decide +kernel) rfl, by decide +kernel, by decide +kernel, ug1 0 (by decide +kernel) rfl⟩
def hhL_tryWay : List (Nat × Nat × Nat × Nat) := [(0, 6, 7, 23)]
def rwL_tryWay : Room := { frames := 8, cells := 1, slots := 6, locals := 200 }
theorem miL_tryWay : MIW yL_tryWay cL_tryWay 4 (some .int) hhL_tryWay 3 := ⟨ug4 49 (by decide +kernel) rfl, by decide +kernel, by decide +kernel, ug1 0 (by decide +kernel) rfl⟩
def hhL_tryBand : List (Nat × Nat × Nat × Nat) := [(0, 6, 7, 23), (0, 6, 11, 13)]
def rwL_tryBand : Room := { frames := 8, cells := 1, slots := 6, locals := 199 }
theorem miL_tryBand : MIW yL_tryBand cL_tryBand 4 (some .int) hhL_tryBand 3 := ⟨ug4 56 (by decide +kernel) rfl, by decide +kernel, by decide +kernel, ug1 0 (by decide +kernel) rfl⟩
def hhL_tryPlate : List (Nat × Nat × Nat × Nat) := [(0, 6, 7, 13)]
def rwL_tryPlate : Room := { frames := 8, cells := 1, slots := 6, locals := 144 }
theorem miL_tryPlate : MIW yL_tryPlate cL_tryPlate 4 (some .int) hhL_tryPlate 3 := ⟨ug4 72 (by decide +kernel) rfl, by decide +kernel, by decide +kernel, ug1 0 (by decide +kernel) rfl⟩
def hhL_tryPaint : List (Nat × Nat × Nat × Nat) := [(0, 7, 8, 23), (0, 7, 13, 13)]
def rwL_tryPaint : Room := { frames := 8, cells := 1, slots := 6, locals := 145 }
theorem miL_tryPaint : MIW yL_tryPaint cL_tryPaint 5 (some .int) hhL_tryPaint 4 := ⟨ug4 94 (by decide +kernel) rfl, by decide +kernel, by decide +kernel, ug1 0 (by decide +kernel) rfl⟩
def hhL_tryShare : List (Nat × Nat × Nat × Nat) := [(0, 5, 6, 13)]
def rwL_tryShare : Room := { frames := 8, cells := 1, slots := 6, locals := 143 }
theorem miL_tryShare : MIW yL_tryShare cL_tryShare 3 (some .int) hhL_tryShare 2 := ⟨ug4 102 (by decide +kernel) rfl, by decide +kernel, by decide +kernel, ug1 0 (by decide +kernel) rfl⟩
def hhL_tryLeast : List (Nat × Nat × Nat × Nat) := [(0, 5, 6, 13)]
def rwL_tryLeast : Room := { frames := 8, cells := 1, slots := 6, locals := 144 }
theorem miL_tryLeast : MIW yL_tryLeast cL_tryLeast 3 (some .int) hhL_tryLeast 2 := ⟨ug4 121 (by decide +kernel) rfl, by decide +kernel, by decide +kernel, ug1 0 (by decide +kernel) rfl⟩
def hhL_tryHatch : List (Nat × Nat × Nat × Nat) := [(0, 6, 7, 23), (0, 6, 11, 13)]
def rwL_tryHatch : Room := { frames := 8, cells := 1, slots := 6, locals := 145 }
theorem miL_tryHatch : MIW yL_tryHatch cL_tryHatch 4 (some .int) hhL_tryHatch 3 := ⟨ug4 128 (by decide +kernel) rfl, by decide +kernel, by decide +kernel, ug1 0 (by decide +kernel) rfl⟩
def hhL_tryLine : List (Nat × Nat × Nat × Nat) := [(0, 5, 6, 13)]
def rwL_tryLine : Room := { frames := 8, cells := 1, slots := 6, locals := 144 }
theorem miL_tryLine : MIW yL_tryLine cL_tryLine 3 (some .int) hhL_tryLine 2 := ⟨ug4 135 (by decide +kernel) rfl, by decide +kernel, by decide +kernel, ug1 0 (by decide +kernel) rfl⟩
def hhL_trySpread : List (Nat × Nat × Nat × Nat) := [(0, 5, 6, 13)]
def rwL_trySpread : Room := { frames := 8, cells := 1, slots := 6, locals := 143 }
theorem miL_trySpread : MIW yL_trySpread cL_trySpread 3 (some .int) hhL_trySpread 2 := ⟨ug4 142 (by decide +kernel) rfl, by decide +kernel, by decide +kernel, ug1 0 (by decide +kernel) rfl⟩
def hhL_tryUndo : List (Nat × Nat × Nat × Nat) := [(0, 4, 5, 16)]
def rwL_tryUndo : Room := { frames := 7, cells := 1, slots := 6, locals := 122 }
theorem miL_tryUndo : MIW yL_tryUndo cL_tryUndo 2 (some .int) hhL_tryUndo 1 := ⟨ug4 150 (by decide +kernel) rfl, by decide +kernel, by decide +kernel, ug1 0 (by decide +kernel) rfl⟩
def hhL_tryIf : List (Nat × Nat × Nat × Nat) := [(0, 6, 7, 13)]
def rwL_tryIf : Room := { frames := 8, cells := 1, slots := 6, locals := 179 }
theorem miL_tryIf : MIW yL_tryIf cL_tryIf 4 (some .int) hhL_tryIf 3 := ⟨ug4 162 (by decide +kernel) rfl, by decide +kernel, by decide +kernel, ug1 0 (by decide +kernel) rfl⟩
def hhL_tryFor : List (Nat × Nat × Nat × Nat) := [(0, 5, 6, 13)]
def rwL_tryFor : Room := { frames := 8, cells := 1, slots := 6, locals := 179 }
theorem miL_tryFor : MIW yL_tryFor cL_tryFor 3 (some .int) hhL_tryFor 2 := ⟨ug4 174 (by decide +kernel) rfl, by decide +kernel, by decide +kernel, ug1 0 (by decide +kernel) rfl⟩
def hhL_tryBest : List (Nat × Nat × Nat × Nat) := [(0, 5, 6, 23)]
def rwL_tryBest : Room := { frames := 8, cells := 1, slots := 6, locals := 185 }
theorem miL_tryBest : MIW yL_tryBest cL_tryBest 3 (some .int) hhL_tryBest 2 := ⟨ug4 182 (by decide +kernel) rfl, by decide +kernel, by decide +kernel, ug1 0 (by decide +kernel) rfl⟩
def hhL_tryKeep : List (Nat × Nat × Nat × Nat) := [(0, 5, 6, 23)]
def rwL_tryKeep : Room := { frames := 8, cells := 1, slots := 6, locals := 141 }
theorem miL_tryKeep : MIW yL_tryKeep cL_tryKeep 3 (some .int) hhL_tryKeep 2 := ⟨ug4 196 (by decide +kernel) rfl, by decide +kernel, by decide +kernel, ug1 0 (by decide +kernel) rfl⟩
def hhL_tryBack : List (Nat × Nat × Nat × Nat) := [(0, 5, 6, 23), (0, 5, 10, 16)]
def rwL_tryBack : Room := { frames := 8, cells := 1, slots := 6, locals := 141 }
theorem miL_tryBack : MIW yL_tryBack cL_tryBack 3 (some .int) hhL_tryBack 2 := ⟨ug4 203 (by decide +kernel) rfl, by decide +kernel, by decide +kernel, ug1 0 (by decide +kernel) rfl⟩
section WW1
variable {l : Launch} {M : List va_E} {fs : List Value} {P : List va_E → Prop}
theorem dL_parts_0 : decode cL_parts 0 = .ok (.aload_n 0, 1) := by decide +kernel
theorem dL_parts_1 : decode cL_parts 1 = .ok (.iload_n 1, 1) := by decide +kernel
theorem dL_parts_2 : decode cL_parts 2 = .ok (.iload_n 2, 1) := by decide +kernel
theorem dL_parts_3 : decode cL_parts 3 = .ok (.invokevirtual 7, 3) := by decide +kernel
theorem dL_parts_6 : decode cL_parts 6 = .ok (.ireturn, 1) := by decide +kernel
theorem dL_parts_7 : decode cL_parts 7 = .ok (.astore_n 3, 1) := by decide +kernel
theorem dL_parts_8 : decode cL_parts 8 = .ok (.ldc 15, 2) := by decide +kernel
theorem dL_parts_10 : decode cL_parts 10 = .ok (.ireturn, 1) := by decide +kernel
theorem dL_parts_11 : decode cL_parts 11 = .ok (.astore_n 3, 1) := by decide +kernel
theorem dL_parts_12 : decode cL_parts 12 = .ok (.ldc 18, 2) := by decide +kernel
theorem dL_parts_14 : decode cL_parts 14 = .ok (.ireturn, 1) := by decide +kernel
theorem t_parts (hl : l.stackTraces = false) {a1 a2 : Int} {z : Int} (hM : M.length = 103) (hkc : kcM 103 M) (hob : M[0]? = some (.inr (6, fs))) (ct : Ct l yX6_threshold cX6_threshold 3 (some .int) rmX6_threshold [.ref 0, iv a1, iv a2] M (fun v M9 => v = some (iv z) ∧ P M9)) (hP : ∀ M9, P M9 → M9.length = 103 ∧ kcM 103 M9) :
    CtW l yL_parts cL_parts 4 (some .int) hhL_parts rwL_parts [.ref 0, iv a1, iv a2] M (fun v M8 => v = some (iv z) ∧ P M8) := by
  refine CtW.of hl miL_parts (Nat.le_of_ble_eq_true rfl) ?_
  intro X hXl hN ok ex tb
  subst hXl
  refine AW.cast (L2 := [some (.ref 0), some (iv a1), some (iv a2), none]) ?_ rfl rfl rfl
  refine a_aload_n (pc := 0) ok dL_parts_0 rfl ?_
  refine a_iload_n (pc := 1) ok dL_parts_1 rfl ?_
  refine a_iload_n (pc := 2) ok dL_parts_2 rfl ?_
  refine x_callV (pc := 3) ok (List.range' 0 103) 103 dL_parts_3 mvL_7 miX6_threshold ct ⟨by decide, by decide, rfl, rfl, Nat.zero_le _, Nat.zero_le _⟩ rfl rfl (Nat.le_of_ble_eq_true rfl) hM (fit_1 hM hkc) (nd_1 _) hob rfl (fun v M9 h9 => by rw [(hP _ h9.2).1, hM]) ?_
  rintro _ M' ⟨rfl, hp⟩
  refine AW.cast (st2 := [iv z]) (M2 := M') ?_ rfl rfl (pb_1 hM (hP _ hp).1 (hP _ hp).2)
  refine AW.widen (kc2 := 1) (ks2 := 6) (Nat.zero_le _) (Nat.zero_le _) ?_
  exact a_iret (pc := 6) ok dL_parts_6 (⟨rfl, hp⟩)
theorem tx_parts1 (hl : l.stackTraces = false) {a1 a2 : Int} (hM : M.length = 103) (hkc : kcM 103 M) (hob : M[0]? = some (.inr (6, fs))) (ct : CtX l yX6_threshold cX6_threshold 3 (some .int) rxthreshold [.ref 0, iv a1, iv a2] M nIA P) (hP : ∀ M9, P M9 → M9.length = 103 ∧ kcM 103 M9) :
    CtW l yL_parts cL_parts 4 (some .int) hhL_parts rwL_parts [.ref 0, iv a1, iv a2] M (fun v M8 => v = some (iv (-9999002)) ∧ P M8) := by
  refine CtW.of hl miL_parts (Nat.le_of_ble_eq_true rfl) ?_
  intro X hXl hN ok ex tb
  subst hXl
  refine AW.cast (L2 := [some (.ref 0), some (iv a1), some (iv a2), none]) ?_ rfl rfl rfl
  refine a_aload_n (pc := 0) ok dL_parts_0 rfl ?_
  refine a_iload_n (pc := 1) ok dL_parts_1 rfl ?_
  refine a_iload_n (pc := 2) ok dL_parts_2 rfl ?_
  exact w_callV2 (pc := 3) (hh := hhL_parts) (k := -9999002) (name := nIA) (pre := []) (suf := [⟨0, 6, 11, 16⟩]) (x := ⟨0, 6, 7, 13⟩) ok ex tb (List.range' 0 103) 103 dL_parts_3 mvL_7 miX6_threshold ct ⟨by decide, by decide, rfl, rfl, by decide, by decide⟩ rfl rfl (Nat.le_of_ble_eq_true rfl) hM (fit_1 hM hkc) (nd_1 _) hob rfl (fun M9 h9 => by rw [(hP _ h9).1, hM]) rfl (fun z hz => nomatch hz) (by decide) (by decide) (ug2 22 (by decide +kernel) rfl) cast_nIA (Or.inl ⟨3, 15, dL_parts_7, by rw [hN]; decide, dL_parts_8, ug2 127 (by decide +kernel) rfl, dL_parts_10⟩) (fun M9 h9 => ⟨rfl, by rw [pb_1 hM (hP _ h9).1 (hP _ h9).2]; exact h9⟩)
theorem tx_parts2 (hl : l.stackTraces = false) {a1 a2 : Int} (hM : M.length = 103) (hkc : kcM 103 M) (hob : M[0]? = some (.inr (6, fs))) (ct : CtX l yX6_threshold cX6_threshold 3 (some .int) rxthreshold [.ref 0, iv a1, iv a2] M nIS P) (hP : ∀ M9, P M9 → M9.length = 103 ∧ kcM 103 M9) :
    CtW l yL_parts cL_parts 4 (some .int) hhL_parts rwL_parts [.ref 0, iv a1, iv a2] M (fun v M8 => v = some (iv (-9999003)) ∧ P M8) := by
  refine CtW.of hl miL_parts (Nat.le_of_ble_eq_true rfl) ?_
  intro X hXl hN ok ex tb
  subst hXl
  refine AW.cast (L2 := [some (.ref 0), some (iv a1), some (iv a2), none]) ?_ rfl rfl rfl
  refine a_aload_n (pc := 0) ok dL_parts_0 rfl ?_
  refine a_iload_n (pc := 1) ok dL_parts_1 rfl ?_
  refine a_iload_n (pc := 2) ok dL_parts_2 rfl ?_
  exact w_callV2 (pc := 3) (hh := hhL_parts) (k := -9999003) (name := nIS) (pre := [⟨0, 6, 7, 13⟩]) (suf := []) (x := ⟨0, 6, 11, 16⟩) ok ex tb (List.range' 0 103) 103 dL_parts_3 mvL_7 miX6_threshold ct ⟨by decide, by decide, rfl, rfl, by decide, by decide⟩ rfl rfl (Nat.le_of_ble_eq_true rfl) hM (fit_1 hM hkc) (nd_1 _) hob rfl (fun M9 h9 => by rw [(hP _ h9).1, hM]) rfl (fun z hz => by cases List.mem_singleton.mp hz; exact ⟨by decide, nIA, ug2 22 (by decide +kernel) rfl, by decide +kernel⟩) (by decide) (by decide) (ug2 23 (by decide +kernel) rfl) cast_nIS (Or.inl ⟨3, 18, dL_parts_11, by rw [hN]; decide, dL_parts_12, ug2 128 (by decide +kernel) rfl, dL_parts_14⟩) (fun M9 h9 => ⟨rfl, by rw [pb_1 hM (hP _ h9).1 (hP _ h9).2]; exact h9⟩)
theorem dL_boxes_0 : decode cL_boxes 0 = .ok (.aload_n 0, 1) := by decide +kernel
theorem dL_boxes_1 : decode cL_boxes 1 = .ok (.iload_n 1, 1) := by decide +kernel
theorem dL_boxes_2 : decode cL_boxes 2 = .ok (.iload_n 2, 1) := by decide +kernel
theorem dL_boxes_3 : decode cL_boxes 3 = .ok (.iload_n 3, 1) := by decide +kernel
theorem dL_boxes_4 : decode cL_boxes 4 = .ok (.iload 4, 2) := by decide +kernel
theorem dL_boxes_6 : decode cL_boxes 6 = .ok (.iload 5, 2) := by decide +kernel
theorem dL_boxes_8 : decode cL_boxes 8 = .ok (.invokevirtual 19, 3) := by decide +kernel
theorem dL_boxes_11 : decode cL_boxes 11 = .ok (.ireturn, 1) := by decide +kernel
theorem dL_boxes_12 : decode cL_boxes 12 = .ok (.astore 6, 2) := by decide +kernel
theorem dL_boxes_14 : decode cL_boxes 14 = .ok (.ldc 25, 2) := by decide +kernel
theorem dL_boxes_16 : decode cL_boxes 16 = .ok (.ireturn, 1) := by decide +kernel
theorem dL_boxes_17 : decode cL_boxes 17 = .ok (.astore 6, 2) := by decide +kernel
theorem dL_boxes_19 : decode cL_boxes 19 = .ok (.ldc 15, 2) := by decide +kernel
theorem dL_boxes_21 : decode cL_boxes 21 = .ok (.ireturn, 1) := by decide +kernel
theorem t_boxes (hl : l.stackTraces = false) {a1 a2 a3 a4 a5 : Int} {z : Int} (hM : M.length = 103) (hkc : kcM 103 M) (hob : M[0]? = some (.inr (6, fs))) (ct : Ct l yX6_box cX6_box 6 (some .int) rmX6_box [.ref 0, iv a1, iv a2, iv a3, iv a4, iv a5] M (fun v M9 => v = some (iv z) ∧ P M9)) (hP : ∀ M9, P M9 → M9.length = 103 ∧ kcM 103 M9) :
    CtW l yL_boxes cL_boxes 7 (some .int) hhL_boxes rwL_boxes [.ref 0, iv a1, iv a2, iv a3, iv a4, iv a5] M (fun v M8 => v = some (iv z) ∧ P M8) := by
  refine CtW.of hl miL_boxes (Nat.le_of_ble_eq_true rfl) ?_
  intro X hXl hN ok ex tb
  subst hXl
  refine AW.cast (L2 := [some (.ref 0), some (iv a1), some (iv a2), some (iv a3), some (iv a4), some (iv a5), none]) ?_ rfl rfl rfl
  refine a_aload_n (pc := 0) ok dL_boxes_0 rfl ?_
  refine a_iload_n (pc := 1) ok dL_boxes_1 rfl ?_
  refine a_iload_n (pc := 2) ok dL_boxes_2 rfl ?_
  refine a_iload_n (pc := 3) ok dL_boxes_3 rfl ?_
  refine a_iload (pc := 4) ok dL_boxes_4 rfl ?_
  refine a_iload (pc := 6) ok dL_boxes_6 rfl ?_
  refine x_callV (pc := 8) ok (List.range' 0 103) 103 dL_boxes_8 mvL_19 miX6_box ct ⟨by decide, by decide, rfl, rfl, Nat.zero_le _, Nat.zero_le _⟩ rfl rfl (Nat.le_of_ble_eq_true rfl) hM (fit_1 hM hkc) (nd_1 _) hob rfl (fun v M9 h9 => by rw [(hP _ h9.2).1, hM]) ?_
  rintro _ M' ⟨rfl, hp⟩
  refine AW.cast (st2 := [iv z]) (M2 := M') ?_ rfl rfl (pb_1 hM (hP _ hp).1 (hP _ hp).2)
  refine AW.widen (kc2 := 1) (ks2 := 6) (Nat.zero_le _) (Nat.zero_le _) ?_
  exact a_iret (pc := 11) ok dL_boxes_11 (⟨rfl, hp⟩)
theorem tx_boxes1 (hl : l.stackTraces = false) {a1 a2 a3 a4 a5 : Int} (hM : M.length = 103) (hkc : kcM 103 M) (hob : M[0]? = some (.inr (6, fs))) (ct : CtX l yX6_box cX6_box 6 (some .int) rxbox [.ref 0, iv a1, iv a2, iv a3, iv a4, iv a5] M nIO P) (hP : ∀ M9, P M9 → M9.length = 103 ∧ kcM 103 M9) :
    CtW l yL_boxes cL_boxes 7 (some .int) hhL_boxes rwL_boxes [.ref 0, iv a1, iv a2, iv a3, iv a4, iv a5] M (fun v M8 => v = some (iv (-9999001)) ∧ P M8) := by
  refine CtW.of hl miL_boxes (Nat.le_of_ble_eq_true rfl) ?_
  intro X hXl hN ok ex tb
  subst hXl
  refine AW.cast (L2 := [some (.ref 0), some (iv a1), some (iv a2), some (iv a3), some (iv a4), some (iv a5), none]) ?_ rfl rfl rfl
  refine a_aload_n (pc := 0) ok dL_boxes_0 rfl ?_
  refine a_iload_n (pc := 1) ok dL_boxes_1 rfl ?_
  refine a_iload_n (pc := 2) ok dL_boxes_2 rfl ?_
  refine a_iload_n (pc := 3) ok dL_boxes_3 rfl ?_
  refine a_iload (pc := 4) ok dL_boxes_4 rfl ?_
  refine a_iload (pc := 6) ok dL_boxes_6 rfl ?_
  exact w_callV2 (pc := 8) (hh := hhL_boxes) (k := -9999001) (name := nIO) (pre := []) (suf := [⟨0, 11, 17, 13⟩]) (x := ⟨0, 11, 12, 23⟩) ok ex tb (List.range' 0 103) 103 dL_boxes_8 mvL_19 miX6_box ct ⟨by decide, by decide, rfl, rfl, by decide, by decide⟩ rfl rfl (Nat.le_of_ble_eq_true rfl) hM (fit_1 hM hkc) (nd_1 _) hob rfl (fun M9 h9 => by rw [(hP _ h9).1, hM]) rfl (fun z hz => nomatch hz) (by decide) (by decide) (ug3 164 (by decide +kernel) rfl) cast_nIO (Or.inr ⟨6, 25, dL_boxes_12, by rw [hN]; decide, dL_boxes_14, ug3 205 (by decide +kernel) rfl, dL_boxes_16⟩) (fun M9 h9 => ⟨rfl, by rw [pb_1 hM (hP _ h9).1 (hP _ h9).2]; exact h9⟩)
theorem tx_boxes2 (hl : l.stackTraces = false) {a1 a2 a3 a4 a5 : Int} (hM : M.length = 103) (hkc : kcM 103 M) (hob : M[0]? = some (.inr (6, fs))) (ct : CtX l yX6_box cX6_box 6 (some .int) rxbox [.ref 0, iv a1, iv a2, iv a3, iv a4, iv a5] M nIA P) (hP : ∀ M9, P M9 → M9.length = 103 ∧ kcM 103 M9) :
    CtW l yL_boxes cL_boxes 7 (some .int) hhL_boxes rwL_boxes [.ref 0, iv a1, iv a2, iv a3, iv a4, iv a5] M (fun v M8 => v = some (iv (-9999002)) ∧ P M8) := by
  refine CtW.of hl miL_boxes (Nat.le_of_ble_eq_true rfl) ?_
  intro X hXl hN ok ex tb
  subst hXl
  refine AW.cast (L2 := [some (.ref 0), some (iv a1), some (iv a2), some (iv a3), some (iv a4), some (iv a5), none]) ?_ rfl rfl rfl
  refine a_aload_n (pc := 0) ok dL_boxes_0 rfl ?_
  refine a_iload_n (pc := 1) ok dL_boxes_1 rfl ?_
  refine a_iload_n (pc := 2) ok dL_boxes_2 rfl ?_
  refine a_iload_n (pc := 3) ok dL_boxes_3 rfl ?_
  refine a_iload (pc := 4) ok dL_boxes_4 rfl ?_
  refine a_iload (pc := 6) ok dL_boxes_6 rfl ?_
  exact w_callV2 (pc := 8) (hh := hhL_boxes) (k := -9999002) (name := nIA) (pre := [⟨0, 11, 12, 23⟩]) (suf := []) (x := ⟨0, 11, 17, 13⟩) ok ex tb (List.range' 0 103) 103 dL_boxes_8 mvL_19 miX6_box ct ⟨by decide, by decide, rfl, rfl, by decide, by decide⟩ rfl rfl (Nat.le_of_ble_eq_true rfl) hM (fit_1 hM hkc) (nd_1 _) hob rfl (fun M9 h9 => by rw [(hP _ h9).1, hM]) rfl (fun z hz => by cases List.mem_singleton.mp hz; exact ⟨by decide, nIO, ug3 164 (by decide +kernel) rfl, by decide +kernel⟩) (by decide) (by decide) (ug2 22 (by decide +kernel) rfl) cast_nIA (Or.inr ⟨6, 15, dL_boxes_17, by rw [hN]; decide, dL_boxes_19, ug2 127 (by decide +kernel) rfl, dL_boxes_21⟩) (fun M9 h9 => ⟨rfl, by rw [pb_1 hM (hP _ h9).1 (hP _ h9).2]; exact h9⟩)
theorem dL_noises_0 : decode cL_noises 0 = .ok (.aload_n 0, 1) := by decide +kernel
theorem dL_noises_1 : decode cL_noises 1 = .ok (.lload_n 1, 1) := by decide +kernel
theorem dL_noises_2 : decode cL_noises 2 = .ok (.iload_n 3, 1) := by decide +kernel
theorem dL_noises_3 : decode cL_noises 3 = .ok (.invokevirtual 26, 3) := by decide +kernel
theorem dL_noises_6 : decode cL_noises 6 = .ok (.ireturn, 1) := by decide +kernel
theorem dL_noises_7 : decode cL_noises 7 = .ok (.astore 4, 2) := by decide +kernel
theorem dL_noises_9 : decode cL_noises 9 = .ok (.ldc 15, 2) := by decide +kernel
theorem dL_noises_11 : decode cL_noises 11 = .ok (.ireturn, 1) := by decide +kernel
theorem t_noises (hl : l.stackTraces = false) {a1 a2 : Int} {z : Int} (hM : M.length = 103) (hkc : kcM 103 M) (hob : M[0]? = some (.inr (6, fs))) (ct : Ct l yX6_noise cX6_noise 4 (some .int) rmX6_noise [.ref 0, jv a1, iv a2] M (fun v M9 => v = some (iv z) ∧ P M9)) (hP : ∀ M9, P M9 → M9.length = 103 ∧ kcM 103 M9) :
    CtW l yL_noises cL_noises 5 (some .int) hhL_noises rwL_noises [.ref 0, jv a1, iv a2] M (fun v M8 => v = some (iv z) ∧ P M8) := by
  refine CtW.of hl miL_noises (Nat.le_of_ble_eq_true rfl) ?_
  intro X hXl hN ok ex tb
  subst hXl
  refine AW.cast (L2 := [some (.ref 0), some (jv a1), none, some (iv a2), none]) ?_ rfl rfl rfl
  refine a_aload_n (pc := 0) ok dL_noises_0 rfl ?_
  refine a_lload_n (pc := 1) ok dL_noises_1 rfl ?_
  refine a_iload_n (pc := 2) ok dL_noises_2 rfl ?_
  refine x_callV (pc := 3) ok (List.range' 0 103) 103 dL_noises_3 mvL_26 miX6_noise ct ⟨by decide, by decide, rfl, rfl, Nat.zero_le _, Nat.zero_le _⟩ rfl rfl (Nat.le_of_ble_eq_true rfl) hM (fit_1 hM hkc) (nd_1 _) hob rfl (fun v M9 h9 => by rw [(hP _ h9.2).1, hM]) ?_
  rintro _ M' ⟨rfl, hp⟩
  refine AW.cast (st2 := [iv z]) (M2 := M') ?_ rfl rfl (pb_1 hM (hP _ hp).1 (hP _ hp).2)
  refine AW.widen (kc2 := 1) (ks2 := 6) (Nat.zero_le _) (Nat.zero_le _) ?_
  exact a_iret (pc := 6) ok dL_noises_6 (⟨rfl, hp⟩)
theorem tx_noises (hl : l.stackTraces = false) {a1 a2 : Int} (hM : M.length = 103) (hkc : kcM 103 M) (hob : M[0]? = some (.inr (6, fs))) (ct : CtX l yX6_noise cX6_noise 4 (some .int) rxnoise [.ref 0, jv a1, iv a2] M nIA P) (hP : ∀ M9, P M9 → M9.length = 103 ∧ kcM 103 M9) :
    CtW l yL_noises cL_noises 5 (some .int) hhL_noises rwL_noises [.ref 0, jv a1, iv a2] M (fun v M8 => v = some (iv (-9999002)) ∧ P M8) := by
  refine CtW.of hl miL_noises (Nat.le_of_ble_eq_true rfl) ?_
  intro X hXl hN ok ex tb
  subst hXl
  refine AW.cast (L2 := [some (.ref 0), some (jv a1), none, some (iv a2), none]) ?_ rfl rfl rfl
  refine a_aload_n (pc := 0) ok dL_noises_0 rfl ?_
  refine a_lload_n (pc := 1) ok dL_noises_1 rfl ?_
  refine a_iload_n (pc := 2) ok dL_noises_2 rfl ?_
  exact w_callV2 (pc := 3) (hh := hhL_noises) (k := -9999002) (name := nIA) (pre := []) (suf := []) (x := ⟨0, 6, 7, 13⟩) ok ex tb (List.range' 0 103) 103 dL_noises_3 mvL_26 miX6_noise ct ⟨by decide, by decide, rfl, rfl, by decide, by decide⟩ rfl rfl (Nat.le_of_ble_eq_true rfl) hM (fit_1 hM hkc) (nd_1 _) hob rfl (fun M9 h9 => by rw [(hP _ h9).1, hM]) rfl (fun z hz => nomatch hz) (by decide) (by decide) (ug2 22 (by decide +kernel) rfl) cast_nIA (Or.inr ⟨4, 15, dL_noises_7, by rw [hN]; decide, dL_noises_9, ug2 127 (by decide +kernel) rfl, dL_noises_11⟩) (fun M9 h9 => ⟨rfl, by rw [pb_1 hM (hP _ h9).1 (hP _ h9).2]; exact h9⟩)
theorem dL_would_0 : decode cL_would 0 = .ok (.aload_n 0, 1) := by decide +kernel
theorem dL_would_1 : decode cL_would 1 = .ok (.iload_n 1, 1) := by decide +kernel
theorem dL_would_2 : decode cL_would 2 = .ok (.iload_n 2, 1) := by decide +kernel
theorem dL_would_3 : decode cL_would 3 = .ok (.iload_n 3, 1) := by decide +kernel
theorem dL_would_4 : decode cL_would 4 = .ok (.iload 4, 2) := by decide +kernel
theorem dL_would_6 : decode cL_would 6 = .ok (.invokevirtual 30, 3) := by decide +kernel
theorem dL_would_9 : decode cL_would 9 = .ok (.ireturn, 1) := by decide +kernel
theorem dL_would_10 : decode cL_would 10 = .ok (.astore 5, 2) := by decide +kernel
theorem dL_would_12 : decode cL_would 12 = .ok (.ldc 25, 2) := by decide +kernel
theorem dL_would_14 : decode cL_would 14 = .ok (.ireturn, 1) := by decide +kernel
theorem dL_would_15 : decode cL_would 15 = .ok (.astore 5, 2) := by decide +kernel
theorem dL_would_17 : decode cL_would 17 = .ok (.ldc 15, 2) := by decide +kernel
theorem dL_would_19 : decode cL_would 19 = .ok (.ireturn, 1) := by decide +kernel
theorem t_would (hl : l.stackTraces = false) {a1 a2 a3 a4 : Int} {z : Int} (hM : M.length = 103) (hkc : kcM 103 M) (hob : M[0]? = some (.inr (6, fs))) (ct : Ct l yX6_ifCell cX6_ifCell 5 (some .int) rmX6_ifCell [.ref 0, iv a1, iv a2, iv a3, iv a4] M (fun v M9 => v = some (iv z) ∧ P M9)) (hP : ∀ M9, P M9 → M9.length = 103 ∧ kcM 103 M9) :
    CtW l yL_would cL_would 6 (some .int) hhL_would rwL_would [.ref 0, iv a1, iv a2, iv a3, iv a4] M (fun v M8 => v = some (iv z) ∧ P M8) := by
  refine CtW.of hl miL_would (Nat.le_of_ble_eq_true rfl) ?_
  intro X hXl hN ok ex tb
  subst hXl
  refine AW.cast (L2 := [some (.ref 0), some (iv a1), some (iv a2), some (iv a3), some (iv a4), none]) ?_ rfl rfl rfl
  refine a_aload_n (pc := 0) ok dL_would_0 rfl ?_
  refine a_iload_n (pc := 1) ok dL_would_1 rfl ?_
  refine a_iload_n (pc := 2) ok dL_would_2 rfl ?_
  refine a_iload_n (pc := 3) ok dL_would_3 rfl ?_
  refine a_iload (pc := 4) ok dL_would_4 rfl ?_
  refine x_callV (pc := 6) ok (List.range' 0 103) 103 dL_would_6 mvL_30 miX6_ifCell ct ⟨by decide, by decide, rfl, rfl, Nat.zero_le _, Nat.zero_le _⟩ rfl rfl (Nat.le_of_ble_eq_true rfl) hM (fit_1 hM hkc) (nd_1 _) hob rfl (fun v M9 h9 => by rw [(hP _ h9.2).1, hM]) ?_
  rintro _ M' ⟨rfl, hp⟩
  refine AW.cast (st2 := [iv z]) (M2 := M') ?_ rfl rfl (pb_1 hM (hP _ hp).1 (hP _ hp).2)
  refine AW.widen (kc2 := 1) (ks2 := 6) (Nat.zero_le _) (Nat.zero_le _) ?_
  exact a_iret (pc := 9) ok dL_would_9 (⟨rfl, hp⟩)
theorem tx_would1 (hl : l.stackTraces = false) {a1 a2 a3 a4 : Int} (hM : M.length = 103) (hkc : kcM 103 M) (hob : M[0]? = some (.inr (6, fs))) (ct : CtX l yX6_ifCell cX6_ifCell 5 (some .int) rxifCell [.ref 0, iv a1, iv a2, iv a3, iv a4] M nIO P) (hP : ∀ M9, P M9 → M9.length = 103 ∧ kcM 103 M9) :
    CtW l yL_would cL_would 6 (some .int) hhL_would rwL_would [.ref 0, iv a1, iv a2, iv a3, iv a4] M (fun v M8 => v = some (iv (-9999001)) ∧ P M8) := by
  refine CtW.of hl miL_would (Nat.le_of_ble_eq_true rfl) ?_
  intro X hXl hN ok ex tb
  subst hXl
  refine AW.cast (L2 := [some (.ref 0), some (iv a1), some (iv a2), some (iv a3), some (iv a4), none]) ?_ rfl rfl rfl
  refine a_aload_n (pc := 0) ok dL_would_0 rfl ?_
  refine a_iload_n (pc := 1) ok dL_would_1 rfl ?_
  refine a_iload_n (pc := 2) ok dL_would_2 rfl ?_
  refine a_iload_n (pc := 3) ok dL_would_3 rfl ?_
  refine a_iload (pc := 4) ok dL_would_4 rfl ?_
  exact w_callV2 (pc := 6) (hh := hhL_would) (k := -9999001) (name := nIO) (pre := []) (suf := [⟨0, 9, 15, 13⟩]) (x := ⟨0, 9, 10, 23⟩) ok ex tb (List.range' 0 103) 103 dL_would_6 mvL_30 miX6_ifCell ct ⟨by decide, by decide, rfl, rfl, by decide, by decide⟩ rfl rfl (Nat.le_of_ble_eq_true rfl) hM (fit_1 hM hkc) (nd_1 _) hob rfl (fun M9 h9 => by rw [(hP _ h9).1, hM]) rfl (fun z hz => nomatch hz) (by decide) (by decide) (ug3 164 (by decide +kernel) rfl) cast_nIO (Or.inr ⟨5, 25, dL_would_10, by rw [hN]; decide, dL_would_12, ug3 205 (by decide +kernel) rfl, dL_would_14⟩) (fun M9 h9 => ⟨rfl, by rw [pb_1 hM (hP _ h9).1 (hP _ h9).2]; exact h9⟩)
theorem tx_would2 (hl : l.stackTraces = false) {a1 a2 a3 a4 : Int} (hM : M.length = 103) (hkc : kcM 103 M) (hob : M[0]? = some (.inr (6, fs))) (ct : CtX l yX6_ifCell cX6_ifCell 5 (some .int) rxifCell [.ref 0, iv a1, iv a2, iv a3, iv a4] M nIA P) (hP : ∀ M9, P M9 → M9.length = 103 ∧ kcM 103 M9) :
    CtW l yL_would cL_would 6 (some .int) hhL_would rwL_would [.ref 0, iv a1, iv a2, iv a3, iv a4] M (fun v M8 => v = some (iv (-9999002)) ∧ P M8) := by
  refine CtW.of hl miL_would (Nat.le_of_ble_eq_true rfl) ?_
  intro X hXl hN ok ex tb
  subst hXl
  refine AW.cast (L2 := [some (.ref 0), some (iv a1), some (iv a2), some (iv a3), some (iv a4), none]) ?_ rfl rfl rfl
  refine a_aload_n (pc := 0) ok dL_would_0 rfl ?_
  refine a_iload_n (pc := 1) ok dL_would_1 rfl ?_
  refine a_iload_n (pc := 2) ok dL_would_2 rfl ?_
  refine a_iload_n (pc := 3) ok dL_would_3 rfl ?_
  refine a_iload (pc := 4) ok dL_would_4 rfl ?_
  exact w_callV2 (pc := 6) (hh := hhL_would) (k := -9999002) (name := nIA) (pre := [⟨0, 9, 10, 23⟩]) (suf := []) (x := ⟨0, 9, 15, 13⟩) ok ex tb (List.range' 0 103) 103 dL_would_6 mvL_30 miX6_ifCell ct ⟨by decide, by decide, rfl, rfl, by decide, by decide⟩ rfl rfl (Nat.le_of_ble_eq_true rfl) hM (fit_1 hM hkc) (nd_1 _) hob rfl (fun M9 h9 => by rw [(hP _ h9).1, hM]) rfl (fun z hz => by cases List.mem_singleton.mp hz; exact ⟨by decide, nIO, ug3 164 (by decide +kernel) rfl, by decide +kernel⟩) (by decide) (by decide) (ug2 22 (by decide +kernel) rfl) cast_nIA (Or.inr ⟨5, 15, dL_would_15, by rw [hN]; decide, dL_would_17, ug2 127 (by decide +kernel) rfl, dL_would_19⟩) (fun M9 h9 => ⟨rfl, by rw [pb_1 hM (hP _ h9).1 (hP _ h9).2]; exact h9⟩)
theorem dL_doScript_0 : decode cL_doScript 0 = .ok (.aload_n 0, 1) := by decide +kernel
theorem dL_doScript_1 : decode cL_doScript 1 = .ok (.iload_n 1, 1) := by decide +kernel
theorem dL_doScript_2 : decode cL_doScript 2 = .ok (.lload_n 2, 1) := by decide +kernel
theorem dL_doScript_3 : decode cL_doScript 3 = .ok (.invokevirtual 34, 3) := by decide +kernel
theorem dL_doScript_6 : decode cL_doScript 6 = .ok (.ireturn, 1) := by decide +kernel
theorem dL_doScript_7 : decode cL_doScript 7 = .ok (.astore 4, 2) := by decide +kernel
theorem dL_doScript_9 : decode cL_doScript 9 = .ok (.ldc 15, 2) := by decide +kernel
theorem dL_doScript_11 : decode cL_doScript 11 = .ok (.ireturn, 1) := by decide +kernel
theorem t_doScript (hl : l.stackTraces = false) {a1 a2 : Int} {z : Int} (hM : M.length = 103) (hkc : kcM 103 M) (hob : M[0]? = some (.inr (6, fs))) (ct : Ct l yX6_runScript cX6_runScript 9 (some .int) rmX6_runScript [.ref 0, iv a1, jv a2] M (fun v M9 => v = some (iv z) ∧ P M9)) (hP : ∀ M9, P M9 → M9.length = 103 ∧ kcM 103 M9) :
    CtW l yL_doScript cL_doScript 5 (some .int) hhL_doScript rwL_doScript [.ref 0, iv a1, jv a2] M (fun v M8 => v = some (iv z) ∧ P M8) := by
  refine CtW.of hl miL_doScript (Nat.le_of_ble_eq_true rfl) ?_
  intro X hXl hN ok ex tb
  subst hXl
  refine AW.cast (L2 := [some (.ref 0), some (iv a1), some (jv a2), none, none]) ?_ rfl rfl rfl
  refine a_aload_n (pc := 0) ok dL_doScript_0 rfl ?_
  refine a_iload_n (pc := 1) ok dL_doScript_1 rfl ?_
  refine a_lload_n (pc := 2) ok dL_doScript_2 rfl ?_
  refine x_callV (pc := 3) ok (List.range' 0 103) 103 dL_doScript_3 mvL_34 miX6_runScript ct ⟨by decide, by decide, rfl, rfl, Nat.zero_le _, Nat.zero_le _⟩ rfl rfl (Nat.le_of_ble_eq_true rfl) hM (fit_1 hM hkc) (nd_1 _) hob rfl (fun v M9 h9 => by rw [(hP _ h9.2).1, hM]) ?_
  rintro _ M' ⟨rfl, hp⟩
  refine AW.cast (st2 := [iv z]) (M2 := M') ?_ rfl rfl (pb_1 hM (hP _ hp).1 (hP _ hp).2)
  refine AW.widen (kc2 := 1) (ks2 := 6) (Nat.zero_le _) (Nat.zero_le _) ?_
  exact a_iret (pc := 6) ok dL_doScript_6 (⟨rfl, hp⟩)
theorem tx_doScript (hl : l.stackTraces = false) {a1 a2 : Int} (hM : M.length = 103) (hkc : kcM 103 M) (hob : M[0]? = some (.inr (6, fs))) (ct : CtX l yX6_runScript cX6_runScript 9 (some .int) rxrunScript [.ref 0, iv a1, jv a2] M nIA P) (hP : ∀ M9, P M9 → M9.length = 103 ∧ kcM 103 M9) :
    CtW l yL_doScript cL_doScript 5 (some .int) hhL_doScript rwL_doScript [.ref 0, iv a1, jv a2] M (fun v M8 => v = some (iv (-9999002)) ∧ P M8) := by
  refine CtW.of hl miL_doScript (Nat.le_of_ble_eq_true rfl) ?_
  intro X hXl hN ok ex tb
  subst hXl
  refine AW.cast (L2 := [some (.ref 0), some (iv a1), some (jv a2), none, none]) ?_ rfl rfl rfl
  refine a_aload_n (pc := 0) ok dL_doScript_0 rfl ?_
  refine a_iload_n (pc := 1) ok dL_doScript_1 rfl ?_
  refine a_lload_n (pc := 2) ok dL_doScript_2 rfl ?_
  exact w_callV2 (pc := 3) (hh := hhL_doScript) (k := -9999002) (name := nIA) (pre := []) (suf := []) (x := ⟨0, 6, 7, 13⟩) ok ex tb (List.range' 0 103) 103 dL_doScript_3 mvL_34 miX6_runScript ct ⟨by decide, by decide, rfl, rfl, by decide, by decide⟩ rfl rfl (Nat.le_of_ble_eq_true rfl) hM (fit_1 hM hkc) (nd_1 _) hob rfl (fun M9 h9 => by rw [(hP _ h9).1, hM]) rfl (fun z hz => nomatch hz) (by decide) (by decide) (ug2 22 (by decide +kernel) rfl) cast_nIA (Or.inr ⟨4, 15, dL_doScript_7, by rw [hN]; decide, dL_doScript_9, ug2 127 (by decide +kernel) rfl, dL_doScript_11⟩) (fun M9 h9 => ⟨rfl, by rw [pb_1 hM (hP _ h9).1 (hP _ h9).2]; exact h9⟩)
theorem dL_doSimulate_0 : decode cL_doSimulate 0 = .ok (.aload_n 0, 1) := by decide +kernel
theorem dL_doSimulate_1 : decode cL_doSimulate 1 = .ok (.lload_n 1, 1) := by decide +kernel
theorem dL_doSimulate_2 : decode cL_doSimulate 2 = .ok (.iload_n 3, 1) := by decide +kernel
theorem dL_doSimulate_3 : decode cL_doSimulate 3 = .ok (.invokevirtual 38, 3) := by decide +kernel
theorem dL_doSimulate_6 : decode cL_doSimulate 6 = .ok (.ireturn, 1) := by decide +kernel
theorem dL_doSimulate_7 : decode cL_doSimulate 7 = .ok (.astore 4, 2) := by decide +kernel
theorem dL_doSimulate_9 : decode cL_doSimulate 9 = .ok (.ldc 15, 2) := by decide +kernel
theorem dL_doSimulate_11 : decode cL_doSimulate 11 = .ok (.ireturn, 1) := by decide +kernel
theorem t_doSimulate (hl : l.stackTraces = false) {a1 a2 : Int} {z : Int} (hM : M.length = 103) (hkc : kcM 103 M) (hob : M[0]? = some (.inr (6, fs))) (ct : Ct l yX6_simulate cX6_simulate 7 (some .int) rmX6_simulate [.ref 0, jv a1, iv a2] M (fun v M9 => v = some (iv z) ∧ P M9)) (hP : ∀ M9, P M9 → M9.length = 103 ∧ kcM 103 M9) :
    CtW l yL_doSimulate cL_doSimulate 5 (some .int) hhL_doSimulate rwL_doSimulate [.ref 0, jv a1, iv a2] M (fun v M8 => v = some (iv z) ∧ P M8) := by
  refine CtW.of hl miL_doSimulate (Nat.le_of_ble_eq_true rfl) ?_
  intro X hXl hN ok ex tb
  subst hXl
  refine AW.cast (L2 := [some (.ref 0), some (jv a1), none, some (iv a2), none]) ?_ rfl rfl rfl
  refine a_aload_n (pc := 0) ok dL_doSimulate_0 rfl ?_
  refine a_lload_n (pc := 1) ok dL_doSimulate_1 rfl ?_
  refine a_iload_n (pc := 2) ok dL_doSimulate_2 rfl ?_
  refine x_callV (pc := 3) ok (List.range' 0 103) 103 dL_doSimulate_3 mvL_38 miX6_simulate ct ⟨by decide, by decide, rfl, rfl, Nat.zero_le _, Nat.zero_le _⟩ rfl rfl (Nat.le_of_ble_eq_true rfl) hM (fit_1 hM hkc) (nd_1 _) hob rfl (fun v M9 h9 => by rw [(hP _ h9.2).1, hM]) ?_
  rintro _ M' ⟨rfl, hp⟩
  refine AW.cast (st2 := [iv z]) (M2 := M') ?_ rfl rfl (pb_1 hM (hP _ hp).1 (hP _ hp).2)
  refine AW.widen (kc2 := 1) (ks2 := 6) (Nat.zero_le _) (Nat.zero_le _) ?_
  exact a_iret (pc := 6) ok dL_doSimulate_6 (⟨rfl, hp⟩)
theorem tx_doSimulate (hl : l.stackTraces = false) {a1 a2 : Int} (hM : M.length = 103) (hkc : kcM 103 M) (hob : M[0]? = some (.inr (6, fs))) (ct : CtX l yX6_simulate cX6_simulate 7 (some .int) rxsimulate [.ref 0, jv a1, iv a2] M nIA P) (hP : ∀ M9, P M9 → M9.length = 103 ∧ kcM 103 M9) :
    CtW l yL_doSimulate cL_doSimulate 5 (some .int) hhL_doSimulate rwL_doSimulate [.ref 0, jv a1, iv a2] M (fun v M8 => v = some (iv (-9999002)) ∧ P M8) := by
  refine CtW.of hl miL_doSimulate (Nat.le_of_ble_eq_true rfl) ?_
  intro X hXl hN ok ex tb
  subst hXl
  refine AW.cast (L2 := [some (.ref 0), some (jv a1), none, some (iv a2), none]) ?_ rfl rfl rfl
  refine a_aload_n (pc := 0) ok dL_doSimulate_0 rfl ?_
  refine a_lload_n (pc := 1) ok dL_doSimulate_1 rfl ?_
  refine a_iload_n (pc := 2) ok dL_doSimulate_2 rfl ?_
  exact w_callV2 (pc := 3) (hh := hhL_doSimulate) (k := -9999002) (name := nIA) (pre := []) (suf := []) (x := ⟨0, 6, 7, 13⟩) ok ex tb (List.range' 0 103) 103 dL_doSimulate_3 mvL_38 miX6_simulate ct ⟨by decide, by decide, rfl, rfl, by decide, by decide⟩ rfl rfl (Nat.le_of_ble_eq_true rfl) hM (fit_1 hM hkc) (nd_1 _) hob rfl (fun M9 h9 => by rw [(hP _ h9).1, hM]) rfl (fun z hz => nomatch hz) (by decide) (by decide) (ug2 22 (by decide +kernel) rfl) cast_nIA (Or.inr ⟨4, 15, dL_doSimulate_7, by rw [hN]; decide, dL_doSimulate_9, ug2 127 (by decide +kernel) rfl, dL_doSimulate_11⟩) (fun M9 h9 => ⟨rfl, by rw [pb_1 hM (hP _ h9).1 (hP _ h9).2]; exact h9⟩)
theorem dL_tryAppend_0 : decode cL_tryAppend 0 = .ok (.aload_n 0, 1) := by decide +kernel
theorem dL_tryAppend_1 : decode cL_tryAppend 1 = .ok (.iload_n 1, 1) := by decide +kernel
theorem dL_tryAppend_2 : decode cL_tryAppend 2 = .ok (.invokevirtual 41, 3) := by decide +kernel
theorem dL_tryAppend_5 : decode cL_tryAppend 5 = .ok (.ireturn, 1) := by decide +kernel
theorem dL_tryAppend_6 : decode cL_tryAppend 6 = .ok (.astore_n 2, 1) := by decide +kernel
theorem dL_tryAppend_7 : decode cL_tryAppend 7 = .ok (.ldc 15, 2) := by decide +kernel
theorem dL_tryAppend_9 : decode cL_tryAppend 9 = .ok (.ireturn, 1) := by decide +kernel
theorem dL_tryAppend_10 : decode cL_tryAppend 10 = .ok (.astore_n 2, 1) := by decide +kernel
theorem dL_tryAppend_11 : decode cL_tryAppend 11 = .ok (.ldc 18, 2) := by decide +kernel
theorem dL_tryAppend_13 : decode cL_tryAppend 13 = .ok (.ireturn, 1) := by decide +kernel
theorem tx_tryAppend (hl : l.stackTraces = false) {a1 : Int} (hM : M.length = 103) (hkc : kcM 103 M) (hob : M[0]? = some (.inr (6, fs))) (ct : CtX l yX6_append cX6_append 2 (some .int) rxappend [.ref 0, iv a1] M nIA P) (hP : ∀ M9, P M9 → M9.length = 103 ∧ kcM 103 M9) :
    CtW l yL_tryAppend cL_tryAppend 3 (some .int) hhL_tryAppend rwL_tryAppend [.ref 0, iv a1] M (fun v M8 => v = some (iv (-9999002)) ∧ P M8) := by
  refine CtW.of hl miL_tryAppend (Nat.le_of_ble_eq_true rfl) ?_
  intro X hXl hN ok ex tb
  subst hXl
  refine AW.cast (L2 := [some (.ref 0), some (iv a1), none]) ?_ rfl rfl rfl
  refine a_aload_n (pc := 0) ok dL_tryAppend_0 rfl ?_
  refine a_iload_n (pc := 1) ok dL_tryAppend_1 rfl ?_
  exact w_callV2 (pc := 2) (hh := hhL_tryAppend) (k := -9999002) (name := nIA) (pre := []) (suf := [⟨0, 5, 10, 16⟩]) (x := ⟨0, 5, 6, 13⟩) ok ex tb (List.range' 0 103) 103 dL_tryAppend_2 mvL_41 miX6_append ct ⟨by decide, by decide, rfl, rfl, by decide, by decide⟩ rfl rfl (Nat.le_of_ble_eq_true rfl) hM (fit_1 hM hkc) (nd_1 _) hob rfl (fun M9 h9 => by rw [(hP _ h9).1, hM]) rfl (fun z hz => nomatch hz) (by decide) (by decide) (ug2 22 (by decide +kernel) rfl) cast_nIA (Or.inl ⟨2, 15, dL_tryAppend_6, by rw [hN]; decide, dL_tryAppend_7, ug2 127 (by decide +kernel) rfl, dL_tryAppend_9⟩) (fun M9 h9 => ⟨rfl, by rw [pb_1 hM (hP _ h9).1 (hP _ h9).2]; exact h9⟩)
theorem dL_tryAbout_0 : decode cL_tryAbout 0 = .ok (.aload_n 0, 1) := by decide +kernel
theorem dL_tryAbout_1 : decode cL_tryAbout 1 = .ok (.iload_n 1, 1) := by decide +kernel
theorem dL_tryAbout_2 : decode cL_tryAbout 2 = .ok (.invokevirtual 49, 3) := by decide +kernel
theorem dL_tryAbout_5 : decode cL_tryAbout 5 = .ok (.ireturn, 1) := by decide +kernel
theorem dL_tryAbout_6 : decode cL_tryAbout 6 = .ok (.astore_n 2, 1) := by decide +kernel
theorem dL_tryAbout_7 : decode cL_tryAbout 7 = .ok (.ldc 15, 2) := by decide +kernel
theorem dL_tryAbout_9 : decode cL_tryAbout 9 = .ok (.ireturn, 1) := by decide +kernel
theorem t_tryAbout (hl : l.stackTraces = false) {a1 : Int} {z : Int} (hM : M.length = 103) (hkc : kcM 103 M) (hob : M[0]? = some (.inr (6, fs))) (ct : Ct l yX6_about cX6_about 2 (some .int) rmX6_about [.ref 0, iv a1] M (fun v M9 => v = some (iv z) ∧ P M9)) (hP : ∀ M9, P M9 → M9.length = 103 ∧ kcM 103 M9) :
    CtW l yL_tryAbout cL_tryAbout 3 (some .int) hhL_tryAbout rwL_tryAbout [.ref 0, iv a1] M (fun v M8 => v = some (iv z) ∧ P M8) := by
  refine CtW.of hl miL_tryAbout (Nat.le_of_ble_eq_true rfl) ?_
  intro X hXl hN ok ex tb
  subst hXl
  refine AW.cast (L2 := [some (.ref 0), some (iv a1), none]) ?_ rfl rfl rfl
  refine a_aload_n (pc := 0) ok dL_tryAbout_0 rfl ?_
  refine a_iload_n (pc := 1) ok dL_tryAbout_1 rfl ?_
  refine x_callV (pc := 2) ok (List.range' 0 103) 103 dL_tryAbout_2 mvL_49 miX6_about ct ⟨by decide, by decide, rfl, rfl, Nat.zero_le _, Nat.zero_le _⟩ rfl rfl (Nat.le_of_ble_eq_true rfl) hM (fit_1 hM hkc) (nd_1 _) hob rfl (fun v M9 h9 => by rw [(hP _ h9.2).1, hM]) ?_
  rintro _ M' ⟨rfl, hp⟩
  refine AW.cast (st2 := [iv z]) (M2 := M') ?_ rfl rfl (pb_1 hM (hP _ hp).1 (hP _ hp).2)
  refine AW.widen (kc2 := 1) (ks2 := 6) (Nat.zero_le _) (Nat.zero_le _) ?_
  exact a_iret (pc := 5) ok dL_tryAbout_5 (⟨rfl, hp⟩)
theorem tx_tryAbout (hl : l.stackTraces = false) {a1 : Int} (hM : M.length = 103) (hkc : kcM 103 M) (hob : M[0]? = some (.inr (6, fs))) (ct : CtX l yX6_about cX6_about 2 (some .int) rxabout [.ref 0, iv a1] M nIA P) (hP : ∀ M9, P M9 → M9.length = 103 ∧ kcM 103 M9) :
    CtW l yL_tryAbout cL_tryAbout 3 (some .int) hhL_tryAbout rwL_tryAbout [.ref 0, iv a1] M (fun v M8 => v = some (iv (-9999002)) ∧ P M8) := by
  refine CtW.of hl miL_tryAbout (Nat.le_of_ble_eq_true rfl) ?_
  intro X hXl hN ok ex tb
  subst hXl
  refine AW.cast (L2 := [some (.ref 0), some (iv a1), none]) ?_ rfl rfl rfl
  refine a_aload_n (pc := 0) ok dL_tryAbout_0 rfl ?_
  refine a_iload_n (pc := 1) ok dL_tryAbout_1 rfl ?_
  exact w_callV2 (pc := 2) (hh := hhL_tryAbout) (k := -9999002) (name := nIA) (pre := []) (suf := []) (x := ⟨0, 5, 6, 13⟩) ok ex tb (List.range' 0 103) 103 dL_tryAbout_2 mvL_49 miX6_about ct ⟨by decide, by decide, rfl, rfl, by decide, by decide⟩ rfl rfl (Nat.le_of_ble_eq_true rfl) hM (fit_1 hM hkc) (nd_1 _) hob rfl (fun M9 h9 => by rw [(hP _ h9).1, hM]) rfl (fun z hz => nomatch hz) (by decide) (by decide) (ug2 22 (by decide +kernel) rfl) cast_nIA (Or.inl ⟨2, 15, dL_tryAbout_6, by rw [hN]; decide, dL_tryAbout_7, ug2 127 (by decide +kernel) rfl, dL_tryAbout_9⟩) (fun M9 h9 => ⟨rfl, by rw [pb_1 hM (hP _ h9).1 (hP _ h9).2]; exact h9⟩)
theorem dL_tryCell_0 : decode cL_tryCell 0 = .ok (.aload_n 0, 1) := by decide +kernel
theorem dL_tryCell_1 : decode cL_tryCell 1 = .ok (.iload_n 1, 1) := by decide +kernel
theorem dL_tryCell_2 : decode cL_tryCell 2 = .ok (.iload_n 2, 1) := by decide +kernel
theorem dL_tryCell_3 : decode cL_tryCell 3 = .ok (.iload_n 3, 1) := by decide +kernel
theorem dL_tryCell_4 : decode cL_tryCell 4 = .ok (.invokevirtual 52, 3) := by decide +kernel
theorem dL_tryCell_7 : decode cL_tryCell 7 = .ok (.ireturn, 1) := by decide +kernel
theorem dL_tryCell_8 : decode cL_tryCell 8 = .ok (.astore 4, 2) := by decide +kernel
theorem dL_tryCell_10 : decode cL_tryCell 10 = .ok (.ldc 25, 2) := by decide +kernel
theorem dL_tryCell_12 : decode cL_tryCell 12 = .ok (.ireturn, 1) := by decide +kernel
theorem dL_tryCell_13 : decode cL_tryCell 13 = .ok (.astore 4, 2) := by decide +kernel
theorem dL_tryCell_15 : decode cL_tryCell 15 = .ok (.ldc 15, 2) := by decide +kernel
theorem dL_tryCell_17 : decode cL_tryCell 17 = .ok (.ireturn, 1) := by decide +kernel
theorem t_tryCell (hl : l.stackTraces = false) {a1 a2 a3 : Int} {z : Int} (hM : M.length = 103) (hkc : kcM 103 M) (hob : M[0]? = some (.inr (6, fs))) (ct : Ct l yX6_cellOf cX6_cellOf 5 (some .int) rmX6_cellOf [.ref 0, iv a1, iv a2, iv a3] M (fun v M9 => v = some (iv z) ∧ P M9)) (hP : ∀ M9, P M9 → M9.length = 103 ∧ kcM 103 M9) :
    CtW l yL_tryCell cL_tryCell 5 (some .int) hhL_tryCell rwL_tryCell [.ref 0, iv a1, iv a2, iv a3] M (fun v M8 => v = some (iv z) ∧ P M8) := by
  refine CtW.of hl miL_tryCell (Nat.le_of_ble_eq_true rfl) ?_
  intro X hXl hN ok ex tb
  subst hXl
  refine AW.cast (L2 := [some (.ref 0), some (iv a1), some (iv a2), some (iv a3), none]) ?_ rfl rfl rfl
  refine a_aload_n (pc := 0) ok dL_tryCell_0 rfl ?_
  refine a_iload_n (pc := 1) ok dL_tryCell_1 rfl ?_
  refine a_iload_n (pc := 2) ok dL_tryCell_2 rfl ?_
  refine a_iload_n (pc := 3) ok dL_tryCell_3 rfl ?_
  refine x_callV (pc := 4) ok (List.range' 0 103) 103 dL_tryCell_4 mvL_52 miX6_cellOf ct ⟨by decide, by decide, rfl, rfl, Nat.zero_le _, Nat.zero_le _⟩ rfl rfl (Nat.le_of_ble_eq_true rfl) hM (fit_1 hM hkc) (nd_1 _) hob rfl (fun v M9 h9 => by rw [(hP _ h9.2).1, hM]) ?_
  rintro _ M' ⟨rfl, hp⟩
  refine AW.cast (st2 := [iv z]) (M2 := M') ?_ rfl rfl (pb_1 hM (hP _ hp).1 (hP _ hp).2)
  refine AW.widen (kc2 := 1) (ks2 := 6) (Nat.zero_le _) (Nat.zero_le _) ?_
  exact a_iret (pc := 7) ok dL_tryCell_7 (⟨rfl, hp⟩)
theorem tx_tryCell1 (hl : l.stackTraces = false) {a1 a2 a3 : Int} (hM : M.length = 103) (hkc : kcM 103 M) (hob : M[0]? = some (.inr (6, fs))) (ct : CtX l yX6_cellOf cX6_cellOf 5 (some .int) rxcellOf [.ref 0, iv a1, iv a2, iv a3] M nIO P) (hP : ∀ M9, P M9 → M9.length = 103 ∧ kcM 103 M9) :
    CtW l yL_tryCell cL_tryCell 5 (some .int) hhL_tryCell rwL_tryCell [.ref 0, iv a1, iv a2, iv a3] M (fun v M8 => v = some (iv (-9999001)) ∧ P M8) := by
  refine CtW.of hl miL_tryCell (Nat.le_of_ble_eq_true rfl) ?_
  intro X hXl hN ok ex tb
  subst hXl
  refine AW.cast (L2 := [some (.ref 0), some (iv a1), some (iv a2), some (iv a3), none]) ?_ rfl rfl rfl
  refine a_aload_n (pc := 0) ok dL_tryCell_0 rfl ?_
  refine a_iload_n (pc := 1) ok dL_tryCell_1 rfl ?_
  refine a_iload_n (pc := 2) ok dL_tryCell_2 rfl ?_
  refine a_iload_n (pc := 3) ok dL_tryCell_3 rfl ?_
  exact w_callV2 (pc := 4) (hh := hhL_tryCell) (k := -9999001) (name := nIO) (pre := []) (suf := [⟨0, 7, 13, 13⟩]) (x := ⟨0, 7, 8, 23⟩) ok ex tb (List.range' 0 103) 103 dL_tryCell_4 mvL_52 miX6_cellOf ct ⟨by decide, by decide, rfl, rfl, by decide, by decide⟩ rfl rfl (Nat.le_of_ble_eq_true rfl) hM (fit_1 hM hkc) (nd_1 _) hob rfl (fun M9 h9 => by rw [(hP _ h9).1, hM]) rfl (fun z hz => nomatch hz) (by decide) (by decide) (ug3 164 (by decide +kernel) rfl) cast_nIO (Or.inr ⟨4, 25, dL_tryCell_8, by rw [hN]; decide, dL_tryCell_10, ug3 205 (by decide +kernel) rfl, dL_tryCell_12⟩) (fun M9 h9 => ⟨rfl, by rw [pb_1 hM (hP _ h9).1 (hP _ h9).2]; exact h9⟩)
theorem tx_tryCell2 (hl : l.stackTraces = false) {a1 a2 a3 : Int} (hM : M.length = 103) (hkc : kcM 103 M) (hob : M[0]? = some (.inr (6, fs))) (ct : CtX l yX6_cellOf cX6_cellOf 5 (some .int) rxcellOf [.ref 0, iv a1, iv a2, iv a3] M nIA P) (hP : ∀ M9, P M9 → M9.length = 103 ∧ kcM 103 M9) :
    CtW l yL_tryCell cL_tryCell 5 (some .int) hhL_tryCell rwL_tryCell [.ref 0, iv a1, iv a2, iv a3] M (fun v M8 => v = some (iv (-9999002)) ∧ P M8) := by
  refine CtW.of hl miL_tryCell (Nat.le_of_ble_eq_true rfl) ?_
  intro X hXl hN ok ex tb
  subst hXl
  refine AW.cast (L2 := [some (.ref 0), some (iv a1), some (iv a2), some (iv a3), none]) ?_ rfl rfl rfl
  refine a_aload_n (pc := 0) ok dL_tryCell_0 rfl ?_
  refine a_iload_n (pc := 1) ok dL_tryCell_1 rfl ?_
  refine a_iload_n (pc := 2) ok dL_tryCell_2 rfl ?_
  refine a_iload_n (pc := 3) ok dL_tryCell_3 rfl ?_
  exact w_callV2 (pc := 4) (hh := hhL_tryCell) (k := -9999002) (name := nIA) (pre := [⟨0, 7, 8, 23⟩]) (suf := []) (x := ⟨0, 7, 13, 13⟩) ok ex tb (List.range' 0 103) 103 dL_tryCell_4 mvL_52 miX6_cellOf ct ⟨by decide, by decide, rfl, rfl, by decide, by decide⟩ rfl rfl (Nat.le_of_ble_eq_true rfl) hM (fit_1 hM hkc) (nd_1 _) hob rfl (fun M9 h9 => by rw [(hP _ h9).1, hM]) rfl (fun z hz => by cases List.mem_singleton.mp hz; exact ⟨by decide, nIO, ug3 164 (by decide +kernel) rfl, by decide +kernel⟩) (by decide) (by decide) (ug2 22 (by decide +kernel) rfl) cast_nIA (Or.inr ⟨4, 15, dL_tryCell_13, by rw [hN]; decide, dL_tryCell_15, ug2 127 (by decide +kernel) rfl, dL_tryCell_17⟩) (fun M9 h9 => ⟨rfl, by rw [pb_1 hM (hP _ h9).1 (hP _ h9).2]; exact h9⟩)
theorem dL_tryPart_0 : decode cL_tryPart 0 = .ok (.aload_n 0, 1) := by decide +kernel
theorem dL_tryPart_1 : decode cL_tryPart 1 = .ok (.iload_n 1, 1) := by decide +kernel
theorem dL_tryPart_2 : decode cL_tryPart 2 = .ok (.invokevirtual 56, 3) := by decide +kernel
theorem dL_tryPart_5 : decode cL_tryPart 5 = .ok (.ireturn, 1) := by decide +kernel
theorem dL_tryPart_6 : decode cL_tryPart 6 = .ok (.astore_n 2, 1) := by decide +kernel
theorem dL_tryPart_7 : decode cL_tryPart 7 = .ok (.ldc 25, 2) := by decide +kernel
theorem dL_tryPart_9 : decode cL_tryPart 9 = .ok (.ireturn, 1) := by decide +kernel
theorem t_tryPart (hl : l.stackTraces = false) {a1 : Int} {z : Int} (hM : M.length = 103) (hkc : kcM 103 M) (hob : M[0]? = some (.inr (6, fs))) (ct : Ct l yX6_thresholdAt cX6_thresholdAt 2 (some .int) rmX6_thresholdAt [.ref 0, iv a1] M (fun v M9 => v = some (iv z) ∧ P M9)) (hP : ∀ M9, P M9 → M9.length = 103 ∧ kcM 103 M9) :
    CtW l yL_tryPart cL_tryPart 3 (some .int) hhL_tryPart rwL_tryPart [.ref 0, iv a1] M (fun v M8 => v = some (iv z) ∧ P M8) := by
  refine CtW.of hl miL_tryPart (Nat.le_of_ble_eq_true rfl) ?_
  intro X hXl hN ok ex tb
  subst hXl
  refine AW.cast (L2 := [some (.ref 0), some (iv a1), none]) ?_ rfl rfl rfl
  refine a_aload_n (pc := 0) ok dL_tryPart_0 rfl ?_
  refine a_iload_n (pc := 1) ok dL_tryPart_1 rfl ?_
  refine x_callV (pc := 2) ok (List.range' 0 103) 103 dL_tryPart_2 mvL_56 miX6_thresholdAt ct ⟨by decide, by decide, rfl, rfl, Nat.zero_le _, Nat.zero_le _⟩ rfl rfl (Nat.le_of_ble_eq_true rfl) hM (fit_1 hM hkc) (nd_1 _) hob rfl (fun v M9 h9 => by rw [(hP _ h9.2).1, hM]) ?_
  rintro _ M' ⟨rfl, hp⟩
  refine AW.cast (st2 := [iv z]) (M2 := M') ?_ rfl rfl (pb_1 hM (hP _ hp).1 (hP _ hp).2)
  refine AW.widen (kc2 := 1) (ks2 := 6) (Nat.zero_le _) (Nat.zero_le _) ?_
  exact a_iret (pc := 5) ok dL_tryPart_5 (⟨rfl, hp⟩)
theorem tx_tryPart (hl : l.stackTraces = false) {a1 : Int} (hM : M.length = 103) (hkc : kcM 103 M) (hob : M[0]? = some (.inr (6, fs))) (ct : CtX l yX6_thresholdAt cX6_thresholdAt 2 (some .int) rxthresholdAt [.ref 0, iv a1] M nIO P) (hP : ∀ M9, P M9 → M9.length = 103 ∧ kcM 103 M9) :
    CtW l yL_tryPart cL_tryPart 3 (some .int) hhL_tryPart rwL_tryPart [.ref 0, iv a1] M (fun v M8 => v = some (iv (-9999001)) ∧ P M8) := by
  refine CtW.of hl miL_tryPart (Nat.le_of_ble_eq_true rfl) ?_
  intro X hXl hN ok ex tb
  subst hXl
  refine AW.cast (L2 := [some (.ref 0), some (iv a1), none]) ?_ rfl rfl rfl
  refine a_aload_n (pc := 0) ok dL_tryPart_0 rfl ?_
  refine a_iload_n (pc := 1) ok dL_tryPart_1 rfl ?_
  exact w_callV2 (pc := 2) (hh := hhL_tryPart) (k := -9999001) (name := nIO) (pre := []) (suf := []) (x := ⟨0, 5, 6, 23⟩) ok ex tb (List.range' 0 103) 103 dL_tryPart_2 mvL_56 miX6_thresholdAt ct ⟨by decide, by decide, rfl, rfl, by decide, by decide⟩ rfl rfl (Nat.le_of_ble_eq_true rfl) hM (fit_1 hM hkc) (nd_1 _) hob rfl (fun M9 h9 => by rw [(hP _ h9).1, hM]) rfl (fun z hz => nomatch hz) (by decide) (by decide) (ug3 164 (by decide +kernel) rfl) cast_nIO (Or.inl ⟨2, 25, dL_tryPart_6, by rw [hN]; decide, dL_tryPart_7, ug3 205 (by decide +kernel) rfl, dL_tryPart_9⟩) (fun M9 h9 => ⟨rfl, by rw [pb_1 hM (hP _ h9).1 (hP _ h9).2]; exact h9⟩)
theorem dL_tryIsle_0 : decode cL_tryIsle 0 = .ok (.aload_n 0, 1) := by decide +kernel
theorem dL_tryIsle_1 : decode cL_tryIsle 1 = .ok (.iload_n 1, 1) := by decide +kernel
theorem dL_tryIsle_2 : decode cL_tryIsle 2 = .ok (.iload_n 2, 1) := by decide +kernel
theorem dL_tryIsle_3 : decode cL_tryIsle 3 = .ok (.invokevirtual 59, 3) := by decide +kernel
theorem dL_tryIsle_6 : decode cL_tryIsle 6 = .ok (.ireturn, 1) := by decide +kernel
theorem dL_tryIsle_7 : decode cL_tryIsle 7 = .ok (.astore_n 3, 1) := by decide +kernel
theorem dL_tryIsle_8 : decode cL_tryIsle 8 = .ok (.ldc 25, 2) := by decide +kernel
theorem dL_tryIsle_10 : decode cL_tryIsle 10 = .ok (.ireturn, 1) := by decide +kernel
theorem dL_tryIsle_11 : decode cL_tryIsle 11 = .ok (.astore_n 3, 1) := by decide +kernel
theorem dL_tryIsle_12 : decode cL_tryIsle 12 = .ok (.ldc 15, 2) := by decide +kernel
theorem dL_tryIsle_14 : decode cL_tryIsle 14 = .ok (.ireturn, 1) := by decide +kernel
theorem t_tryIsle (hl : l.stackTraces = false) {a1 a2 : Int} {z : Int} (hM : M.length = 103) (hkc : kcM 103 M) (hob : M[0]? = some (.inr (6, fs))) (ct : Ct l yX6_island cX6_island 4 (some .int) rmX6_island [.ref 0, iv a1, iv a2] M (fun v M9 => v = some (iv z) ∧ P M9)) (hP : ∀ M9, P M9 → M9.length = 103 ∧ kcM 103 M9) :
    CtW l yL_tryIsle cL_tryIsle 4 (some .int) hhL_tryIsle rwL_tryIsle [.ref 0, iv a1, iv a2] M (fun v M8 => v = some (iv z) ∧ P M8) := by
  refine CtW.of hl miL_tryIsle (Nat.le_of_ble_eq_true rfl) ?_
  intro X hXl hN ok ex tb
  subst hXl
  refine AW.cast (L2 := [some (.ref 0), some (iv a1), some (iv a2), none]) ?_ rfl rfl rfl
  refine a_aload_n (pc := 0) ok dL_tryIsle_0 rfl ?_
  refine a_iload_n (pc := 1) ok dL_tryIsle_1 rfl ?_
  refine a_iload_n (pc := 2) ok dL_tryIsle_2 rfl ?_
  refine x_callV (pc := 3) ok (List.range' 0 103) 103 dL_tryIsle_3 mvL_59 miX6_island ct ⟨by decide, by decide, rfl, rfl, Nat.zero_le _, Nat.zero_le _⟩ rfl rfl (Nat.le_of_ble_eq_true rfl) hM (fit_1 hM hkc) (nd_1 _) hob rfl (fun v M9 h9 => by rw [(hP _ h9.2).1, hM]) ?_
  rintro _ M' ⟨rfl, hp⟩
  refine AW.cast (st2 := [iv z]) (M2 := M') ?_ rfl rfl (pb_1 hM (hP _ hp).1 (hP _ hp).2)
  refine AW.widen (kc2 := 1) (ks2 := 6) (Nat.zero_le _) (Nat.zero_le _) ?_
  exact a_iret (pc := 6) ok dL_tryIsle_6 (⟨rfl, hp⟩)
theorem tx_tryIsle1 (hl : l.stackTraces = false) {a1 a2 : Int} (hM : M.length = 103) (hkc : kcM 103 M) (hob : M[0]? = some (.inr (6, fs))) (ct : CtX l yX6_island cX6_island 4 (some .int) rxisland [.ref 0, iv a1, iv a2] M nIO P) (hP : ∀ M9, P M9 → M9.length = 103 ∧ kcM 103 M9) :
    CtW l yL_tryIsle cL_tryIsle 4 (some .int) hhL_tryIsle rwL_tryIsle [.ref 0, iv a1, iv a2] M (fun v M8 => v = some (iv (-9999001)) ∧ P M8) := by
  refine CtW.of hl miL_tryIsle (Nat.le_of_ble_eq_true rfl) ?_
  intro X hXl hN ok ex tb
  subst hXl
  refine AW.cast (L2 := [some (.ref 0), some (iv a1), some (iv a2), none]) ?_ rfl rfl rfl
  refine a_aload_n (pc := 0) ok dL_tryIsle_0 rfl ?_
  refine a_iload_n (pc := 1) ok dL_tryIsle_1 rfl ?_
  refine a_iload_n (pc := 2) ok dL_tryIsle_2 rfl ?_
  exact w_callV2 (pc := 3) (hh := hhL_tryIsle) (k := -9999001) (name := nIO) (pre := []) (suf := [⟨0, 6, 11, 13⟩]) (x := ⟨0, 6, 7, 23⟩) ok ex tb (List.range' 0 103) 103 dL_tryIsle_3 mvL_59 miX6_island ct ⟨by decide, by decide, rfl, rfl, by decide, by decide⟩ rfl rfl (Nat.le_of_ble_eq_true rfl) hM (fit_1 hM hkc) (nd_1 _) hob rfl (fun M9 h9 => by rw [(hP _ h9).1, hM]) rfl (fun z hz => nomatch hz) (by decide) (by decide) (ug3 164 (by decide +kernel) rfl) cast_nIO (Or.inl ⟨3, 25, dL_tryIsle_7, by rw [hN]; decide, dL_tryIsle_8, ug3 205 (by decide +kernel) rfl, dL_tryIsle_10⟩) (fun M9 h9 => ⟨rfl, by rw [pb_1 hM (hP _ h9).1 (hP _ h9).2]; exact h9⟩)
theorem tx_tryIsle2 (hl : l.stackTraces = false) {a1 a2 : Int} (hM : M.length = 103) (hkc : kcM 103 M) (hob : M[0]? = some (.inr (6, fs))) (ct : CtX l yX6_island cX6_island 4 (some .int) rxisland [.ref 0, iv a1, iv a2] M nIA P) (hP : ∀ M9, P M9 → M9.length = 103 ∧ kcM 103 M9) :
    CtW l yL_tryIsle cL_tryIsle 4 (some .int) hhL_tryIsle rwL_tryIsle [.ref 0, iv a1, iv a2] M (fun v M8 => v = some (iv (-9999002)) ∧ P M8) := by
  refine CtW.of hl miL_tryIsle (Nat.le_of_ble_eq_true rfl) ?_
  intro X hXl hN ok ex tb
  subst hXl
  refine AW.cast (L2 := [some (.ref 0), some (iv a1), some (iv a2), none]) ?_ rfl rfl rfl
  refine a_aload_n (pc := 0) ok dL_tryIsle_0 rfl ?_
  refine a_iload_n (pc := 1) ok dL_tryIsle_1 rfl ?_
  refine a_iload_n (pc := 2) ok dL_tryIsle_2 rfl ?_
  exact w_callV2 (pc := 3) (hh := hhL_tryIsle) (k := -9999002) (name := nIA) (pre := [⟨0, 6, 7, 23⟩]) (suf := []) (x := ⟨0, 6, 11, 13⟩) ok ex tb (List.range' 0 103) 103 dL_tryIsle_3 mvL_59 miX6_island ct ⟨by decide, by decide, rfl, rfl, by decide, by decide⟩ rfl rfl (Nat.le_of_ble_eq_true rfl) hM (fit_1 hM hkc) (nd_1 _) hob rfl (fun M9 h9 => by rw [(hP _ h9).1, hM]) rfl (fun z hz => by cases List.mem_singleton.mp hz; exact ⟨by decide, nIO, ug3 164 (by decide +kernel) rfl, by decide +kernel⟩) (by decide) (by decide) (ug2 22 (by decide +kernel) rfl) cast_nIA (Or.inl ⟨3, 15, dL_tryIsle_11, by rw [hN]; decide, dL_tryIsle_12, ug2 127 (by decide +kernel) rfl, dL_tryIsle_14⟩) (fun M9 h9 => ⟨rfl, by rw [pb_1 hM (hP _ h9).1 (hP _ h9).2]; exact h9⟩)
theorem dL_tryBorder_0 : decode cL_tryBorder 0 = .ok (.aload_n 0, 1) := by decide +kernel
theorem dL_tryBorder_1 : decode cL_tryBorder 1 = .ok (.iload_n 1, 1) := by decide +kernel
theorem dL_tryBorder_2 : decode cL_tryBorder 2 = .ok (.iload_n 2, 1) := by decide +kernel
theorem dL_tryBorder_3 : decode cL_tryBorder 3 = .ok (.invokevirtual 63, 3) := by decide +kernel
theorem dL_tryBorder_6 : decode cL_tryBorder 6 = .ok (.ireturn, 1) := by decide +kernel
theorem dL_tryBorder_7 : decode cL_tryBorder 7 = .ok (.astore_n 3, 1) := by decide +kernel
theorem dL_tryBorder_8 : decode cL_tryBorder 8 = .ok (.ldc 25, 2) := by decide +kernel
theorem dL_tryBorder_10 : decode cL_tryBorder 10 = .ok (.ireturn, 1) := by decide +kernel
theorem t_tryBorder (hl : l.stackTraces = false) {a1 a2 : Int} {z : Int} (hM : M.length = 103) (hkc : kcM 103 M) (hob : M[0]? = some (.inr (6, fs))) (ct : Ct l yX6_border cX6_border 4 (some .int) rmX6_border [.ref 0, iv a1, iv a2] M (fun v M9 => v = some (iv z) ∧ P M9)) (hP : ∀ M9, P M9 → M9.length = 103 ∧ kcM 103 M9) :
    CtW l yL_tryBorder cL_tryBorder 4 (some .int) hhL_tryBorder rwL_tryBorder [.ref 0, iv a1, iv a2] M (fun v M8 => v = some (iv z) ∧ P M8) := by
  refine CtW.of hl miL_tryBorder (Nat.le_of_ble_eq_true rfl) ?_
  intro X hXl hN ok ex tb
  subst hXl
  refine AW.cast (L2 := [some (.ref 0), some (iv a1), some (iv a2), none]) ?_ rfl rfl rfl
  refine a_aload_n (pc := 0) ok dL_tryBorder_0 rfl ?_
  refine a_iload_n (pc := 1) ok dL_tryBorder_1 rfl ?_
  refine a_iload_n (pc := 2) ok dL_tryBorder_2 rfl ?_
  refine x_callV (pc := 3) ok (List.range' 0 103) 103 dL_tryBorder_3 mvL_63 miX6_border ct ⟨by decide, by decide, rfl, rfl, Nat.zero_le _, Nat.zero_le _⟩ rfl rfl (Nat.le_of_ble_eq_true rfl) hM (fit_1 hM hkc) (nd_1 _) hob rfl (fun v M9 h9 => by rw [(hP _ h9.2).1, hM]) ?_
  rintro _ M' ⟨rfl, hp⟩
  refine AW.cast (st2 := [iv z]) (M2 := M') ?_ rfl rfl (pb_1 hM (hP _ hp).1 (hP _ hp).2)
  refine AW.widen (kc2 := 1) (ks2 := 6) (Nat.zero_le _) (Nat.zero_le _) ?_
  exact a_iret (pc := 6) ok dL_tryBorder_6 (⟨rfl, hp⟩)
theorem tx_tryBorder (hl : l.stackTraces = false) {a1 a2 : Int} (hM : M.length = 103) (hkc : kcM 103 M) (hob : M[0]? = some (.inr (6, fs))) (ct : CtX l yX6_border cX6_border 4 (some .int) rxborder [.ref 0, iv a1, iv a2] M nIO P) (hP : ∀ M9, P M9 → M9.length = 103 ∧ kcM 103 M9) :
    CtW l yL_tryBorder cL_tryBorder 4 (some .int) hhL_tryBorder rwL_tryBorder [.ref 0, iv a1, iv a2] M (fun v M8 => v = some (iv (-9999001)) ∧ P M8) := by
  refine CtW.of hl miL_tryBorder (Nat.le_of_ble_eq_true rfl) ?_
  intro X hXl hN ok ex tb
  subst hXl
  refine AW.cast (L2 := [some (.ref 0), some (iv a1), some (iv a2), none]) ?_ rfl rfl rfl
  refine a_aload_n (pc := 0) ok dL_tryBorder_0 rfl ?_
  refine a_iload_n (pc := 1) ok dL_tryBorder_1 rfl ?_
  refine a_iload_n (pc := 2) ok dL_tryBorder_2 rfl ?_
  exact w_callV2 (pc := 3) (hh := hhL_tryBorder) (k := -9999001) (name := nIO) (pre := []) (suf := []) (x := ⟨0, 6, 7, 23⟩) ok ex tb (List.range' 0 103) 103 dL_tryBorder_3 mvL_63 miX6_border ct ⟨by decide, by decide, rfl, rfl, by decide, by decide⟩ rfl rfl (Nat.le_of_ble_eq_true rfl) hM (fit_1 hM hkc) (nd_1 _) hob rfl (fun M9 h9 => by rw [(hP _ h9).1, hM]) rfl (fun z hz => nomatch hz) (by decide) (by decide) (ug3 164 (by decide +kernel) rfl) cast_nIO (Or.inl ⟨3, 25, dL_tryBorder_7, by rw [hN]; decide, dL_tryBorder_8, ug3 205 (by decide +kernel) rfl, dL_tryBorder_10⟩) (fun M9 h9 => ⟨rfl, by rw [pb_1 hM (hP _ h9).1 (hP _ h9).2]; exact h9⟩)
theorem dL_tryOutline_0 : decode cL_tryOutline 0 = .ok (.aload_n 0, 1) := by decide +kernel
theorem dL_tryOutline_1 : decode cL_tryOutline 1 = .ok (.iload_n 1, 1) := by decide +kernel
theorem dL_tryOutline_2 : decode cL_tryOutline 2 = .ok (.iload_n 2, 1) := by decide +kernel
theorem dL_tryOutline_3 : decode cL_tryOutline 3 = .ok (.invokevirtual 66, 3) := by decide +kernel
theorem dL_tryOutline_6 : decode cL_tryOutline 6 = .ok (.ireturn, 1) := by decide +kernel
theorem dL_tryOutline_7 : decode cL_tryOutline 7 = .ok (.astore_n 3, 1) := by decide +kernel
theorem dL_tryOutline_8 : decode cL_tryOutline 8 = .ok (.ldc 25, 2) := by decide +kernel
theorem dL_tryOutline_10 : decode cL_tryOutline 10 = .ok (.ireturn, 1) := by decide +kernel
theorem dL_tryOutline_11 : decode cL_tryOutline 11 = .ok (.astore_n 3, 1) := by decide +kernel
theorem dL_tryOutline_12 : decode cL_tryOutline 12 = .ok (.ldc 15, 2) := by decide +kernel
theorem dL_tryOutline_14 : decode cL_tryOutline 14 = .ok (.ireturn, 1) := by decide +kernel
theorem t_tryOutline (hl : l.stackTraces = false) {a1 a2 : Int} {z : Int} (hM : M.length = 103) (hkc : kcM 103 M) (hob : M[0]? = some (.inr (6, fs))) (ct : Ct l yX6_outline cX6_outline 4 (some .int) rmX6_outline [.ref 0, iv a1, iv a2] M (fun v M9 => v = some (iv z) ∧ P M9)) (hP : ∀ M9, P M9 → M9.length = 103 ∧ kcM 103 M9) :
    CtW l yL_tryOutline cL_tryOutline 4 (some .int) hhL_tryOutline rwL_tryOutline [.ref 0, iv a1, iv a2] M (fun v M8 => v = some (iv z) ∧ P M8) := by
  refine CtW.of hl miL_tryOutline (Nat.le_of_ble_eq_true rfl) ?_
  intro X hXl hN ok ex tb
  subst hXl
  refine AW.cast (L2 := [some (.ref 0), some (iv a1), some (iv a2), none]) ?_ rfl rfl rfl
  refine a_aload_n (pc := 0) ok dL_tryOutline_0 rfl ?_
  refine a_iload_n (pc := 1) ok dL_tryOutline_1 rfl ?_
  refine a_iload_n (pc := 2) ok dL_tryOutline_2 rfl ?_
  refine x_callV (pc := 3) ok (List.range' 0 103) 103 dL_tryOutline_3 mvL_66 miX6_outline ct ⟨by decide, by decide, rfl, rfl, Nat.zero_le _, Nat.zero_le _⟩ rfl rfl (Nat.le_of_ble_eq_true rfl) hM (fit_1 hM hkc) (nd_1 _) hob rfl (fun v M9 h9 => by rw [(hP _ h9.2).1, hM]) ?_
  rintro _ M' ⟨rfl, hp⟩
  refine AW.cast (st2 := [iv z]) (M2 := M') ?_ rfl rfl (pb_1 hM (hP _ hp).1 (hP _ hp).2)
  refine AW.widen (kc2 := 1) (ks2 := 6) (Nat.zero_le _) (Nat.zero_le _) ?_
  exact a_iret (pc := 6) ok dL_tryOutline_6 (⟨rfl, hp⟩)
theorem tx_tryOutline1 (hl : l.stackTraces = false) {a1 a2 : Int} (hM : M.length = 103) (hkc : kcM 103 M) (hob : M[0]? = some (.inr (6, fs))) (ct : CtX l yX6_outline cX6_outline 4 (some .int) rxoutline [.ref 0, iv a1, iv a2] M nIO P) (hP : ∀ M9, P M9 → M9.length = 103 ∧ kcM 103 M9) :
    CtW l yL_tryOutline cL_tryOutline 4 (some .int) hhL_tryOutline rwL_tryOutline [.ref 0, iv a1, iv a2] M (fun v M8 => v = some (iv (-9999001)) ∧ P M8) := by
  refine CtW.of hl miL_tryOutline (Nat.le_of_ble_eq_true rfl) ?_
  intro X hXl hN ok ex tb
  subst hXl
  refine AW.cast (L2 := [some (.ref 0), some (iv a1), some (iv a2), none]) ?_ rfl rfl rfl
  refine a_aload_n (pc := 0) ok dL_tryOutline_0 rfl ?_
  refine a_iload_n (pc := 1) ok dL_tryOutline_1 rfl ?_
  refine a_iload_n (pc := 2) ok dL_tryOutline_2 rfl ?_
  exact w_callV2 (pc := 3) (hh := hhL_tryOutline) (k := -9999001) (name := nIO) (pre := []) (suf := [⟨0, 6, 11, 13⟩]) (x := ⟨0, 6, 7, 23⟩) ok ex tb (List.range' 0 103) 103 dL_tryOutline_3 mvL_66 miX6_outline ct ⟨by decide, by decide, rfl, rfl, by decide, by decide⟩ rfl rfl (Nat.le_of_ble_eq_true rfl) hM (fit_1 hM hkc) (nd_1 _) hob rfl (fun M9 h9 => by rw [(hP _ h9).1, hM]) rfl (fun z hz => nomatch hz) (by decide) (by decide) (ug3 164 (by decide +kernel) rfl) cast_nIO (Or.inl ⟨3, 25, dL_tryOutline_7, by rw [hN]; decide, dL_tryOutline_8, ug3 205 (by decide +kernel) rfl, dL_tryOutline_10⟩) (fun M9 h9 => ⟨rfl, by rw [pb_1 hM (hP _ h9).1 (hP _ h9).2]; exact h9⟩)
theorem tx_tryOutline2 (hl : l.stackTraces = false) {a1 a2 : Int} (hM : M.length = 103) (hkc : kcM 103 M) (hob : M[0]? = some (.inr (6, fs))) (ct : CtX l yX6_outline cX6_outline 4 (some .int) rxoutline [.ref 0, iv a1, iv a2] M nIA P) (hP : ∀ M9, P M9 → M9.length = 103 ∧ kcM 103 M9) :
    CtW l yL_tryOutline cL_tryOutline 4 (some .int) hhL_tryOutline rwL_tryOutline [.ref 0, iv a1, iv a2] M (fun v M8 => v = some (iv (-9999002)) ∧ P M8) := by
  refine CtW.of hl miL_tryOutline (Nat.le_of_ble_eq_true rfl) ?_
  intro X hXl hN ok ex tb
  subst hXl
  refine AW.cast (L2 := [some (.ref 0), some (iv a1), some (iv a2), none]) ?_ rfl rfl rfl
  refine a_aload_n (pc := 0) ok dL_tryOutline_0 rfl ?_
  refine a_iload_n (pc := 1) ok dL_tryOutline_1 rfl ?_
  refine a_iload_n (pc := 2) ok dL_tryOutline_2 rfl ?_
  exact w_callV2 (pc := 3) (hh := hhL_tryOutline) (k := -9999002) (name := nIA) (pre := [⟨0, 6, 7, 23⟩]) (suf := []) (x := ⟨0, 6, 11, 13⟩) ok ex tb (List.range' 0 103) 103 dL_tryOutline_3 mvL_66 miX6_outline ct ⟨by decide, by decide, rfl, rfl, by decide, by decide⟩ rfl rfl (Nat.le_of_ble_eq_true rfl) hM (fit_1 hM hkc) (nd_1 _) hob rfl (fun M9 h9 => by rw [(hP _ h9).1, hM]) rfl (fun z hz => by cases List.mem_singleton.mp hz; exact ⟨by decide, nIO, ug3 164 (by decide +kernel) rfl, by decide +kernel⟩) (by decide) (by decide) (ug2 22 (by decide +kernel) rfl) cast_nIA (Or.inl ⟨3, 15, dL_tryOutline_11, by rw [hN]; decide, dL_tryOutline_12, ug2 127 (by decide +kernel) rfl, dL_tryOutline_14⟩) (fun M9 h9 => ⟨rfl, by rw [pb_1 hM (hP _ h9).1 (hP _ h9).2]; exact h9⟩)
theorem dL_tryWay_0 : decode cL_tryWay 0 = .ok (.aload_n 0, 1) := by decide +kernel
theorem dL_tryWay_1 : decode cL_tryWay 1 = .ok (.iload_n 1, 1) := by decide +kernel
theorem dL_tryWay_2 : decode cL_tryWay 2 = .ok (.iload_n 2, 1) := by decide +kernel
theorem dL_tryWay_3 : decode cL_tryWay 3 = .ok (.invokevirtual 69, 3) := by decide +kernel
theorem dL_tryWay_6 : decode cL_tryWay 6 = .ok (.ireturn, 1) := by decide +kernel
theorem dL_tryWay_7 : decode cL_tryWay 7 = .ok (.astore_n 3, 1) := by decide +kernel
theorem dL_tryWay_8 : decode cL_tryWay 8 = .ok (.ldc 25, 2) := by decide +kernel
theorem dL_tryWay_10 : decode cL_tryWay 10 = .ok (.ireturn, 1) := by decide +kernel
theorem t_tryWay (hl : l.stackTraces = false) {a1 a2 : Int} {z : Int} (hM : M.length = 103) (hkc : kcM 103 M) (hob : M[0]? = some (.inr (6, fs))) (ct : Ct l yX6_outlineWay cX6_outlineWay 4 (some .int) rmX6_outlineWay [.ref 0, iv a1, iv a2] M (fun v M9 => v = some (iv z) ∧ P M9)) (hP : ∀ M9, P M9 → M9.length = 103 ∧ kcM 103 M9) :
    CtW l yL_tryWay cL_tryWay 4 (some .int) hhL_tryWay rwL_tryWay [.ref 0, iv a1, iv a2] M (fun v M8 => v = some (iv z) ∧ P M8) := by
  refine CtW.of hl miL_tryWay (Nat.le_of_ble_eq_true rfl) ?_
  intro X hXl hN ok ex tb
  subst hXl
  refine AW.cast (L2 := [some (.ref 0), some (iv a1), some (iv a2), none]) ?_ rfl rfl rfl
  refine a_aload_n (pc := 0) ok dL_tryWay_0 rfl ?_
  refine a_iload_n (pc := 1) ok dL_tryWay_1 rfl ?_
  refine a_iload_n (pc := 2) ok dL_tryWay_2 rfl ?_
  refine x_callV (pc := 3) ok (List.range' 0 103) 103 dL_tryWay_3 mvL_69 miX6_outlineWay ct ⟨by decide, by decide, rfl, rfl, Nat.zero_le _, Nat.zero_le _⟩ rfl rfl (Nat.le_of_ble_eq_true rfl) hM (fit_1 hM hkc) (nd_1 _) hob rfl (fun v M9 h9 => by rw [(hP _ h9.2).1, hM]) ?_
  rintro _ M' ⟨rfl, hp⟩
  refine AW.cast (st2 := [iv z]) (M2 := M') ?_ rfl rfl (pb_1 hM (hP _ hp).1 (hP _ hp).2)
  refine AW.widen (kc2 := 1) (ks2 := 6) (Nat.zero_le _) (Nat.zero_le _) ?_
  exact a_iret (pc := 6) ok dL_tryWay_6 (⟨rfl, hp⟩)
theorem tx_tryWay (hl : l.stackTraces = false) {a1 a2 : Int} (hM : M.length = 103) (hkc : kcM 103 M) (hob : M[0]? = some (.inr (6, fs))) (ct : CtX l yX6_outlineWay cX6_outlineWay 4 (some .int) rxoutlineWay [.ref 0, iv a1, iv a2] M nIO P) (hP : ∀ M9, P M9 → M9.length = 103 ∧ kcM 103 M9) :
    CtW l yL_tryWay cL_tryWay 4 (some .int) hhL_tryWay rwL_tryWay [.ref 0, iv a1, iv a2] M (fun v M8 => v = some (iv (-9999001)) ∧ P M8) := by
  refine CtW.of hl miL_tryWay (Nat.le_of_ble_eq_true rfl) ?_
  intro X hXl hN ok ex tb
  subst hXl
  refine AW.cast (L2 := [some (.ref 0), some (iv a1), some (iv a2), none]) ?_ rfl rfl rfl
  refine a_aload_n (pc := 0) ok dL_tryWay_0 rfl ?_
  refine a_iload_n (pc := 1) ok dL_tryWay_1 rfl ?_
  refine a_iload_n (pc := 2) ok dL_tryWay_2 rfl ?_
  exact w_callV2 (pc := 3) (hh := hhL_tryWay) (k := -9999001) (name := nIO) (pre := []) (suf := []) (x := ⟨0, 6, 7, 23⟩) ok ex tb (List.range' 0 103) 103 dL_tryWay_3 mvL_69 miX6_outlineWay ct ⟨by decide, by decide, rfl, rfl, by decide, by decide⟩ rfl rfl (Nat.le_of_ble_eq_true rfl) hM (fit_1 hM hkc) (nd_1 _) hob rfl (fun M9 h9 => by rw [(hP _ h9).1, hM]) rfl (fun z hz => nomatch hz) (by decide) (by decide) (ug3 164 (by decide +kernel) rfl) cast_nIO (Or.inl ⟨3, 25, dL_tryWay_7, by rw [hN]; decide, dL_tryWay_8, ug3 205 (by decide +kernel) rfl, dL_tryWay_10⟩) (fun M9 h9 => ⟨rfl, by rw [pb_1 hM (hP _ h9).1 (hP _ h9).2]; exact h9⟩)
theorem dL_tryBand_0 : decode cL_tryBand 0 = .ok (.aload_n 0, 1) := by decide +kernel
theorem dL_tryBand_1 : decode cL_tryBand 1 = .ok (.iload_n 1, 1) := by decide +kernel
theorem dL_tryBand_2 : decode cL_tryBand 2 = .ok (.iload_n 2, 1) := by decide +kernel
theorem dL_tryBand_3 : decode cL_tryBand 3 = .ok (.invokevirtual 72, 3) := by decide +kernel
theorem dL_tryBand_6 : decode cL_tryBand 6 = .ok (.ireturn, 1) := by decide +kernel
theorem dL_tryBand_7 : decode cL_tryBand 7 = .ok (.astore_n 3, 1) := by decide +kernel
theorem dL_tryBand_8 : decode cL_tryBand 8 = .ok (.ldc 25, 2) := by decide +kernel
theorem dL_tryBand_10 : decode cL_tryBand 10 = .ok (.ireturn, 1) := by decide +kernel
theorem dL_tryBand_11 : decode cL_tryBand 11 = .ok (.astore_n 3, 1) := by decide +kernel
theorem dL_tryBand_12 : decode cL_tryBand 12 = .ok (.ldc 15, 2) := by decide +kernel
theorem dL_tryBand_14 : decode cL_tryBand 14 = .ok (.ireturn, 1) := by decide +kernel
theorem t_tryBand (hl : l.stackTraces = false) {a1 a2 : Int} {z : Int} (hM : M.length = 103) (hkc : kcM 103 M) (hob : M[0]? = some (.inr (6, fs))) (ct : Ct l yX6_band cX6_band 3 (some .int) rmX6_band [.ref 0, iv a1, iv a2] M (fun v M9 => v = some (iv z) ∧ P M9)) (hP : ∀ M9, P M9 → M9.length = 103 ∧ kcM 103 M9) :
    CtW l yL_tryBand cL_tryBand 4 (some .int) hhL_tryBand rwL_tryBand [.ref 0, iv a1, iv a2] M (fun v M8 => v = some (iv z) ∧ P M8) := by
  refine CtW.of hl miL_tryBand (Nat.le_of_ble_eq_true rfl) ?_
  intro X hXl hN ok ex tb
  subst hXl
  refine AW.cast (L2 := [some (.ref 0), some (iv a1), some (iv a2), none]) ?_ rfl rfl rfl
  refine a_aload_n (pc := 0) ok dL_tryBand_0 rfl ?_
  refine a_iload_n (pc := 1) ok dL_tryBand_1 rfl ?_
  refine a_iload_n (pc := 2) ok dL_tryBand_2 rfl ?_
  refine x_callV (pc := 3) ok (List.range' 0 103) 103 dL_tryBand_3 mvL_72 miX6_band ct ⟨by decide, by decide, rfl, rfl, Nat.zero_le _, Nat.zero_le _⟩ rfl rfl (Nat.le_of_ble_eq_true rfl) hM (fit_1 hM hkc) (nd_1 _) hob rfl (fun v M9 h9 => by rw [(hP _ h9.2).1, hM]) ?_
  rintro _ M' ⟨rfl, hp⟩
  refine AW.cast (st2 := [iv z]) (M2 := M') ?_ rfl rfl (pb_1 hM (hP _ hp).1 (hP _ hp).2)
  refine AW.widen (kc2 := 1) (ks2 := 6) (Nat.zero_le _) (Nat.zero_le _) ?_
  exact a_iret (pc := 6) ok dL_tryBand_6 (⟨rfl, hp⟩)
theorem tx_tryBand1 (hl : l.stackTraces = false) {a1 a2 : Int} (hM : M.length = 103) (hkc : kcM 103 M) (hob : M[0]? = some (.inr (6, fs))) (ct : CtX l yX6_band cX6_band 3 (some .int) rxband [.ref 0, iv a1, iv a2] M nIO P) (hP : ∀ M9, P M9 → M9.length = 103 ∧ kcM 103 M9) :
    CtW l yL_tryBand cL_tryBand 4 (some .int) hhL_tryBand rwL_tryBand [.ref 0, iv a1, iv a2] M (fun v M8 => v = some (iv (-9999001)) ∧ P M8) := by
  refine CtW.of hl miL_tryBand (Nat.le_of_ble_eq_true rfl) ?_
  intro X hXl hN ok ex tb
  subst hXl
  refine AW.cast (L2 := [some (.ref 0), some (iv a1), some (iv a2), none]) ?_ rfl rfl rfl
  refine a_aload_n (pc := 0) ok dL_tryBand_0 rfl ?_
  refine a_iload_n (pc := 1) ok dL_tryBand_1 rfl ?_
  refine a_iload_n (pc := 2) ok dL_tryBand_2 rfl ?_
  exact w_callV2 (pc := 3) (hh := hhL_tryBand) (k := -9999001) (name := nIO) (pre := []) (suf := [⟨0, 6, 11, 13⟩]) (x := ⟨0, 6, 7, 23⟩) ok ex tb (List.range' 0 103) 103 dL_tryBand_3 mvL_72 miX6_band ct ⟨by decide, by decide, rfl, rfl, by decide, by decide⟩ rfl rfl (Nat.le_of_ble_eq_true rfl) hM (fit_1 hM hkc) (nd_1 _) hob rfl (fun M9 h9 => by rw [(hP _ h9).1, hM]) rfl (fun z hz => nomatch hz) (by decide) (by decide) (ug3 164 (by decide +kernel) rfl) cast_nIO (Or.inl ⟨3, 25, dL_tryBand_7, by rw [hN]; decide, dL_tryBand_8, ug3 205 (by decide +kernel) rfl, dL_tryBand_10⟩) (fun M9 h9 => ⟨rfl, by rw [pb_1 hM (hP _ h9).1 (hP _ h9).2]; exact h9⟩)
theorem tx_tryBand2 (hl : l.stackTraces = false) {a1 a2 : Int} (hM : M.length = 103) (hkc : kcM 103 M) (hob : M[0]? = some (.inr (6, fs))) (ct : CtX l yX6_band cX6_band 3 (some .int) rxband [.ref 0, iv a1, iv a2] M nIA P) (hP : ∀ M9, P M9 → M9.length = 103 ∧ kcM 103 M9) :
    CtW l yL_tryBand cL_tryBand 4 (some .int) hhL_tryBand rwL_tryBand [.ref 0, iv a1, iv a2] M (fun v M8 => v = some (iv (-9999002)) ∧ P M8) := by
  refine CtW.of hl miL_tryBand (Nat.le_of_ble_eq_true rfl) ?_
  intro X hXl hN ok ex tb
  subst hXl
  refine AW.cast (L2 := [some (.ref 0), some (iv a1), some (iv a2), none]) ?_ rfl rfl rfl
  refine a_aload_n (pc := 0) ok dL_tryBand_0 rfl ?_
  refine a_iload_n (pc := 1) ok dL_tryBand_1 rfl ?_
  refine a_iload_n (pc := 2) ok dL_tryBand_2 rfl ?_
  exact w_callV2 (pc := 3) (hh := hhL_tryBand) (k := -9999002) (name := nIA) (pre := [⟨0, 6, 7, 23⟩]) (suf := []) (x := ⟨0, 6, 11, 13⟩) ok ex tb (List.range' 0 103) 103 dL_tryBand_3 mvL_72 miX6_band ct ⟨by decide, by decide, rfl, rfl, by decide, by decide⟩ rfl rfl (Nat.le_of_ble_eq_true rfl) hM (fit_1 hM hkc) (nd_1 _) hob rfl (fun M9 h9 => by rw [(hP _ h9).1, hM]) rfl (fun z hz => by cases List.mem_singleton.mp hz; exact ⟨by decide, nIO, ug3 164 (by decide +kernel) rfl, by decide +kernel⟩) (by decide) (by decide) (ug2 22 (by decide +kernel) rfl) cast_nIA (Or.inl ⟨3, 15, dL_tryBand_11, by rw [hN]; decide, dL_tryBand_12, ug2 127 (by decide +kernel) rfl, dL_tryBand_14⟩) (fun M9 h9 => ⟨rfl, by rw [pb_1 hM (hP _ h9).1 (hP _ h9).2]; exact h9⟩)
theorem dL_tryPlate_0 : decode cL_tryPlate 0 = .ok (.aload_n 0, 1) := by decide +kernel
theorem dL_tryPlate_1 : decode cL_tryPlate 1 = .ok (.iload_n 1, 1) := by decide +kernel
theorem dL_tryPlate_2 : decode cL_tryPlate 2 = .ok (.iload_n 2, 1) := by decide +kernel
theorem dL_tryPlate_3 : decode cL_tryPlate 3 = .ok (.invokevirtual 75, 3) := by decide +kernel
theorem dL_tryPlate_6 : decode cL_tryPlate 6 = .ok (.ireturn, 1) := by decide +kernel
theorem dL_tryPlate_7 : decode cL_tryPlate 7 = .ok (.astore_n 3, 1) := by decide +kernel
theorem dL_tryPlate_8 : decode cL_tryPlate 8 = .ok (.ldc 15, 2) := by decide +kernel
theorem dL_tryPlate_10 : decode cL_tryPlate 10 = .ok (.ireturn, 1) := by decide +kernel
theorem t_tryPlate (hl : l.stackTraces = false) {a1 a2 : Int} {z : Int} (hM : M.length = 103) (hkc : kcM 103 M) (hob : M[0]? = some (.inr (6, fs))) (ct : Ct l yX6_plate cX6_plate 3 (some .int) rmX6_plate [.ref 0, iv a1, iv a2] M (fun v M9 => v = some (iv z) ∧ P M9)) (hP : ∀ M9, P M9 → M9.length = 103 ∧ kcM 103 M9) :
    CtW l yL_tryPlate cL_tryPlate 4 (some .int) hhL_tryPlate rwL_tryPlate [.ref 0, iv a1, iv a2] M (fun v M8 => v = some (iv z) ∧ P M8) := by
  refine CtW.of hl miL_tryPlate (Nat.le_of_ble_eq_true rfl) ?_
  intro X hXl hN ok ex tb
  subst hXl
  refine AW.cast (L2 := [some (.ref 0), some (iv a1), some (iv a2), none]) ?_ rfl rfl rfl
  refine a_aload_n (pc := 0) ok dL_tryPlate_0 rfl ?_
  refine a_iload_n (pc := 1) ok dL_tryPlate_1 rfl ?_
  refine a_iload_n (pc := 2) ok dL_tryPlate_2 rfl ?_
  refine x_callV (pc := 3) ok (List.range' 0 103) 103 dL_tryPlate_3 mvL_75 miX6_plate ct ⟨by decide, by decide, rfl, rfl, Nat.zero_le _, Nat.zero_le _⟩ rfl rfl (Nat.le_of_ble_eq_true rfl) hM (fit_1 hM hkc) (nd_1 _) hob rfl (fun v M9 h9 => by rw [(hP _ h9.2).1, hM]) ?_
  rintro _ M' ⟨rfl, hp⟩
  refine AW.cast (st2 := [iv z]) (M2 := M') ?_ rfl rfl (pb_1 hM (hP _ hp).1 (hP _ hp).2)
  refine AW.widen (kc2 := 1) (ks2 := 6) (Nat.zero_le _) (Nat.zero_le _) ?_
  exact a_iret (pc := 6) ok dL_tryPlate_6 (⟨rfl, hp⟩)
theorem tx_tryPlate (hl : l.stackTraces = false) {a1 a2 : Int} (hM : M.length = 103) (hkc : kcM 103 M) (hob : M[0]? = some (.inr (6, fs))) (ct : CtX l yX6_plate cX6_plate 3 (some .int) rxplate [.ref 0, iv a1, iv a2] M nIA P) (hP : ∀ M9, P M9 → M9.length = 103 ∧ kcM 103 M9) :
    CtW l yL_tryPlate cL_tryPlate 4 (some .int) hhL_tryPlate rwL_tryPlate [.ref 0, iv a1, iv a2] M (fun v M8 => v = some (iv (-9999002)) ∧ P M8) := by
  refine CtW.of hl miL_tryPlate (Nat.le_of_ble_eq_true rfl) ?_
  intro X hXl hN ok ex tb
  subst hXl
  refine AW.cast (L2 := [some (.ref 0), some (iv a1), some (iv a2), none]) ?_ rfl rfl rfl
  refine a_aload_n (pc := 0) ok dL_tryPlate_0 rfl ?_
  refine a_iload_n (pc := 1) ok dL_tryPlate_1 rfl ?_
  refine a_iload_n (pc := 2) ok dL_tryPlate_2 rfl ?_
  exact w_callV2 (pc := 3) (hh := hhL_tryPlate) (k := -9999002) (name := nIA) (pre := []) (suf := []) (x := ⟨0, 6, 7, 13⟩) ok ex tb (List.range' 0 103) 103 dL_tryPlate_3 mvL_75 miX6_plate ct ⟨by decide, by decide, rfl, rfl, by decide, by decide⟩ rfl rfl (Nat.le_of_ble_eq_true rfl) hM (fit_1 hM hkc) (nd_1 _) hob rfl (fun M9 h9 => by rw [(hP _ h9).1, hM]) rfl (fun z hz => nomatch hz) (by decide) (by decide) (ug2 22 (by decide +kernel) rfl) cast_nIA (Or.inl ⟨3, 15, dL_tryPlate_7, by rw [hN]; decide, dL_tryPlate_8, ug2 127 (by decide +kernel) rfl, dL_tryPlate_10⟩) (fun M9 h9 => ⟨rfl, by rw [pb_1 hM (hP _ h9).1 (hP _ h9).2]; exact h9⟩)
theorem dL_tryPaint_0 : decode cL_tryPaint 0 = .ok (.aload_n 0, 1) := by decide +kernel
theorem dL_tryPaint_1 : decode cL_tryPaint 1 = .ok (.iload_n 1, 1) := by decide +kernel
theorem dL_tryPaint_2 : decode cL_tryPaint 2 = .ok (.iload_n 2, 1) := by decide +kernel
theorem dL_tryPaint_3 : decode cL_tryPaint 3 = .ok (.iload_n 3, 1) := by decide +kernel
theorem dL_tryPaint_4 : decode cL_tryPaint 4 = .ok (.invokevirtual 78, 3) := by decide +kernel
theorem dL_tryPaint_7 : decode cL_tryPaint 7 = .ok (.ireturn, 1) := by decide +kernel
theorem dL_tryPaint_8 : decode cL_tryPaint 8 = .ok (.astore 4, 2) := by decide +kernel
theorem dL_tryPaint_10 : decode cL_tryPaint 10 = .ok (.ldc 25, 2) := by decide +kernel
theorem dL_tryPaint_12 : decode cL_tryPaint 12 = .ok (.ireturn, 1) := by decide +kernel
theorem dL_tryPaint_13 : decode cL_tryPaint 13 = .ok (.astore 4, 2) := by decide +kernel
theorem dL_tryPaint_15 : decode cL_tryPaint 15 = .ok (.ldc 15, 2) := by decide +kernel
theorem dL_tryPaint_17 : decode cL_tryPaint 17 = .ok (.ireturn, 1) := by decide +kernel
theorem t_tryPaint (hl : l.stackTraces = false) {a1 a2 a3 : Int} {z : Int} (hM : M.length = 103) (hkc : kcM 103 M) (hob : M[0]? = some (.inr (6, fs))) (ct : Ct l yX6_cell cX6_cell 4 (some .int) rmX6_cell [.ref 0, iv a1, iv a2, iv a3] M (fun v M9 => v = some (iv z) ∧ P M9)) (hP : ∀ M9, P M9 → M9.length = 103 ∧ kcM 103 M9) :
    CtW l yL_tryPaint cL_tryPaint 5 (some .int) hhL_tryPaint rwL_tryPaint [.ref 0, iv a1, iv a2, iv a3] M (fun v M8 => v = some (iv z) ∧ P M8) := by
  refine CtW.of hl miL_tryPaint (Nat.le_of_ble_eq_true rfl) ?_
  intro X hXl hN ok ex tb
  subst hXl
  refine AW.cast (L2 := [some (.ref 0), some (iv a1), some (iv a2), some (iv a3), none]) ?_ rfl rfl rfl
  refine a_aload_n (pc := 0) ok dL_tryPaint_0 rfl ?_
  refine a_iload_n (pc := 1) ok dL_tryPaint_1 rfl ?_
  refine a_iload_n (pc := 2) ok dL_tryPaint_2 rfl ?_
  refine a_iload_n (pc := 3) ok dL_tryPaint_3 rfl ?_
  refine x_callV (pc := 4) ok (List.range' 0 103) 103 dL_tryPaint_4 mvL_78 miX6_cell ct ⟨by decide, by decide, rfl, rfl, Nat.zero_le _, Nat.zero_le _⟩ rfl rfl (Nat.le_of_ble_eq_true rfl) hM (fit_1 hM hkc) (nd_1 _) hob rfl (fun v M9 h9 => by rw [(hP _ h9.2).1, hM]) ?_
  rintro _ M' ⟨rfl, hp⟩
  refine AW.cast (st2 := [iv z]) (M2 := M') ?_ rfl rfl (pb_1 hM (hP _ hp).1 (hP _ hp).2)
  refine AW.widen (kc2 := 1) (ks2 := 6) (Nat.zero_le _) (Nat.zero_le _) ?_
  exact a_iret (pc := 7) ok dL_tryPaint_7 (⟨rfl, hp⟩)
theorem tx_tryPaint1 (hl : l.stackTraces = false) {a1 a2 a3 : Int} (hM : M.length = 103) (hkc : kcM 103 M) (hob : M[0]? = some (.inr (6, fs))) (ct : CtX l yX6_cell cX6_cell 4 (some .int) rxcell [.ref 0, iv a1, iv a2, iv a3] M nIO P) (hP : ∀ M9, P M9 → M9.length = 103 ∧ kcM 103 M9) :
    CtW l yL_tryPaint cL_tryPaint 5 (some .int) hhL_tryPaint rwL_tryPaint [.ref 0, iv a1, iv a2, iv a3] M (fun v M8 => v = some (iv (-9999001)) ∧ P M8) := by
  refine CtW.of hl miL_tryPaint (Nat.le_of_ble_eq_true rfl) ?_
  intro X hXl hN ok ex tb
  subst hXl
  refine AW.cast (L2 := [some (.ref 0), some (iv a1), some (iv a2), some (iv a3), none]) ?_ rfl rfl rfl
  refine a_aload_n (pc := 0) ok dL_tryPaint_0 rfl ?_
  refine a_iload_n (pc := 1) ok dL_tryPaint_1 rfl ?_
  refine a_iload_n (pc := 2) ok dL_tryPaint_2 rfl ?_
  refine a_iload_n (pc := 3) ok dL_tryPaint_3 rfl ?_
  exact w_callV2 (pc := 4) (hh := hhL_tryPaint) (k := -9999001) (name := nIO) (pre := []) (suf := [⟨0, 7, 13, 13⟩]) (x := ⟨0, 7, 8, 23⟩) ok ex tb (List.range' 0 103) 103 dL_tryPaint_4 mvL_78 miX6_cell ct ⟨by decide, by decide, rfl, rfl, by decide, by decide⟩ rfl rfl (Nat.le_of_ble_eq_true rfl) hM (fit_1 hM hkc) (nd_1 _) hob rfl (fun M9 h9 => by rw [(hP _ h9).1, hM]) rfl (fun z hz => nomatch hz) (by decide) (by decide) (ug3 164 (by decide +kernel) rfl) cast_nIO (Or.inr ⟨4, 25, dL_tryPaint_8, by rw [hN]; decide, dL_tryPaint_10, ug3 205 (by decide +kernel) rfl, dL_tryPaint_12⟩) (fun M9 h9 => ⟨rfl, by rw [pb_1 hM (hP _ h9).1 (hP _ h9).2]; exact h9⟩)
theorem tx_tryPaint2 (hl : l.stackTraces = false) {a1 a2 a3 : Int} (hM : M.length = 103) (hkc : kcM 103 M) (hob : M[0]? = some (.inr (6, fs))) (ct : CtX l yX6_cell cX6_cell 4 (some .int) rxcell [.ref 0, iv a1, iv a2, iv a3] M nIA P) (hP : ∀ M9, P M9 → M9.length = 103 ∧ kcM 103 M9) :
    CtW l yL_tryPaint cL_tryPaint 5 (some .int) hhL_tryPaint rwL_tryPaint [.ref 0, iv a1, iv a2, iv a3] M (fun v M8 => v = some (iv (-9999002)) ∧ P M8) := by
  refine CtW.of hl miL_tryPaint (Nat.le_of_ble_eq_true rfl) ?_
  intro X hXl hN ok ex tb
  subst hXl
  refine AW.cast (L2 := [some (.ref 0), some (iv a1), some (iv a2), some (iv a3), none]) ?_ rfl rfl rfl
  refine a_aload_n (pc := 0) ok dL_tryPaint_0 rfl ?_
  refine a_iload_n (pc := 1) ok dL_tryPaint_1 rfl ?_
  refine a_iload_n (pc := 2) ok dL_tryPaint_2 rfl ?_
  refine a_iload_n (pc := 3) ok dL_tryPaint_3 rfl ?_
  exact w_callV2 (pc := 4) (hh := hhL_tryPaint) (k := -9999002) (name := nIA) (pre := [⟨0, 7, 8, 23⟩]) (suf := []) (x := ⟨0, 7, 13, 13⟩) ok ex tb (List.range' 0 103) 103 dL_tryPaint_4 mvL_78 miX6_cell ct ⟨by decide, by decide, rfl, rfl, by decide, by decide⟩ rfl rfl (Nat.le_of_ble_eq_true rfl) hM (fit_1 hM hkc) (nd_1 _) hob rfl (fun M9 h9 => by rw [(hP _ h9).1, hM]) rfl (fun z hz => by cases List.mem_singleton.mp hz; exact ⟨by decide, nIO, ug3 164 (by decide +kernel) rfl, by decide +kernel⟩) (by decide) (by decide) (ug2 22 (by decide +kernel) rfl) cast_nIA (Or.inr ⟨4, 15, dL_tryPaint_13, by rw [hN]; decide, dL_tryPaint_15, ug2 127 (by decide +kernel) rfl, dL_tryPaint_17⟩) (fun M9 h9 => ⟨rfl, by rw [pb_1 hM (hP _ h9).1 (hP _ h9).2]; exact h9⟩)
theorem dL_tryShare_0 : decode cL_tryShare 0 = .ok (.aload_n 0, 1) := by decide +kernel
theorem dL_tryShare_1 : decode cL_tryShare 1 = .ok (.iload_n 1, 1) := by decide +kernel
theorem dL_tryShare_2 : decode cL_tryShare 2 = .ok (.invokevirtual 81, 3) := by decide +kernel
theorem dL_tryShare_5 : decode cL_tryShare 5 = .ok (.ireturn, 1) := by decide +kernel
theorem dL_tryShare_6 : decode cL_tryShare 6 = .ok (.astore_n 2, 1) := by decide +kernel
theorem dL_tryShare_7 : decode cL_tryShare 7 = .ok (.ldc 15, 2) := by decide +kernel
theorem dL_tryShare_9 : decode cL_tryShare 9 = .ok (.ireturn, 1) := by decide +kernel
theorem t_tryShare (hl : l.stackTraces = false) {a1 : Int} {z : Int} (hM : M.length = 103) (hkc : kcM 103 M) (hob : M[0]? = some (.inr (6, fs))) (ct : Ct l yX6_share cX6_share 2 (some .int) rmX6_share [.ref 0, iv a1] M (fun v M9 => v = some (iv z) ∧ P M9)) (hP : ∀ M9, P M9 → M9.length = 103 ∧ kcM 103 M9) :
    CtW l yL_tryShare cL_tryShare 3 (some .int) hhL_tryShare rwL_tryShare [.ref 0, iv a1] M (fun v M8 => v = some (iv z) ∧ P M8) := by
  refine CtW.of hl miL_tryShare (Nat.le_of_ble_eq_true rfl) ?_
  intro X hXl hN ok ex tb
  subst hXl
  refine AW.cast (L2 := [some (.ref 0), some (iv a1), none]) ?_ rfl rfl rfl
  refine a_aload_n (pc := 0) ok dL_tryShare_0 rfl ?_
  refine a_iload_n (pc := 1) ok dL_tryShare_1 rfl ?_
  refine x_callV (pc := 2) ok (List.range' 0 103) 103 dL_tryShare_2 mvL_81 miX6_share ct ⟨by decide, by decide, rfl, rfl, Nat.zero_le _, Nat.zero_le _⟩ rfl rfl (Nat.le_of_ble_eq_true rfl) hM (fit_1 hM hkc) (nd_1 _) hob rfl (fun v M9 h9 => by rw [(hP _ h9.2).1, hM]) ?_
  rintro _ M' ⟨rfl, hp⟩
  refine AW.cast (st2 := [iv z]) (M2 := M') ?_ rfl rfl (pb_1 hM (hP _ hp).1 (hP _ hp).2)
  refine AW.widen (kc2 := 1) (ks2 := 6) (Nat.zero_le _) (Nat.zero_le _) ?_
  exact a_iret (pc := 5) ok dL_tryShare_5 (⟨rfl, hp⟩)
theorem tx_tryShare (hl : l.stackTraces = false) {a1 : Int} (hM : M.length = 103) (hkc : kcM 103 M) (hob : M[0]? = some (.inr (6, fs))) (ct : CtX l yX6_share cX6_share 2 (some .int) rxshare [.ref 0, iv a1] M nIA P) (hP : ∀ M9, P M9 → M9.length = 103 ∧ kcM 103 M9) :
    CtW l yL_tryShare cL_tryShare 3 (some .int) hhL_tryShare rwL_tryShare [.ref 0, iv a1] M (fun v M8 => v = some (iv (-9999002)) ∧ P M8) := by
  refine CtW.of hl miL_tryShare (Nat.le_of_ble_eq_true rfl) ?_
  intro X hXl hN ok ex tb
  subst hXl
  refine AW.cast (L2 := [some (.ref 0), some (iv a1), none]) ?_ rfl rfl rfl
  refine a_aload_n (pc := 0) ok dL_tryShare_0 rfl ?_
  refine a_iload_n (pc := 1) ok dL_tryShare_1 rfl ?_
  exact w_callV2 (pc := 2) (hh := hhL_tryShare) (k := -9999002) (name := nIA) (pre := []) (suf := []) (x := ⟨0, 5, 6, 13⟩) ok ex tb (List.range' 0 103) 103 dL_tryShare_2 mvL_81 miX6_share ct ⟨by decide, by decide, rfl, rfl, by decide, by decide⟩ rfl rfl (Nat.le_of_ble_eq_true rfl) hM (fit_1 hM hkc) (nd_1 _) hob rfl (fun M9 h9 => by rw [(hP _ h9).1, hM]) rfl (fun z hz => nomatch hz) (by decide) (by decide) (ug2 22 (by decide +kernel) rfl) cast_nIA (Or.inl ⟨2, 15, dL_tryShare_6, by rw [hN]; decide, dL_tryShare_7, ug2 127 (by decide +kernel) rfl, dL_tryShare_9⟩) (fun M9 h9 => ⟨rfl, by rw [pb_1 hM (hP _ h9).1 (hP _ h9).2]; exact h9⟩)
theorem dL_tryLeast_0 : decode cL_tryLeast 0 = .ok (.aload_n 0, 1) := by decide +kernel
theorem dL_tryLeast_1 : decode cL_tryLeast 1 = .ok (.iload_n 1, 1) := by decide +kernel
theorem dL_tryLeast_2 : decode cL_tryLeast 2 = .ok (.invokevirtual 84, 3) := by decide +kernel
theorem dL_tryLeast_5 : decode cL_tryLeast 5 = .ok (.ireturn, 1) := by decide +kernel
theorem dL_tryLeast_6 : decode cL_tryLeast 6 = .ok (.astore_n 2, 1) := by decide +kernel
theorem dL_tryLeast_7 : decode cL_tryLeast 7 = .ok (.ldc 15, 2) := by decide +kernel
theorem dL_tryLeast_9 : decode cL_tryLeast 9 = .ok (.ireturn, 1) := by decide +kernel
theorem t_tryLeast (hl : l.stackTraces = false) {a1 : Int} {z : Int} (hM : M.length = 103) (hkc : kcM 103 M) (hob : M[0]? = some (.inr (6, fs))) (ct : Ct l yX6_least cX6_least 3 (some .int) rmX6_least [.ref 0, iv a1] M (fun v M9 => v = some (iv z) ∧ P M9)) (hP : ∀ M9, P M9 → M9.length = 103 ∧ kcM 103 M9) :
    CtW l yL_tryLeast cL_tryLeast 3 (some .int) hhL_tryLeast rwL_tryLeast [.ref 0, iv a1] M (fun v M8 => v = some (iv z) ∧ P M8) := by
  refine CtW.of hl miL_tryLeast (Nat.le_of_ble_eq_true rfl) ?_
  intro X hXl hN ok ex tb
  subst hXl
  refine AW.cast (L2 := [some (.ref 0), some (iv a1), none]) ?_ rfl rfl rfl
  refine a_aload_n (pc := 0) ok dL_tryLeast_0 rfl ?_
  refine a_iload_n (pc := 1) ok dL_tryLeast_1 rfl ?_
  refine x_callV (pc := 2) ok (List.range' 0 103) 103 dL_tryLeast_2 mvL_84 miX6_least ct ⟨by decide, by decide, rfl, rfl, Nat.zero_le _, Nat.zero_le _⟩ rfl rfl (Nat.le_of_ble_eq_true rfl) hM (fit_1 hM hkc) (nd_1 _) hob rfl (fun v M9 h9 => by rw [(hP _ h9.2).1, hM]) ?_
  rintro _ M' ⟨rfl, hp⟩
  refine AW.cast (st2 := [iv z]) (M2 := M') ?_ rfl rfl (pb_1 hM (hP _ hp).1 (hP _ hp).2)
  refine AW.widen (kc2 := 1) (ks2 := 6) (Nat.zero_le _) (Nat.zero_le _) ?_
  exact a_iret (pc := 5) ok dL_tryLeast_5 (⟨rfl, hp⟩)
theorem tx_tryLeast (hl : l.stackTraces = false) {a1 : Int} (hM : M.length = 103) (hkc : kcM 103 M) (hob : M[0]? = some (.inr (6, fs))) (ct : CtX l yX6_least cX6_least 3 (some .int) rxleast [.ref 0, iv a1] M nIA P) (hP : ∀ M9, P M9 → M9.length = 103 ∧ kcM 103 M9) :
    CtW l yL_tryLeast cL_tryLeast 3 (some .int) hhL_tryLeast rwL_tryLeast [.ref 0, iv a1] M (fun v M8 => v = some (iv (-9999002)) ∧ P M8) := by
  refine CtW.of hl miL_tryLeast (Nat.le_of_ble_eq_true rfl) ?_
  intro X hXl hN ok ex tb
  subst hXl
  refine AW.cast (L2 := [some (.ref 0), some (iv a1), none]) ?_ rfl rfl rfl
  refine a_aload_n (pc := 0) ok dL_tryLeast_0 rfl ?_
  refine a_iload_n (pc := 1) ok dL_tryLeast_1 rfl ?_
  exact w_callV2 (pc := 2) (hh := hhL_tryLeast) (k := -9999002) (name := nIA) (pre := []) (suf := []) (x := ⟨0, 5, 6, 13⟩) ok ex tb (List.range' 0 103) 103 dL_tryLeast_2 mvL_84 miX6_least ct ⟨by decide, by decide, rfl, rfl, by decide, by decide⟩ rfl rfl (Nat.le_of_ble_eq_true rfl) hM (fit_1 hM hkc) (nd_1 _) hob rfl (fun M9 h9 => by rw [(hP _ h9).1, hM]) rfl (fun z hz => nomatch hz) (by decide) (by decide) (ug2 22 (by decide +kernel) rfl) cast_nIA (Or.inl ⟨2, 15, dL_tryLeast_6, by rw [hN]; decide, dL_tryLeast_7, ug2 127 (by decide +kernel) rfl, dL_tryLeast_9⟩) (fun M9 h9 => ⟨rfl, by rw [pb_1 hM (hP _ h9).1 (hP _ h9).2]; exact h9⟩)
theorem dL_tryHatch_0 : decode cL_tryHatch 0 = .ok (.aload_n 0, 1) := by decide +kernel
theorem dL_tryHatch_1 : decode cL_tryHatch 1 = .ok (.iload_n 1, 1) := by decide +kernel
theorem dL_tryHatch_2 : decode cL_tryHatch 2 = .ok (.iload_n 2, 1) := by decide +kernel
theorem dL_tryHatch_3 : decode cL_tryHatch 3 = .ok (.invokevirtual 87, 3) := by decide +kernel
theorem dL_tryHatch_6 : decode cL_tryHatch 6 = .ok (.ireturn, 1) := by decide +kernel
theorem dL_tryHatch_7 : decode cL_tryHatch 7 = .ok (.astore_n 3, 1) := by decide +kernel
theorem dL_tryHatch_8 : decode cL_tryHatch 8 = .ok (.ldc 25, 2) := by decide +kernel
theorem dL_tryHatch_10 : decode cL_tryHatch 10 = .ok (.ireturn, 1) := by decide +kernel
theorem dL_tryHatch_11 : decode cL_tryHatch 11 = .ok (.astore_n 3, 1) := by decide +kernel
theorem dL_tryHatch_12 : decode cL_tryHatch 12 = .ok (.ldc 15, 2) := by decide +kernel
theorem dL_tryHatch_14 : decode cL_tryHatch 14 = .ok (.ireturn, 1) := by decide +kernel
theorem t_tryHatch (hl : l.stackTraces = false) {a1 a2 : Int} {z : Int} (hM : M.length = 103) (hkc : kcM 103 M) (hob : M[0]? = some (.inr (6, fs))) (ct : Ct l yX6_hatch cX6_hatch 4 (some .int) rmX6_hatch [.ref 0, iv a1, iv a2] M (fun v M9 => v = some (iv z) ∧ P M9)) (hP : ∀ M9, P M9 → M9.length = 103 ∧ kcM 103 M9) :
    CtW l yL_tryHatch cL_tryHatch 4 (some .int) hhL_tryHatch rwL_tryHatch [.ref 0, iv a1, iv a2] M (fun v M8 => v = some (iv z) ∧ P M8) := by
  refine CtW.of hl miL_tryHatch (Nat.le_of_ble_eq_true rfl) ?_
  intro X hXl hN ok ex tb
  subst hXl
  refine AW.cast (L2 := [some (.ref 0), some (iv a1), some (iv a2), none]) ?_ rfl rfl rfl
  refine a_aload_n (pc := 0) ok dL_tryHatch_0 rfl ?_
  refine a_iload_n (pc := 1) ok dL_tryHatch_1 rfl ?_
  refine a_iload_n (pc := 2) ok dL_tryHatch_2 rfl ?_
  refine x_callV (pc := 3) ok (List.range' 0 103) 103 dL_tryHatch_3 mvL_87 miX6_hatch ct ⟨by decide, by decide, rfl, rfl, Nat.zero_le _, Nat.zero_le _⟩ rfl rfl (Nat.le_of_ble_eq_true rfl) hM (fit_1 hM hkc) (nd_1 _) hob rfl (fun v M9 h9 => by rw [(hP _ h9.2).1, hM]) ?_
  rintro _ M' ⟨rfl, hp⟩
  refine AW.cast (st2 := [iv z]) (M2 := M') ?_ rfl rfl (pb_1 hM (hP _ hp).1 (hP _ hp).2)
  refine AW.widen (kc2 := 1) (ks2 := 6) (Nat.zero_le _) (Nat.zero_le _) ?_
  exact a_iret (pc := 6) ok dL_tryHatch_6 (⟨rfl, hp⟩)
theorem tx_tryHatch1 (hl : l.stackTraces = false) {a1 a2 : Int} (hM : M.length = 103) (hkc : kcM 103 M) (hob : M[0]? = some (.inr (6, fs))) (ct : CtX l yX6_hatch cX6_hatch 4 (some .int) rxhatch [.ref 0, iv a1, iv a2] M nIO P) (hP : ∀ M9, P M9 → M9.length = 103 ∧ kcM 103 M9) :
    CtW l yL_tryHatch cL_tryHatch 4 (some .int) hhL_tryHatch rwL_tryHatch [.ref 0, iv a1, iv a2] M (fun v M8 => v = some (iv (-9999001)) ∧ P M8) := by
  refine CtW.of hl miL_tryHatch (Nat.le_of_ble_eq_true rfl) ?_
  intro X hXl hN ok ex tb
  subst hXl
  refine AW.cast (L2 := [some (.ref 0), some (iv a1), some (iv a2), none]) ?_ rfl rfl rfl
  refine a_aload_n (pc := 0) ok dL_tryHatch_0 rfl ?_
  refine a_iload_n (pc := 1) ok dL_tryHatch_1 rfl ?_
  refine a_iload_n (pc := 2) ok dL_tryHatch_2 rfl ?_
  exact w_callV2 (pc := 3) (hh := hhL_tryHatch) (k := -9999001) (name := nIO) (pre := []) (suf := [⟨0, 6, 11, 13⟩]) (x := ⟨0, 6, 7, 23⟩) ok ex tb (List.range' 0 103) 103 dL_tryHatch_3 mvL_87 miX6_hatch ct ⟨by decide, by decide, rfl, rfl, by decide, by decide⟩ rfl rfl (Nat.le_of_ble_eq_true rfl) hM (fit_1 hM hkc) (nd_1 _) hob rfl (fun M9 h9 => by rw [(hP _ h9).1, hM]) rfl (fun z hz => nomatch hz) (by decide) (by decide) (ug3 164 (by decide +kernel) rfl) cast_nIO (Or.inl ⟨3, 25, dL_tryHatch_7, by rw [hN]; decide, dL_tryHatch_8, ug3 205 (by decide +kernel) rfl, dL_tryHatch_10⟩) (fun M9 h9 => ⟨rfl, by rw [pb_1 hM (hP _ h9).1 (hP _ h9).2]; exact h9⟩)
theorem tx_tryHatch2 (hl : l.stackTraces = false) {a1 a2 : Int} (hM : M.length = 103) (hkc : kcM 103 M) (hob : M[0]? = some (.inr (6, fs))) (ct : CtX l yX6_hatch cX6_hatch 4 (some .int) rxhatch [.ref 0, iv a1, iv a2] M nIA P) (hP : ∀ M9, P M9 → M9.length = 103 ∧ kcM 103 M9) :
    CtW l yL_tryHatch cL_tryHatch 4 (some .int) hhL_tryHatch rwL_tryHatch [.ref 0, iv a1, iv a2] M (fun v M8 => v = some (iv (-9999002)) ∧ P M8) := by
  refine CtW.of hl miL_tryHatch (Nat.le_of_ble_eq_true rfl) ?_
  intro X hXl hN ok ex tb
  subst hXl
  refine AW.cast (L2 := [some (.ref 0), some (iv a1), some (iv a2), none]) ?_ rfl rfl rfl
  refine a_aload_n (pc := 0) ok dL_tryHatch_0 rfl ?_
  refine a_iload_n (pc := 1) ok dL_tryHatch_1 rfl ?_
  refine a_iload_n (pc := 2) ok dL_tryHatch_2 rfl ?_
  exact w_callV2 (pc := 3) (hh := hhL_tryHatch) (k := -9999002) (name := nIA) (pre := [⟨0, 6, 7, 23⟩]) (suf := []) (x := ⟨0, 6, 11, 13⟩) ok ex tb (List.range' 0 103) 103 dL_tryHatch_3 mvL_87 miX6_hatch ct ⟨by decide, by decide, rfl, rfl, by decide, by decide⟩ rfl rfl (Nat.le_of_ble_eq_true rfl) hM (fit_1 hM hkc) (nd_1 _) hob rfl (fun M9 h9 => by rw [(hP _ h9).1, hM]) rfl (fun z hz => by cases List.mem_singleton.mp hz; exact ⟨by decide, nIO, ug3 164 (by decide +kernel) rfl, by decide +kernel⟩) (by decide) (by decide) (ug2 22 (by decide +kernel) rfl) cast_nIA (Or.inl ⟨3, 15, dL_tryHatch_11, by rw [hN]; decide, dL_tryHatch_12, ug2 127 (by decide +kernel) rfl, dL_tryHatch_14⟩) (fun M9 h9 => ⟨rfl, by rw [pb_1 hM (hP _ h9).1 (hP _ h9).2]; exact h9⟩)
theorem dL_tryLine_0 : decode cL_tryLine 0 = .ok (.aload_n 0, 1) := by decide +kernel
theorem dL_tryLine_1 : decode cL_tryLine 1 = .ok (.iload_n 1, 1) := by decide +kernel
theorem dL_tryLine_2 : decode cL_tryLine 2 = .ok (.invokevirtual 90, 3) := by decide +kernel
theorem dL_tryLine_5 : decode cL_tryLine 5 = .ok (.ireturn, 1) := by decide +kernel
theorem dL_tryLine_6 : decode cL_tryLine 6 = .ok (.astore_n 2, 1) := by decide +kernel
theorem dL_tryLine_7 : decode cL_tryLine 7 = .ok (.ldc 15, 2) := by decide +kernel
theorem dL_tryLine_9 : decode cL_tryLine 9 = .ok (.ireturn, 1) := by decide +kernel
theorem t_tryLine (hl : l.stackTraces = false) {a1 : Int} {z : Int} (hM : M.length = 103) (hkc : kcM 103 M) (hob : M[0]? = some (.inr (6, fs))) (ct : Ct l yX6_line cX6_line 3 (some .int) rmX6_line [.ref 0, iv a1] M (fun v M9 => v = some (iv z) ∧ P M9)) (hP : ∀ M9, P M9 → M9.length = 103 ∧ kcM 103 M9) :
    CtW l yL_tryLine cL_tryLine 3 (some .int) hhL_tryLine rwL_tryLine [.ref 0, iv a1] M (fun v M8 => v = some (iv z) ∧ P M8) := by
  refine CtW.of hl miL_tryLine (Nat.le_of_ble_eq_true rfl) ?_
  intro X hXl hN ok ex tb
  subst hXl
  refine AW.cast (L2 := [some (.ref 0), some (iv a1), none]) ?_ rfl rfl rfl
  refine a_aload_n (pc := 0) ok dL_tryLine_0 rfl ?_
  refine a_iload_n (pc := 1) ok dL_tryLine_1 rfl ?_
  refine x_callV (pc := 2) ok (List.range' 0 103) 103 dL_tryLine_2 mvL_90 miX6_line ct ⟨by decide, by decide, rfl, rfl, Nat.zero_le _, Nat.zero_le _⟩ rfl rfl (Nat.le_of_ble_eq_true rfl) hM (fit_1 hM hkc) (nd_1 _) hob rfl (fun v M9 h9 => by rw [(hP _ h9.2).1, hM]) ?_
  rintro _ M' ⟨rfl, hp⟩
  refine AW.cast (st2 := [iv z]) (M2 := M') ?_ rfl rfl (pb_1 hM (hP _ hp).1 (hP _ hp).2)
  refine AW.widen (kc2 := 1) (ks2 := 6) (Nat.zero_le _) (Nat.zero_le _) ?_
  exact a_iret (pc := 5) ok dL_tryLine_5 (⟨rfl, hp⟩)
theorem tx_tryLine (hl : l.stackTraces = false) {a1 : Int} (hM : M.length = 103) (hkc : kcM 103 M) (hob : M[0]? = some (.inr (6, fs))) (ct : CtX l yX6_line cX6_line 3 (some .int) rxline [.ref 0, iv a1] M nIA P) (hP : ∀ M9, P M9 → M9.length = 103 ∧ kcM 103 M9) :
    CtW l yL_tryLine cL_tryLine 3 (some .int) hhL_tryLine rwL_tryLine [.ref 0, iv a1] M (fun v M8 => v = some (iv (-9999002)) ∧ P M8) := by
  refine CtW.of hl miL_tryLine (Nat.le_of_ble_eq_true rfl) ?_
  intro X hXl hN ok ex tb
  subst hXl
  refine AW.cast (L2 := [some (.ref 0), some (iv a1), none]) ?_ rfl rfl rfl
  refine a_aload_n (pc := 0) ok dL_tryLine_0 rfl ?_
  refine a_iload_n (pc := 1) ok dL_tryLine_1 rfl ?_
  exact w_callV2 (pc := 2) (hh := hhL_tryLine) (k := -9999002) (name := nIA) (pre := []) (suf := []) (x := ⟨0, 5, 6, 13⟩) ok ex tb (List.range' 0 103) 103 dL_tryLine_2 mvL_90 miX6_line ct ⟨by decide, by decide, rfl, rfl, by decide, by decide⟩ rfl rfl (Nat.le_of_ble_eq_true rfl) hM (fit_1 hM hkc) (nd_1 _) hob rfl (fun M9 h9 => by rw [(hP _ h9).1, hM]) rfl (fun z hz => nomatch hz) (by decide) (by decide) (ug2 22 (by decide +kernel) rfl) cast_nIA (Or.inl ⟨2, 15, dL_tryLine_6, by rw [hN]; decide, dL_tryLine_7, ug2 127 (by decide +kernel) rfl, dL_tryLine_9⟩) (fun M9 h9 => ⟨rfl, by rw [pb_1 hM (hP _ h9).1 (hP _ h9).2]; exact h9⟩)
theorem dL_trySpread_0 : decode cL_trySpread 0 = .ok (.aload_n 0, 1) := by decide +kernel
theorem dL_trySpread_1 : decode cL_trySpread 1 = .ok (.iload_n 1, 1) := by decide +kernel
theorem dL_trySpread_2 : decode cL_trySpread 2 = .ok (.invokevirtual 93, 3) := by decide +kernel
theorem dL_trySpread_5 : decode cL_trySpread 5 = .ok (.ireturn, 1) := by decide +kernel
theorem dL_trySpread_6 : decode cL_trySpread 6 = .ok (.astore_n 2, 1) := by decide +kernel
theorem dL_trySpread_7 : decode cL_trySpread 7 = .ok (.ldc 15, 2) := by decide +kernel
theorem dL_trySpread_9 : decode cL_trySpread 9 = .ok (.ireturn, 1) := by decide +kernel
theorem t_trySpread (hl : l.stackTraces = false) {a1 : Int} {z : Int} (hM : M.length = 103) (hkc : kcM 103 M) (hob : M[0]? = some (.inr (6, fs))) (ct : Ct l yX6_spread cX6_spread 2 (some .int) rmX6_spread [.ref 0, iv a1] M (fun v M9 => v = some (iv z) ∧ P M9)) (hP : ∀ M9, P M9 → M9.length = 103 ∧ kcM 103 M9) :
    CtW l yL_trySpread cL_trySpread 3 (some .int) hhL_trySpread rwL_trySpread [.ref 0, iv a1] M (fun v M8 => v = some (iv z) ∧ P M8) := by
  refine CtW.of hl miL_trySpread (Nat.le_of_ble_eq_true rfl) ?_
  intro X hXl hN ok ex tb
  subst hXl
  refine AW.cast (L2 := [some (.ref 0), some (iv a1), none]) ?_ rfl rfl rfl
  refine a_aload_n (pc := 0) ok dL_trySpread_0 rfl ?_
  refine a_iload_n (pc := 1) ok dL_trySpread_1 rfl ?_
  refine x_callV (pc := 2) ok (List.range' 0 103) 103 dL_trySpread_2 mvL_93 miX6_spread ct ⟨by decide, by decide, rfl, rfl, Nat.zero_le _, Nat.zero_le _⟩ rfl rfl (Nat.le_of_ble_eq_true rfl) hM (fit_1 hM hkc) (nd_1 _) hob rfl (fun v M9 h9 => by rw [(hP _ h9.2).1, hM]) ?_
  rintro _ M' ⟨rfl, hp⟩
  refine AW.cast (st2 := [iv z]) (M2 := M') ?_ rfl rfl (pb_1 hM (hP _ hp).1 (hP _ hp).2)
  refine AW.widen (kc2 := 1) (ks2 := 6) (Nat.zero_le _) (Nat.zero_le _) ?_
  exact a_iret (pc := 5) ok dL_trySpread_5 (⟨rfl, hp⟩)
theorem tx_trySpread (hl : l.stackTraces = false) {a1 : Int} (hM : M.length = 103) (hkc : kcM 103 M) (hob : M[0]? = some (.inr (6, fs))) (ct : CtX l yX6_spread cX6_spread 2 (some .int) rxspread [.ref 0, iv a1] M nIA P) (hP : ∀ M9, P M9 → M9.length = 103 ∧ kcM 103 M9) :
    CtW l yL_trySpread cL_trySpread 3 (some .int) hhL_trySpread rwL_trySpread [.ref 0, iv a1] M (fun v M8 => v = some (iv (-9999002)) ∧ P M8) := by
  refine CtW.of hl miL_trySpread (Nat.le_of_ble_eq_true rfl) ?_
  intro X hXl hN ok ex tb
  subst hXl
  refine AW.cast (L2 := [some (.ref 0), some (iv a1), none]) ?_ rfl rfl rfl
  refine a_aload_n (pc := 0) ok dL_trySpread_0 rfl ?_
  refine a_iload_n (pc := 1) ok dL_trySpread_1 rfl ?_
  exact w_callV2 (pc := 2) (hh := hhL_trySpread) (k := -9999002) (name := nIA) (pre := []) (suf := []) (x := ⟨0, 5, 6, 13⟩) ok ex tb (List.range' 0 103) 103 dL_trySpread_2 mvL_93 miX6_spread ct ⟨by decide, by decide, rfl, rfl, by decide, by decide⟩ rfl rfl (Nat.le_of_ble_eq_true rfl) hM (fit_1 hM hkc) (nd_1 _) hob rfl (fun M9 h9 => by rw [(hP _ h9).1, hM]) rfl (fun z hz => nomatch hz) (by decide) (by decide) (ug2 22 (by decide +kernel) rfl) cast_nIA (Or.inl ⟨2, 15, dL_trySpread_6, by rw [hN]; decide, dL_trySpread_7, ug2 127 (by decide +kernel) rfl, dL_trySpread_9⟩) (fun M9 h9 => ⟨rfl, by rw [pb_1 hM (hP _ h9).1 (hP _ h9).2]; exact h9⟩)
theorem dL_tryUndo_0 : decode cL_tryUndo 0 = .ok (.aload_n 0, 1) := by decide +kernel
theorem dL_tryUndo_1 : decode cL_tryUndo 1 = .ok (.invokevirtual 96, 3) := by decide +kernel
theorem dL_tryUndo_4 : decode cL_tryUndo 4 = .ok (.ireturn, 1) := by decide +kernel
theorem dL_tryUndo_5 : decode cL_tryUndo 5 = .ok (.astore_n 1, 1) := by decide +kernel
theorem dL_tryUndo_6 : decode cL_tryUndo 6 = .ok (.ldc 18, 2) := by decide +kernel
theorem dL_tryUndo_8 : decode cL_tryUndo 8 = .ok (.ireturn, 1) := by decide +kernel
theorem t_tryUndo (hl : l.stackTraces = false) {z : Int} (hM : M.length = 103) (hkc : kcM 103 M) (hob : M[0]? = some (.inr (6, fs))) (ct : Ct l yX6_undo cX6_undo 1 (some .int) rmX6_undo [.ref 0] M (fun v M9 => v = some (iv z) ∧ P M9)) (hP : ∀ M9, P M9 → M9.length = 103 ∧ kcM 103 M9) :
    CtW l yL_tryUndo cL_tryUndo 2 (some .int) hhL_tryUndo rwL_tryUndo [.ref 0] M (fun v M8 => v = some (iv z) ∧ P M8) := by
  refine CtW.of hl miL_tryUndo (Nat.le_of_ble_eq_true rfl) ?_
  intro X hXl hN ok ex tb
  subst hXl
  refine AW.cast (L2 := [some (.ref 0), none]) ?_ rfl rfl rfl
  refine a_aload_n (pc := 0) ok dL_tryUndo_0 rfl ?_
  refine x_callV (pc := 1) ok (List.range' 0 103) 103 dL_tryUndo_1 mvL_96 miX6_undo ct ⟨by decide, by decide, rfl, rfl, Nat.zero_le _, Nat.zero_le _⟩ rfl rfl (Nat.le_of_ble_eq_true rfl) hM (fit_1 hM hkc) (nd_1 _) hob rfl (fun v M9 h9 => by rw [(hP _ h9.2).1, hM]) ?_
  rintro _ M' ⟨rfl, hp⟩
  refine AW.cast (st2 := [iv z]) (M2 := M') ?_ rfl rfl (pb_1 hM (hP _ hp).1 (hP _ hp).2)
  refine AW.widen (kc2 := 1) (ks2 := 6) (Nat.zero_le _) (Nat.zero_le _) ?_
  exact a_iret (pc := 4) ok dL_tryUndo_4 (⟨rfl, hp⟩)
theorem tx_tryUndo (hl : l.stackTraces = false) (hM : M.length = 103) (hkc : kcM 103 M) (hob : M[0]? = some (.inr (6, fs))) (ct : CtX l yX6_undo cX6_undo 1 (some .int) rxundo [.ref 0] M nIS P) (hP : ∀ M9, P M9 → M9.length = 103 ∧ kcM 103 M9) :
    CtW l yL_tryUndo cL_tryUndo 2 (some .int) hhL_tryUndo rwL_tryUndo [.ref 0] M (fun v M8 => v = some (iv (-9999003)) ∧ P M8) := by
  refine CtW.of hl miL_tryUndo (Nat.le_of_ble_eq_true rfl) ?_
  intro X hXl hN ok ex tb
  subst hXl
  refine AW.cast (L2 := [some (.ref 0), none]) ?_ rfl rfl rfl
  refine a_aload_n (pc := 0) ok dL_tryUndo_0 rfl ?_
  exact w_callV2 (pc := 1) (hh := hhL_tryUndo) (k := -9999003) (name := nIS) (pre := []) (suf := []) (x := ⟨0, 4, 5, 16⟩) ok ex tb (List.range' 0 103) 103 dL_tryUndo_1 mvL_96 miX6_undo ct ⟨by decide, by decide, rfl, rfl, by decide, by decide⟩ rfl rfl (Nat.le_of_ble_eq_true rfl) hM (fit_1 hM hkc) (nd_1 _) hob rfl (fun M9 h9 => by rw [(hP _ h9).1, hM]) rfl (fun z hz => nomatch hz) (by decide) (by decide) (ug2 23 (by decide +kernel) rfl) cast_nIS (Or.inl ⟨1, 18, dL_tryUndo_5, by rw [hN]; decide, dL_tryUndo_6, ug2 128 (by decide +kernel) rfl, dL_tryUndo_8⟩) (fun M9 h9 => ⟨rfl, by rw [pb_1 hM (hP _ h9).1 (hP _ h9).2]; exact h9⟩)
theorem dL_tryIf_0 : decode cL_tryIf 0 = .ok (.aload_n 0, 1) := by decide +kernel
theorem dL_tryIf_1 : decode cL_tryIf 1 = .ok (.iload_n 1, 1) := by decide +kernel
theorem dL_tryIf_2 : decode cL_tryIf 2 = .ok (.iload_n 2, 1) := by decide +kernel
theorem dL_tryIf_3 : decode cL_tryIf 3 = .ok (.invokevirtual 99, 3) := by decide +kernel
theorem dL_tryIf_6 : decode cL_tryIf 6 = .ok (.ireturn, 1) := by decide +kernel
theorem dL_tryIf_7 : decode cL_tryIf 7 = .ok (.astore_n 3, 1) := by decide +kernel
theorem dL_tryIf_8 : decode cL_tryIf 8 = .ok (.ldc 15, 2) := by decide +kernel
theorem dL_tryIf_10 : decode cL_tryIf 10 = .ok (.ireturn, 1) := by decide +kernel
theorem t_tryIf (hl : l.stackTraces = false) {a1 a2 : Int} {z : Int} (hM : M.length = 103) (hkc : kcM 103 M) (hob : M[0]? = some (.inr (6, fs))) (ct : Ct l yX6_ifLeast cX6_ifLeast 3 (some .int) rmX6_ifLeast [.ref 0, iv a1, iv a2] M (fun v M9 => v = some (iv z) ∧ P M9)) (hP : ∀ M9, P M9 → M9.length = 103 ∧ kcM 103 M9) :
    CtW l yL_tryIf cL_tryIf 4 (some .int) hhL_tryIf rwL_tryIf [.ref 0, iv a1, iv a2] M (fun v M8 => v = some (iv z) ∧ P M8) := by
  refine CtW.of hl miL_tryIf (Nat.le_of_ble_eq_true rfl) ?_
  intro X hXl hN ok ex tb
  subst hXl
  refine AW.cast (L2 := [some (.ref 0), some (iv a1), some (iv a2), none]) ?_ rfl rfl rfl
  refine a_aload_n (pc := 0) ok dL_tryIf_0 rfl ?_
  refine a_iload_n (pc := 1) ok dL_tryIf_1 rfl ?_
  refine a_iload_n (pc := 2) ok dL_tryIf_2 rfl ?_
  refine x_callV (pc := 3) ok (List.range' 0 103) 103 dL_tryIf_3 mvL_99 miX6_ifLeast ct ⟨by decide, by decide, rfl, rfl, Nat.zero_le _, Nat.zero_le _⟩ rfl rfl (Nat.le_of_ble_eq_true rfl) hM (fit_1 hM hkc) (nd_1 _) hob rfl (fun v M9 h9 => by rw [(hP _ h9.2).1, hM]) ?_
  rintro _ M' ⟨rfl, hp⟩
  refine AW.cast (st2 := [iv z]) (M2 := M') ?_ rfl rfl (pb_1 hM (hP _ hp).1 (hP _ hp).2)
  refine AW.widen (kc2 := 1) (ks2 := 6) (Nat.zero_le _) (Nat.zero_le _) ?_
  exact a_iret (pc := 6) ok dL_tryIf_6 (⟨rfl, hp⟩)
theorem tx_tryIf (hl : l.stackTraces = false) {a1 a2 : Int} (hM : M.length = 103) (hkc : kcM 103 M) (hob : M[0]? = some (.inr (6, fs))) (ct : CtX l yX6_ifLeast cX6_ifLeast 3 (some .int) rxifLeast [.ref 0, iv a1, iv a2] M nIA P) (hP : ∀ M9, P M9 → M9.length = 103 ∧ kcM 103 M9) :
    CtW l yL_tryIf cL_tryIf 4 (some .int) hhL_tryIf rwL_tryIf [.ref 0, iv a1, iv a2] M (fun v M8 => v = some (iv (-9999002)) ∧ P M8) := by
  refine CtW.of hl miL_tryIf (Nat.le_of_ble_eq_true rfl) ?_
  intro X hXl hN ok ex tb
  subst hXl
  refine AW.cast (L2 := [some (.ref 0), some (iv a1), some (iv a2), none]) ?_ rfl rfl rfl
  refine a_aload_n (pc := 0) ok dL_tryIf_0 rfl ?_
  refine a_iload_n (pc := 1) ok dL_tryIf_1 rfl ?_
  refine a_iload_n (pc := 2) ok dL_tryIf_2 rfl ?_
  exact w_callV2 (pc := 3) (hh := hhL_tryIf) (k := -9999002) (name := nIA) (pre := []) (suf := []) (x := ⟨0, 6, 7, 13⟩) ok ex tb (List.range' 0 103) 103 dL_tryIf_3 mvL_99 miX6_ifLeast ct ⟨by decide, by decide, rfl, rfl, by decide, by decide⟩ rfl rfl (Nat.le_of_ble_eq_true rfl) hM (fit_1 hM hkc) (nd_1 _) hob rfl (fun M9 h9 => by rw [(hP _ h9).1, hM]) rfl (fun z hz => nomatch hz) (by decide) (by decide) (ug2 22 (by decide +kernel) rfl) cast_nIA (Or.inl ⟨3, 15, dL_tryIf_7, by rw [hN]; decide, dL_tryIf_8, ug2 127 (by decide +kernel) rfl, dL_tryIf_10⟩) (fun M9 h9 => ⟨rfl, by rw [pb_1 hM (hP _ h9).1 (hP _ h9).2]; exact h9⟩)
theorem dL_tryFor_0 : decode cL_tryFor 0 = .ok (.aload_n 0, 1) := by decide +kernel
theorem dL_tryFor_1 : decode cL_tryFor 1 = .ok (.iload_n 1, 1) := by decide +kernel
theorem dL_tryFor_2 : decode cL_tryFor 2 = .ok (.invokevirtual 102, 3) := by decide +kernel
theorem dL_tryFor_5 : decode cL_tryFor 5 = .ok (.ireturn, 1) := by decide +kernel
theorem dL_tryFor_6 : decode cL_tryFor 6 = .ok (.astore_n 2, 1) := by decide +kernel
theorem dL_tryFor_7 : decode cL_tryFor 7 = .ok (.ldc 15, 2) := by decide +kernel
theorem dL_tryFor_9 : decode cL_tryFor 9 = .ok (.ireturn, 1) := by decide +kernel
theorem t_tryFor (hl : l.stackTraces = false) {a1 : Int} {z : Int} (hM : M.length = 103) (hkc : kcM 103 M) (hob : M[0]? = some (.inr (6, fs))) (ct : Ct l yX6_leastFor cX6_leastFor 3 (some .int) rmX6_leastFor [.ref 0, iv a1] M (fun v M9 => v = some (iv z) ∧ P M9)) (hP : ∀ M9, P M9 → M9.length = 103 ∧ kcM 103 M9) :
    CtW l yL_tryFor cL_tryFor 3 (some .int) hhL_tryFor rwL_tryFor [.ref 0, iv a1] M (fun v M8 => v = some (iv z) ∧ P M8) := by
  refine CtW.of hl miL_tryFor (Nat.le_of_ble_eq_true rfl) ?_
  intro X hXl hN ok ex tb
  subst hXl
  refine AW.cast (L2 := [some (.ref 0), some (iv a1), none]) ?_ rfl rfl rfl
  refine a_aload_n (pc := 0) ok dL_tryFor_0 rfl ?_
  refine a_iload_n (pc := 1) ok dL_tryFor_1 rfl ?_
  refine x_callV (pc := 2) ok (List.range' 0 103) 103 dL_tryFor_2 mvL_102 miX6_leastFor ct ⟨by decide, by decide, rfl, rfl, Nat.zero_le _, Nat.zero_le _⟩ rfl rfl (Nat.le_of_ble_eq_true rfl) hM (fit_1 hM hkc) (nd_1 _) hob rfl (fun v M9 h9 => by rw [(hP _ h9.2).1, hM]) ?_
  rintro _ M' ⟨rfl, hp⟩
  refine AW.cast (st2 := [iv z]) (M2 := M') ?_ rfl rfl (pb_1 hM (hP _ hp).1 (hP _ hp).2)
  refine AW.widen (kc2 := 1) (ks2 := 6) (Nat.zero_le _) (Nat.zero_le _) ?_
  exact a_iret (pc := 5) ok dL_tryFor_5 (⟨rfl, hp⟩)
theorem tx_tryFor (hl : l.stackTraces = false) {a1 : Int} (hM : M.length = 103) (hkc : kcM 103 M) (hob : M[0]? = some (.inr (6, fs))) (ct : CtX l yX6_leastFor cX6_leastFor 3 (some .int) rxleastFor [.ref 0, iv a1] M nIA P) (hP : ∀ M9, P M9 → M9.length = 103 ∧ kcM 103 M9) :
    CtW l yL_tryFor cL_tryFor 3 (some .int) hhL_tryFor rwL_tryFor [.ref 0, iv a1] M (fun v M8 => v = some (iv (-9999002)) ∧ P M8) := by
  refine CtW.of hl miL_tryFor (Nat.le_of_ble_eq_true rfl) ?_
  intro X hXl hN ok ex tb
  subst hXl
  refine AW.cast (L2 := [some (.ref 0), some (iv a1), none]) ?_ rfl rfl rfl
  refine a_aload_n (pc := 0) ok dL_tryFor_0 rfl ?_
  refine a_iload_n (pc := 1) ok dL_tryFor_1 rfl ?_
  exact w_callV2 (pc := 2) (hh := hhL_tryFor) (k := -9999002) (name := nIA) (pre := []) (suf := []) (x := ⟨0, 5, 6, 13⟩) ok ex tb (List.range' 0 103) 103 dL_tryFor_2 mvL_102 miX6_leastFor ct ⟨by decide, by decide, rfl, rfl, by decide, by decide⟩ rfl rfl (Nat.le_of_ble_eq_true rfl) hM (fit_1 hM hkc) (nd_1 _) hob rfl (fun M9 h9 => by rw [(hP _ h9).1, hM]) rfl (fun z hz => nomatch hz) (by decide) (by decide) (ug2 22 (by decide +kernel) rfl) cast_nIA (Or.inl ⟨2, 15, dL_tryFor_6, by rw [hN]; decide, dL_tryFor_7, ug2 127 (by decide +kernel) rfl, dL_tryFor_9⟩) (fun M9 h9 => ⟨rfl, by rw [pb_1 hM (hP _ h9).1 (hP _ h9).2]; exact h9⟩)
theorem dL_tryBest_0 : decode cL_tryBest 0 = .ok (.aload_n 0, 1) := by decide +kernel
theorem dL_tryBest_1 : decode cL_tryBest 1 = .ok (.iload_n 1, 1) := by decide +kernel
theorem dL_tryBest_2 : decode cL_tryBest 2 = .ok (.invokevirtual 105, 3) := by decide +kernel
theorem dL_tryBest_5 : decode cL_tryBest 5 = .ok (.ireturn, 1) := by decide +kernel
theorem dL_tryBest_6 : decode cL_tryBest 6 = .ok (.astore_n 2, 1) := by decide +kernel
theorem dL_tryBest_7 : decode cL_tryBest 7 = .ok (.ldc 25, 2) := by decide +kernel
theorem dL_tryBest_9 : decode cL_tryBest 9 = .ok (.ireturn, 1) := by decide +kernel
theorem t_tryBest (hl : l.stackTraces = false) {a1 : Int} {z : Int} (hM : M.length = 103) (hkc : kcM 103 M) (hob : M[0]? = some (.inr (6, fs))) (ct : Ct l yX6_bestMove cX6_bestMove 9 (some .int) rmX6_bestMove [.ref 0, iv a1] M (fun v M9 => v = some (iv z) ∧ P M9)) (hP : ∀ M9, P M9 → M9.length = 103 ∧ kcM 103 M9) :
    CtW l yL_tryBest cL_tryBest 3 (some .int) hhL_tryBest rwL_tryBest [.ref 0, iv a1] M (fun v M8 => v = some (iv z) ∧ P M8) := by
  refine CtW.of hl miL_tryBest (Nat.le_of_ble_eq_true rfl) ?_
  intro X hXl hN ok ex tb
  subst hXl
  refine AW.cast (L2 := [some (.ref 0), some (iv a1), none]) ?_ rfl rfl rfl
  refine a_aload_n (pc := 0) ok dL_tryBest_0 rfl ?_
  refine a_iload_n (pc := 1) ok dL_tryBest_1 rfl ?_
  refine x_callV (pc := 2) ok (List.range' 0 103) 103 dL_tryBest_2 mvL_105 miX6_bestMove ct ⟨by decide, by decide, rfl, rfl, Nat.zero_le _, Nat.zero_le _⟩ rfl rfl (Nat.le_of_ble_eq_true rfl) hM (fit_1 hM hkc) (nd_1 _) hob rfl (fun v M9 h9 => by rw [(hP _ h9.2).1, hM]) ?_
  rintro _ M' ⟨rfl, hp⟩
  refine AW.cast (st2 := [iv z]) (M2 := M') ?_ rfl rfl (pb_1 hM (hP _ hp).1 (hP _ hp).2)
  refine AW.widen (kc2 := 1) (ks2 := 6) (Nat.zero_le _) (Nat.zero_le _) ?_
  exact a_iret (pc := 5) ok dL_tryBest_5 (⟨rfl, hp⟩)
theorem tx_tryBest (hl : l.stackTraces = false) {a1 : Int} (hM : M.length = 103) (hkc : kcM 103 M) (hob : M[0]? = some (.inr (6, fs))) (ct : CtX l yX6_bestMove cX6_bestMove 9 (some .int) rxbestMove [.ref 0, iv a1] M nIO P) (hP : ∀ M9, P M9 → M9.length = 103 ∧ kcM 103 M9) :
    CtW l yL_tryBest cL_tryBest 3 (some .int) hhL_tryBest rwL_tryBest [.ref 0, iv a1] M (fun v M8 => v = some (iv (-9999001)) ∧ P M8) := by
  refine CtW.of hl miL_tryBest (Nat.le_of_ble_eq_true rfl) ?_
  intro X hXl hN ok ex tb
  subst hXl
  refine AW.cast (L2 := [some (.ref 0), some (iv a1), none]) ?_ rfl rfl rfl
  refine a_aload_n (pc := 0) ok dL_tryBest_0 rfl ?_
  refine a_iload_n (pc := 1) ok dL_tryBest_1 rfl ?_
  exact w_callV2 (pc := 2) (hh := hhL_tryBest) (k := -9999001) (name := nIO) (pre := []) (suf := []) (x := ⟨0, 5, 6, 23⟩) ok ex tb (List.range' 0 103) 103 dL_tryBest_2 mvL_105 miX6_bestMove ct ⟨by decide, by decide, rfl, rfl, by decide, by decide⟩ rfl rfl (Nat.le_of_ble_eq_true rfl) hM (fit_1 hM hkc) (nd_1 _) hob rfl (fun M9 h9 => by rw [(hP _ h9).1, hM]) rfl (fun z hz => nomatch hz) (by decide) (by decide) (ug3 164 (by decide +kernel) rfl) cast_nIO (Or.inl ⟨2, 25, dL_tryBest_6, by rw [hN]; decide, dL_tryBest_7, ug3 205 (by decide +kernel) rfl, dL_tryBest_9⟩) (fun M9 h9 => ⟨rfl, by rw [pb_1 hM (hP _ h9).1 (hP _ h9).2]; exact h9⟩)
theorem dL_tryKeep_0 : decode cL_tryKeep 0 = .ok (.aload_n 0, 1) := by decide +kernel
theorem dL_tryKeep_1 : decode cL_tryKeep 1 = .ok (.iload_n 1, 1) := by decide +kernel
theorem dL_tryKeep_2 : decode cL_tryKeep 2 = .ok (.invokevirtual 108, 3) := by decide +kernel
theorem dL_tryKeep_5 : decode cL_tryKeep 5 = .ok (.ireturn, 1) := by decide +kernel
theorem dL_tryKeep_6 : decode cL_tryKeep 6 = .ok (.astore_n 2, 1) := by decide +kernel
theorem dL_tryKeep_7 : decode cL_tryKeep 7 = .ok (.ldc 25, 2) := by decide +kernel
theorem dL_tryKeep_9 : decode cL_tryKeep 9 = .ok (.ireturn, 1) := by decide +kernel
theorem t_tryKeep (hl : l.stackTraces = false) {a1 : Int} {z : Int} (hM : M.length = 103) (hkc : kcM 103 M) (hob : M[0]? = some (.inr (6, fs))) (ct : Ct l yX6_save cX6_save 2 (some .int) rmX6_save [.ref 0, iv a1] M (fun v M9 => v = some (iv z) ∧ P M9)) (hP : ∀ M9, P M9 → M9.length = 103 ∧ kcM 103 M9) :
    CtW l yL_tryKeep cL_tryKeep 3 (some .int) hhL_tryKeep rwL_tryKeep [.ref 0, iv a1] M (fun v M8 => v = some (iv z) ∧ P M8) := by
  refine CtW.of hl miL_tryKeep (Nat.le_of_ble_eq_true rfl) ?_
  intro X hXl hN ok ex tb
  subst hXl
  refine AW.cast (L2 := [some (.ref 0), some (iv a1), none]) ?_ rfl rfl rfl
  refine a_aload_n (pc := 0) ok dL_tryKeep_0 rfl ?_
  refine a_iload_n (pc := 1) ok dL_tryKeep_1 rfl ?_
  refine x_callV (pc := 2) ok (List.range' 0 103) 103 dL_tryKeep_2 mvL_108 miX6_save ct ⟨by decide, by decide, rfl, rfl, Nat.zero_le _, Nat.zero_le _⟩ rfl rfl (Nat.le_of_ble_eq_true rfl) hM (fit_1 hM hkc) (nd_1 _) hob rfl (fun v M9 h9 => by rw [(hP _ h9.2).1, hM]) ?_
  rintro _ M' ⟨rfl, hp⟩
  refine AW.cast (st2 := [iv z]) (M2 := M') ?_ rfl rfl (pb_1 hM (hP _ hp).1 (hP _ hp).2)
  refine AW.widen (kc2 := 1) (ks2 := 6) (Nat.zero_le _) (Nat.zero_le _) ?_
  exact a_iret (pc := 5) ok dL_tryKeep_5 (⟨rfl, hp⟩)
theorem tx_tryKeep (hl : l.stackTraces = false) {a1 : Int} (hM : M.length = 103) (hkc : kcM 103 M) (hob : M[0]? = some (.inr (6, fs))) (ct : CtX l yX6_save cX6_save 2 (some .int) rxsave [.ref 0, iv a1] M nIO P) (hP : ∀ M9, P M9 → M9.length = 103 ∧ kcM 103 M9) :
    CtW l yL_tryKeep cL_tryKeep 3 (some .int) hhL_tryKeep rwL_tryKeep [.ref 0, iv a1] M (fun v M8 => v = some (iv (-9999001)) ∧ P M8) := by
  refine CtW.of hl miL_tryKeep (Nat.le_of_ble_eq_true rfl) ?_
  intro X hXl hN ok ex tb
  subst hXl
  refine AW.cast (L2 := [some (.ref 0), some (iv a1), none]) ?_ rfl rfl rfl
  refine a_aload_n (pc := 0) ok dL_tryKeep_0 rfl ?_
  refine a_iload_n (pc := 1) ok dL_tryKeep_1 rfl ?_
  exact w_callV2 (pc := 2) (hh := hhL_tryKeep) (k := -9999001) (name := nIO) (pre := []) (suf := []) (x := ⟨0, 5, 6, 23⟩) ok ex tb (List.range' 0 103) 103 dL_tryKeep_2 mvL_108 miX6_save ct ⟨by decide, by decide, rfl, rfl, by decide, by decide⟩ rfl rfl (Nat.le_of_ble_eq_true rfl) hM (fit_1 hM hkc) (nd_1 _) hob rfl (fun M9 h9 => by rw [(hP _ h9).1, hM]) rfl (fun z hz => nomatch hz) (by decide) (by decide) (ug3 164 (by decide +kernel) rfl) cast_nIO (Or.inl ⟨2, 25, dL_tryKeep_6, by rw [hN]; decide, dL_tryKeep_7, ug3 205 (by decide +kernel) rfl, dL_tryKeep_9⟩) (fun M9 h9 => ⟨rfl, by rw [pb_1 hM (hP _ h9).1 (hP _ h9).2]; exact h9⟩)
theorem dL_tryBack_0 : decode cL_tryBack 0 = .ok (.aload_n 0, 1) := by decide +kernel
theorem dL_tryBack_1 : decode cL_tryBack 1 = .ok (.iload_n 1, 1) := by decide +kernel
theorem dL_tryBack_2 : decode cL_tryBack 2 = .ok (.invokevirtual 111, 3) := by decide +kernel
theorem dL_tryBack_5 : decode cL_tryBack 5 = .ok (.ireturn, 1) := by decide +kernel
theorem dL_tryBack_6 : decode cL_tryBack 6 = .ok (.astore_n 2, 1) := by decide +kernel
theorem dL_tryBack_7 : decode cL_tryBack 7 = .ok (.ldc 25, 2) := by decide +kernel
theorem dL_tryBack_9 : decode cL_tryBack 9 = .ok (.ireturn, 1) := by decide +kernel
theorem dL_tryBack_10 : decode cL_tryBack 10 = .ok (.astore_n 2, 1) := by decide +kernel
theorem dL_tryBack_11 : decode cL_tryBack 11 = .ok (.ldc 18, 2) := by decide +kernel
theorem dL_tryBack_13 : decode cL_tryBack 13 = .ok (.ireturn, 1) := by decide +kernel
theorem t_tryBack (hl : l.stackTraces = false) {a1 : Int} {z : Int} (hM : M.length = 103) (hkc : kcM 103 M) (hob : M[0]? = some (.inr (6, fs))) (ct : Ct l yX6_restore cX6_restore 2 (some .int) rmX6_restore [.ref 0, iv a1] M (fun v M9 => v = some (iv z) ∧ P M9)) (hP : ∀ M9, P M9 → M9.length = 103 ∧ kcM 103 M9) :
    CtW l yL_tryBack cL_tryBack 3 (some .int) hhL_tryBack rwL_tryBack [.ref 0, iv a1] M (fun v M8 => v = some (iv z) ∧ P M8) := by
  refine CtW.of hl miL_tryBack (Nat.le_of_ble_eq_true rfl) ?_
  intro X hXl hN ok ex tb
  subst hXl
  refine AW.cast (L2 := [some (.ref 0), some (iv a1), none]) ?_ rfl rfl rfl
  refine a_aload_n (pc := 0) ok dL_tryBack_0 rfl ?_
  refine a_iload_n (pc := 1) ok dL_tryBack_1 rfl ?_
  refine x_callV (pc := 2) ok (List.range' 0 103) 103 dL_tryBack_2 mvL_111 miX6_restore ct ⟨by decide, by decide, rfl, rfl, Nat.zero_le _, Nat.zero_le _⟩ rfl rfl (Nat.le_of_ble_eq_true rfl) hM (fit_1 hM hkc) (nd_1 _) hob rfl (fun v M9 h9 => by rw [(hP _ h9.2).1, hM]) ?_
  rintro _ M' ⟨rfl, hp⟩
  refine AW.cast (st2 := [iv z]) (M2 := M') ?_ rfl rfl (pb_1 hM (hP _ hp).1 (hP _ hp).2)
  refine AW.widen (kc2 := 1) (ks2 := 6) (Nat.zero_le _) (Nat.zero_le _) ?_
  exact a_iret (pc := 5) ok dL_tryBack_5 (⟨rfl, hp⟩)
theorem tx_tryBack1 (hl : l.stackTraces = false) {a1 : Int} (hM : M.length = 103) (hkc : kcM 103 M) (hob : M[0]? = some (.inr (6, fs))) (ct : CtX l yX6_restore cX6_restore 2 (some .int) rxrestore [.ref 0, iv a1] M nIO P) (hP : ∀ M9, P M9 → M9.length = 103 ∧ kcM 103 M9) :
    CtW l yL_tryBack cL_tryBack 3 (some .int) hhL_tryBack rwL_tryBack [.ref 0, iv a1] M (fun v M8 => v = some (iv (-9999001)) ∧ P M8) := by
  refine CtW.of hl miL_tryBack (Nat.le_of_ble_eq_true rfl) ?_
  intro X hXl hN ok ex tb
  subst hXl
  refine AW.cast (L2 := [some (.ref 0), some (iv a1), none]) ?_ rfl rfl rfl
  refine a_aload_n (pc := 0) ok dL_tryBack_0 rfl ?_
  refine a_iload_n (pc := 1) ok dL_tryBack_1 rfl ?_
  exact w_callV2 (pc := 2) (hh := hhL_tryBack) (k := -9999001) (name := nIO) (pre := []) (suf := [⟨0, 5, 10, 16⟩]) (x := ⟨0, 5, 6, 23⟩) ok ex tb (List.range' 0 103) 103 dL_tryBack_2 mvL_111 miX6_restore ct ⟨by decide, by decide, rfl, rfl, by decide, by decide⟩ rfl rfl (Nat.le_of_ble_eq_true rfl) hM (fit_1 hM hkc) (nd_1 _) hob rfl (fun M9 h9 => by rw [(hP _ h9).1, hM]) rfl (fun z hz => nomatch hz) (by decide) (by decide) (ug3 164 (by decide +kernel) rfl) cast_nIO (Or.inl ⟨2, 25, dL_tryBack_6, by rw [hN]; decide, dL_tryBack_7, ug3 205 (by decide +kernel) rfl, dL_tryBack_9⟩) (fun M9 h9 => ⟨rfl, by rw [pb_1 hM (hP _ h9).1 (hP _ h9).2]; exact h9⟩)
theorem tx_tryBack2 (hl : l.stackTraces = false) {a1 : Int} (hM : M.length = 103) (hkc : kcM 103 M) (hob : M[0]? = some (.inr (6, fs))) (ct : CtX l yX6_restore cX6_restore 2 (some .int) rxrestore [.ref 0, iv a1] M nIS P) (hP : ∀ M9, P M9 → M9.length = 103 ∧ kcM 103 M9) :
    CtW l yL_tryBack cL_tryBack 3 (some .int) hhL_tryBack rwL_tryBack [.ref 0, iv a1] M (fun v M8 => v = some (iv (-9999003)) ∧ P M8) := by
  refine CtW.of hl miL_tryBack (Nat.le_of_ble_eq_true rfl) ?_
  intro X hXl hN ok ex tb
  subst hXl
  refine AW.cast (L2 := [some (.ref 0), some (iv a1), none]) ?_ rfl rfl rfl
  refine a_aload_n (pc := 0) ok dL_tryBack_0 rfl ?_
  refine a_iload_n (pc := 1) ok dL_tryBack_1 rfl ?_
  exact w_callV2 (pc := 2) (hh := hhL_tryBack) (k := -9999003) (name := nIS) (pre := [⟨0, 5, 6, 23⟩]) (suf := []) (x := ⟨0, 5, 10, 16⟩) ok ex tb (List.range' 0 103) 103 dL_tryBack_2 mvL_111 miX6_restore ct ⟨by decide, by decide, rfl, rfl, by decide, by decide⟩ rfl rfl (Nat.le_of_ble_eq_true rfl) hM (fit_1 hM hkc) (nd_1 _) hob rfl (fun M9 h9 => by rw [(hP _ h9).1, hM]) rfl (fun z hz => by cases List.mem_singleton.mp hz; exact ⟨by decide, nIO, ug3 164 (by decide +kernel) rfl, by decide +kernel⟩) (by decide) (by decide) (ug2 23 (by decide +kernel) rfl) cast_nIS (Or.inl ⟨2, 18, dL_tryBack_10, by rw [hN]; decide, dL_tryBack_11, ug2 128 (by decide +kernel) rfl, dL_tryBack_13⟩) (fun M9 h9 => ⟨rfl, by rw [pb_1 hM (hP _ h9).1 (hP _ h9).2]; exact h9⟩)
end WW1
