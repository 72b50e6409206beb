/-! CALLS of the law's own methods, by the worlds of one object, of two, of one with rows behind it. -/
section RD
variable {X : Cx} {cc : ByteArray} {own : String} {ret : Option FieldType} {rm : Room} {post : Option Value → List va_E → Prop} {mc ms kc ks pc : Nat} {L : List (Option Value)} {st rest : List Value} {M N R : List va_E}
variable {y : MethodName} {cc2 : ByteArray} {nL2 n2 idx : Nat} {ret2 : Option FieldType} {rm2 : Room} {hh : List (Nat × Nat × Nat × Nat)} {A A' B B' : Ob} {av2 : List Value} {z : Int}
abbrev P1 : List Nat := List.range' 0 103
abbrev P2o : List Nat := List.range' 0 103 ++ List.range' 103 103
abbrev P2q : List Nat := List.range' 103 103
/-- one value, and an object's world -/
abbrev po1 (z : Int) (A : Ob) : Option Value → List va_E → Prop := fun v M => v = some (iv z) ∧ WO A M
/-- .. and two objects' worlds -/
abbrev po2 (z : Int) (A B : Ob) : Option Value → List va_E → Prop := fun v W => v = some (iv z) ∧ ∃ M N, WO A M ∧ WO B N ∧ W = W2 103 M N
theorem po1_cl (hW : WO A M) : ∀ v M', po1 z A' v M' → (∃ q : Option Int, v = q.map iv) ∧ M'.length ≤ M.length ∧ kcM M.length M' := fun v M' h => by
  rw [WO_len hW]
  exact ⟨⟨some z, h.1⟩, by rw [WO_len h.2]; exact Nat.le_refl _, WO_kc h.2⟩
theorem po2_cl (hW : WO A M) (hV : WO B N) : ∀ v W', po2 z A' B' v W' → (∃ q : Option Int, v = q.map iv) ∧ W'.length ≤ (W2 103 M N).length ∧ kcM (W2 103 M N).length W' := fun v W' h => by
  obtain ⟨h1, M', N', h2, h3, rfl⟩ := h
  rw [W2_len (WO_len hW) (WO_len hV)]
  exact ⟨⟨some z, h1⟩, by rw [W2_len (WO_len h2) (WO_len h3)]; exact Nat.le_refl _, W2_kc (WO_kc h2) (WO_kc h3)⟩
theorem po1_len (hW : WO A M) : ∀ v M', po1 z A' v M' → M'.length = M.length := fun v M' h => by rw [WO_len h.2, WO_len hW]
/-- a method with no table: one object -/
theorem v_o (ok : OK X cc own ret rm post mc ms) (ex : EX X) (ao : va_AO RX4 X.2.1.1) (hd : decode cc pc = .ok (.invokestatic idx, 3)) (hw : Cond.methodLink own idx y ∈ UG) (hsx : Cond.static y ∈ UG) (mi : MI y cc2 nL2 ret2 n2) (hW : WO A M) (ct : CtV X.1.2.1 y cc2 nL2 ret2 rm2 av2 M (po1 z A'))
    (hroom : rm2.frames + 1 ≤ rm.frames ∧ 8 + (nL2 + 11) + rm2.locals ≤ rm.locals) (hroom2 : kc + rm2.cells ≤ rm.cells ∧ ks + rm2.slots ≤ rm.slots) (hn2 : av2.length = n2) (hst : st = (av2.map (cv (rn P1))).reverse ++ rest) (hrest : (rest.map fun v => v.category).sum ≤ 8)
    (kk : ∀ M', WO A' M' → AW X (kc + rm2.cells) (ks + rm2.slots) (pc + 3) L (iv z :: rest) M') : AW X kc ks pc L st M := by
  refine v_callS ok ex ao P1 103 hd hw hsx mi ct hroom hroom2 hn2 hst hrest (WO_len hW) (fit_1 (WO_len hW) (WO_kc hW)) (nd_1 _) (po1_len hW) ?_
  rintro _ M' ⟨rfl, h⟩
  rw [pb_1 (WO_len hW) (WO_len h) (WO_kc h)]
  exact kk M' h
theorem v_oo (ok : OK X cc own ret rm post mc ms) (ex : EX X) (ao : va_AO RX4 X.2.1.1) (hd : decode cc pc = .ok (.invokestatic idx, 3)) (hw : Cond.methodLink own idx y ∈ UG) (hsx : Cond.static y ∈ UG) (mi : MI y cc2 nL2 ret2 n2) (hW : WO A M) (ct : CtV X.1.2.1 y cc2 nL2 ret2 rm2 av2 M (po1 z A'))
    (hroom : rm2.frames + 1 ≤ rm.frames ∧ 8 + (nL2 + 11) + rm2.locals ≤ rm.locals) (hroom2 : kc + rm2.cells ≤ rm.cells ∧ ks + rm2.slots ≤ rm.slots) (hn2 : av2.length = n2) (hst : st = (av2.map (cv (rn P2o))).reverse ++ rest) (hrest : (rest.map fun v => v.category).sum ≤ 8)
    (kk : ∀ M', WO A' M' → AW X (kc + rm2.cells) (ks + rm2.slots) (pc + 3) L (iv z :: rest) (W2 103 M' N)) : AW X kc ks pc L st (W2 103 M N) := by
  refine v_callS ok ex ao P2o 103 hd hw hsx mi ct hroom hroom2 hn2 hst hrest (WO_len hW) (fit_id (WO_len hW) (WO_kc hW)) (nd_id _ _) (po1_len hW) ?_
  rintro _ M' ⟨rfl, h⟩
  have e := pb_id (T := List.range' 103 103) (R := N.map (re (List.range' 103 103))) (WO_len hW) (WO_len h) (WO_kc h)
  refine AW.cast (M2 := W2 103 M' N) (kk M' h) rfl rfl e
theorem v_qq (ok : OK X cc own ret rm post mc ms) (ex : EX X) (ao : va_AO RX4 X.2.1.1) (hd : decode cc pc = .ok (.invokestatic idx, 3)) (hw : Cond.methodLink own idx y ∈ UG) (hsx : Cond.static y ∈ UG) (mi : MI y cc2 nL2 ret2 n2) (hW : WO A M) (hV : WO B N) (ct : CtV X.1.2.1 y cc2 nL2 ret2 rm2 av2 N (po1 z B'))
    (hroom : rm2.frames + 1 ≤ rm.frames ∧ 8 + (nL2 + 11) + rm2.locals ≤ rm.locals) (hroom2 : kc + rm2.cells ≤ rm.cells ∧ ks + rm2.slots ≤ rm.slots) (hn2 : av2.length = n2) (hst : st = (av2.map (cv (rn P2q))).reverse ++ rest) (hrest : (rest.map fun v => v.category).sum ≤ 8)
    (kk : ∀ N', WO B' N' → AW X (kc + rm2.cells) (ks + rm2.slots) (pc + 3) L (iv z :: rest) (W2 103 M N')) : AW X kc ks pc L st (W2 103 M N) := by
  refine v_callS ok ex ao P2q 103 hd hw hsx mi ct hroom hroom2 hn2 hst hrest (WO_len hV) (fit_2 (WO_len hW) (WO_len hV)) (nd_2 _) (po1_len hV) ?_
  rintro _ N' ⟨rfl, h⟩
  exact AW.cast (M2 := W2 103 M N') (kk N' h) rfl rfl (pb_2 (WO_len hW) (WO_len hV) (WO_len h))
/-- .. two objects -/
theorem v_w (ok : OK X cc own ret rm post mc ms) (ex : EX X) (ao : va_AO RX4 X.2.1.1) (hd : decode cc pc = .ok (.invokestatic idx, 3)) (hw : Cond.methodLink own idx y ∈ UG) (hsx : Cond.static y ∈ UG) (mi : MI y cc2 nL2 ret2 n2) (hW : WO A M) (hV : WO B N) (ct : CtV X.1.2.1 y cc2 nL2 ret2 rm2 av2 (W2 103 M N) (po2 z A' B'))
    (hroom : rm2.frames + 1 ≤ rm.frames ∧ 8 + (nL2 + 11) + rm2.locals ≤ rm.locals) (hroom2 : kc + rm2.cells ≤ rm.cells ∧ ks + rm2.slots ≤ rm.slots) (hn2 : av2.length = n2) (hst : st = (av2.map (cv (rn (List.range' 0 206)))).reverse ++ rest) (hrest : (rest.map fun v => v.category).sum ≤ 8)
    (kk : ∀ M' N', WO A' M' → WO B' N' → AW X (kc + rm2.cells) (ks + rm2.slots) (pc + 3) L (iv z :: rest) (W2 103 M' N')) : AW X kc ks pc L st (W2 103 M N) := by
  have hl := W2_len (WO_len hW) (WO_len hV)
  refine v_callS ok ex ao (List.range' 0 206) 206 hd hw hsx mi ct hroom hroom2 hn2 hst hrest hl (fit_1 hl (W2_kc (WO_kc hW) (WO_kc hV))) (nd_1 _) (fun v W' h => by obtain ⟨-, M', N', h2, h3, rfl⟩ := h; rw [hl]; exact W2_len (WO_len h2) (WO_len h3)) ?_
  rintro _ _ ⟨rfl, M', N', h2, h3, rfl⟩
  exact AW.cast (M2 := W2 103 M' N') (kk M' N' h2 h3) rfl rfl (pb_1 hl (W2_len (WO_len h2) (WO_len h3)) (W2_kc (WO_kc h2) (WO_kc h3)))
/-- .. one object, rows behind it -/
theorem v_h (ok : OK X cc own ret rm post mc ms) (ex : EX X) (ao : va_AO RX4 X.2.1.1) (hd : decode cc pc = .ok (.invokestatic idx, 3)) (hw : Cond.methodLink own idx y ∈ UG) (hsx : Cond.static y ∈ UG) (mi : MI y cc2 nL2 ret2 n2) (hW : WO A M) (ct : CtV X.1.2.1 y cc2 nL2 ret2 rm2 av2 M (po1 z A'))
    (hroom : rm2.frames + 1 ≤ rm.frames ∧ 8 + (nL2 + 11) + rm2.locals ≤ rm.locals) (hroom2 : kc + rm2.cells ≤ rm.cells ∧ ks + rm2.slots ≤ rm.slots) (hn2 : av2.length = n2) (hst : st = (av2.map (cv (rn (List.range' 0 103 ++ [])))).reverse ++ rest) (hrest : (rest.map fun v => v.category).sum ≤ 8)
    (kk : ∀ M', WO A' M' → AW X (kc + rm2.cells) (ks + rm2.slots) (pc + 3) L (iv z :: rest) (M' ++ R)) : AW X kc ks pc L st (M ++ R) := by
  refine v_callS ok ex ao (List.range' 0 103 ++ []) 103 hd hw hsx mi ct hroom hroom2 hn2 hst hrest (WO_len hW) (fit_id (WO_len hW) (WO_kc hW)) (nd_id _ _) (po1_len hW) ?_
  rintro _ M' ⟨rfl, h⟩
  exact AW.cast (M2 := M' ++ R) (kk M' h) rfl rfl (pb_id (WO_len hW) (WO_len h) (WO_kc h))
/-- a method with a table: one object -/
theorem w_o (ok : OK X cc own ret rm post mc ms) (ex : EX X) (hd : decode cc pc = .ok (.invokestatic idx, 3)) (hw : Cond.methodLink own idx y ∈ UG) (hsx : Cond.static y ∈ UG) (mi : MIW y cc2 nL2 ret2 hh n2) (hW : WO A M) (ct : CtW X.1.2.1 y cc2 nL2 ret2 hh rm2 av2 M (po1 z A'))
    (hroom : rm2.frames + 1 ≤ rm.frames ∧ 8 + (nL2 + 11) + rm2.locals ≤ rm.locals ∧ rm2.cells = 1 ∧ rm2.slots = 6) (hroom2 : kc + 1 ≤ rm.cells ∧ ks + 6 ≤ rm.slots) (hn2 : av2.length = n2) (hst : st = (av2.map (cv (rn P1))).reverse ++ rest) (hrest : (rest.map fun v => v.category).sum ≤ 8)
    (kk : ∀ M', WO A' M' → AW X (kc + 1) (ks + 6) (pc + 3) L (iv z :: rest) M') : AW X kc ks pc L st M := by
  refine l_callS ok ex P1 103 hd hw hsx mi ct hroom hroom2 hn2 hst hrest (WO_len hW) (fit_1 (WO_len hW) (WO_kc hW)) (nd_1 _) (po1_len hW) ?_
  rintro _ M' ⟨rfl, h⟩
  rw [pb_1 (WO_len hW) (WO_len h) (WO_kc h)]
  exact kk M' h
theorem w_oo (ok : OK X cc own ret rm post mc ms) (ex : EX X) (hd : decode cc pc = .ok (.invokestatic idx, 3)) (hw : Cond.methodLink own idx y ∈ UG) (hsx : Cond.static y ∈ UG) (mi : MIW y cc2 nL2 ret2 hh n2) (hW : WO A M) (ct : CtW X.1.2.1 y cc2 nL2 ret2 hh rm2 av2 M (po1 z A'))
    (hroom : rm2.frames + 1 ≤ rm.frames ∧ 8 + (nL2 + 11) + rm2.locals ≤ rm.locals ∧ rm2.cells = 1 ∧ rm2.slots = 6) (hroom2 : kc + 1 ≤ rm.cells ∧ ks + 6 ≤ rm.slots) (hn2 : av2.length = n2) (hst : st = (av2.map (cv (rn P2o))).reverse ++ rest) (hrest : (rest.map fun v => v.category).sum ≤ 8)
    (kk : ∀ M', WO A' M' → AW X (kc + 1) (ks + 6) (pc + 3) L (iv z :: rest) (W2 103 M' N)) : AW X kc ks pc L st (W2 103 M N) := by
  refine l_callS ok ex P2o 103 hd hw hsx mi ct hroom hroom2 hn2 hst hrest (WO_len hW) (fit_id (WO_len hW) (WO_kc hW)) (nd_id _ _) (po1_len hW) ?_
  rintro _ M' ⟨rfl, h⟩
  have e := pb_id (T := List.range' 103 103) (R := N.map (re (List.range' 103 103))) (WO_len hW) (WO_len h) (WO_kc h)
  exact AW.cast (M2 := W2 103 M' N) (kk M' h) rfl rfl e
theorem w_qq (ok : OK X cc own ret rm post mc ms) (ex : EX X) (hd : decode cc pc = .ok (.invokestatic idx, 3)) (hw : Cond.methodLink own idx y ∈ UG) (hsx : Cond.static y ∈ UG) (mi : MIW y cc2 nL2 ret2 hh n2) (hW : WO A M) (hV : WO B N) (ct : CtW X.1.2.1 y cc2 nL2 ret2 hh rm2 av2 N (po1 z B'))
    (hroom : rm2.frames + 1 ≤ rm.frames ∧ 8 + (nL2 + 11) + rm2.locals ≤ rm.locals ∧ rm2.cells = 1 ∧ rm2.slots = 6) (hroom2 : kc + 1 ≤ rm.cells ∧ ks + 6 ≤ rm.slots) (hn2 : av2.length = n2) (hst : st = (av2.map (cv (rn P2q))).reverse ++ rest) (hrest : (rest.map fun v => v.category).sum ≤ 8)
    (kk : ∀ N', WO B' N' → AW X (kc + 1) (ks + 6) (pc + 3) L (iv z :: rest) (W2 103 M N')) : AW X kc ks pc L st (W2 103 M N) := by
  refine l_callS ok ex P2q 103 hd hw hsx mi ct hroom hroom2 hn2 hst hrest (WO_len hV) (fit_2 (WO_len hW) (WO_len hV)) (nd_2 _) (po1_len hV) ?_
  rintro _ N' ⟨rfl, h⟩
  exact AW.cast (M2 := W2 103 M N') (kk N' h) rfl rfl (pb_2 (WO_len hW) (WO_len hV) (WO_len h))
/-- the class's own methods -/
theorem c_o (ok : OK X cc own ret rm post mc ms) (hd : decode cc pc = .ok (.invokevirtual idx, 3)) (mv : MV own idx y) (mi : MI y cc2 nL2 ret2 n2) (hy : y.cls = RX6) (hW : WO A M) (ct : Ct X.1.2.1 y cc2 nL2 ret2 rm2 (.ref 0 :: av2) M (po1 z A'))
    (hroom : rm2.frames + 1 ≤ rm.frames ∧ 8 + (nL2 + 11) + rm2.locals ≤ rm.locals ∧ rm2.cells = 0 ∧ rm2.slots = 0 ∧ kc ≤ rm.cells ∧ ks ≤ rm.slots) (hn2 : av2.length = n2) (hst : st = (av2.map (cv (rn P1))).reverse ++ .ref 0 :: rest) (hrest : (rest.map fun v => v.category).sum ≤ 8)
    (kk : ∀ M', WO A' M' → AW X kc ks (pc + 3) L (iv z :: rest) M') : AW X kc ks pc L st M := by
  obtain ⟨fs, hob⟩ := WO_ob hW
  refine x_callV ok P1 103 hd mv mi ct hroom hn2 (by rw [hst]; rfl) hrest (WO_len hW) (fit_1 (WO_len hW) (WO_kc hW)) (nd_1 _) hob (by rw [hy]; rfl) (po1_len hW) ?_
  rintro _ M' ⟨rfl, h⟩
  rw [pb_1 (WO_len hW) (WO_len h) (WO_kc h)]
  exact kk M' h
theorem c_oo (ok : OK X cc own ret rm post mc ms) (hd : decode cc pc = .ok (.invokevirtual idx, 3)) (mv : MV own idx y) (mi : MI y cc2 nL2 ret2 n2) (hy : y.cls = RX6) (hW : WO A M) (ct : Ct X.1.2.1 y cc2 nL2 ret2 rm2 (.ref 0 :: av2) M (po1 z A'))
    (hroom : rm2.frames + 1 ≤ rm.frames ∧ 8 + (nL2 + 11) + rm2.locals ≤ rm.locals ∧ rm2.cells = 0 ∧ rm2.slots = 0 ∧ kc ≤ rm.cells ∧ ks ≤ rm.slots) (hn2 : av2.length = n2) (hst : st = (av2.map (cv (rn P2o))).reverse ++ .ref 0 :: rest) (hrest : (rest.map fun v => v.category).sum ≤ 8)
    (kk : ∀ M', WO A' M' → AW X kc ks (pc + 3) L (iv z :: rest) (W2 103 M' N)) : AW X kc ks pc L st (W2 103 M N) := by
  obtain ⟨fs, hob⟩ := WO_ob hW
  refine x_callV ok P2o 103 hd mv mi ct hroom hn2 (by rw [hst]; rfl) hrest (WO_len hW) (fit_id (WO_len hW) (WO_kc hW)) (nd_id _ _) hob (by rw [hy]; rfl) (po1_len hW) ?_
  rintro _ M' ⟨rfl, h⟩
  have e := pb_id (T := List.range' 103 103) (R := N.map (re (List.range' 103 103))) (WO_len hW) (WO_len h) (WO_kc h)
  exact AW.cast (M2 := W2 103 M' N) (kk M' h) rfl rfl e
theorem c_qq (ok : OK X cc own ret rm post mc ms) (hd : decode cc pc = .ok (.invokevirtual idx, 3)) (mv : MV own idx y) (mi : MI y cc2 nL2 ret2 n2) (hy : y.cls = RX6) (hW : WO A M) (hV : WO B N) (ct : Ct X.1.2.1 y cc2 nL2 ret2 rm2 (.ref 0 :: av2) N (po1 z B'))
    (hroom : rm2.frames + 1 ≤ rm.frames ∧ 8 + (nL2 + 11) + rm2.locals ≤ rm.locals ∧ rm2.cells = 0 ∧ rm2.slots = 0 ∧ kc ≤ rm.cells ∧ ks ≤ rm.slots) (hn2 : av2.length = n2) (hst : st = (av2.map (cv (rn P2q))).reverse ++ .ref 103 :: rest) (hrest : (rest.map fun v => v.category).sum ≤ 8)
    (kk : ∀ N', WO B' N' → AW X kc ks (pc + 3) L (iv z :: rest) (W2 103 M N')) : AW X kc ks pc L st (W2 103 M N) := by
  obtain ⟨fs, hob⟩ := WO_ob hV
  refine x_callV ok P2q 103 hd mv mi ct hroom hn2 (by rw [hst]; rfl) hrest (WO_len hV) (fit_2 (WO_len hW) (WO_len hV)) (nd_2 _) hob (by rw [hy]; rfl) (po1_len hV) ?_
  rintro _ N' ⟨rfl, h⟩
  exact AW.cast (M2 := W2 103 M N') (kk N' h) rfl rfl (pb_2 (WO_len hW) (WO_len hV) (WO_len h))
theorem c_h (ok : OK X cc own ret rm post mc ms) (hd : decode cc pc = .ok (.invokevirtual idx, 3)) (mv : MV own idx y) (mi : MI y cc2 nL2 ret2 n2) (hy : y.cls = RX6) (hW : WO A M) (ct : Ct X.1.2.1 y cc2 nL2 ret2 rm2 (.ref 0 :: av2) M (po1 z A'))
    (hroom : rm2.frames + 1 ≤ rm.frames ∧ 8 + (nL2 + 11) + rm2.locals ≤ rm.locals ∧ rm2.cells = 0 ∧ rm2.slots = 0 ∧ kc ≤ rm.cells ∧ ks ≤ rm.slots) (hn2 : av2.length = n2) (hst : st = (av2.map (cv (rn (List.range' 0 103 ++ [])))).reverse ++ .ref 0 :: rest) (hrest : (rest.map fun v => v.category).sum ≤ 8)
    (kk : ∀ M', WO A' M' → AW X kc ks (pc + 3) L (iv z :: rest) (M' ++ R)) : AW X kc ks pc L st (M ++ R) := by
  obtain ⟨fs, hob⟩ := WO_ob hW
  refine x_callV ok (List.range' 0 103 ++ []) 103 hd mv mi ct hroom hn2 (by rw [hst]; rfl) hrest (WO_len hW) (fit_id (WO_len hW) (WO_kc hW)) (nd_id _ _) hob (by rw [hy]; rfl) (po1_len hW) ?_
  rintro _ M' ⟨rfl, h⟩
  exact AW.cast (M2 := M' ++ R) (kk M' h) rfl rfl (pb_id (WO_len hW) (WO_len h) (WO_kc h))
/-- what a wrapper answers -/
theorem rg_tw {k e1 e2 z : Int} (h1 : rg e1) (h2 : rg e2) : rg (tw k e1 e2 z) := by
  unfold tw
  split
  · exact rg_w z
  · split
    · exact h1
    · exact h2
theorem w_id {z : Int} (h : rg z) : w32 z = z := by unfold w32; exact Int32.toInt_ofInt_of_le h.1 h.2
section
variable {l : Launch} {K e1 e2 : Int}
theorem ctv_ok (h : K = 0) (ct : CtV l y cc2 nL2 ret2 rm2 av2 M (po1 (tw K e1 e2 z) (if K = 0 then A' else A))) : CtV l y cc2 nL2 ret2 rm2 av2 M (po1 (w32 z) A') := ct.mono fun v M' q => by
  unfold po1 tw at q; rw [if_pos h, if_pos h] at q; exact q
theorem ctv_x1 (h : K = 1) (ct : CtV l y cc2 nL2 ret2 rm2 av2 M (po1 (tw K e1 e2 z) (if K = 0 then A' else A))) : CtV l y cc2 nL2 ret2 rm2 av2 M (po1 e1 A) := ct.mono fun v M' q => by
  have h0 : ¬ K = 0 := by omega
  unfold po1 tw at q; rw [if_neg h0, if_neg h0, if_pos h] at q; exact q
theorem ctv_x2 (h : K = 2) (ct : CtV l y cc2 nL2 ret2 rm2 av2 M (po1 (tw K e1 e2 z) (if K = 0 then A' else A))) : CtV l y cc2 nL2 ret2 rm2 av2 M (po1 e2 A) := ct.mono fun v M' q => by
  have h0 : ¬ K = 0 := by omega
  have h1 : ¬ K = 1 := by omega
  unfold po1 tw at q; rw [if_neg h0, if_neg h0, if_neg h1] at q; exact q
theorem ctv_rd (ct : CtV l y cc2 nL2 ret2 rm2 av2 M (po1 (tw K e1 e2 z) (if K = 0 then A else A))) : CtV l y cc2 nL2 ret2 rm2 av2 M (po1 (tw K e1 e2 z) A) := ct.mono fun v M' q => by
  have e : (if K = 0 then A else A) = A := by split <;> rfl
  unfold po1 at q; rw [e] at q; exact q
theorem ctw_ok (h : K = 0) (ct : CtW l y cc2 nL2 ret2 hh rm2 av2 M (po1 (tw K e1 e2 z) (if K = 0 then A' else A))) : CtW l y cc2 nL2 ret2 hh rm2 av2 M (po1 (w32 z) A') := ct.mono fun v M' q => by
  unfold po1 tw at q; rw [if_pos h, if_pos h] at q; exact q
theorem ctw_x1 (h : K = 1) (ct : CtW l y cc2 nL2 ret2 hh rm2 av2 M (po1 (tw K e1 e2 z) (if K = 0 then A' else A))) : CtW l y cc2 nL2 ret2 hh rm2 av2 M (po1 e1 A) := ct.mono fun v M' q => by
  have h0 : ¬ K = 0 := by omega
  unfold po1 tw at q; rw [if_neg h0, if_neg h0, if_pos h] at q; exact q
theorem ctw_x2 (h : K = 2) (ct : CtW l y cc2 nL2 ret2 hh rm2 av2 M (po1 (tw K e1 e2 z) (if K = 0 then A' else A))) : CtW l y cc2 nL2 ret2 hh rm2 av2 M (po1 e2 A) := ct.mono fun v M' q => by
  have h0 : ¬ K = 0 := by omega
  have h1 : ¬ K = 1 := by omega
  unfold po1 tw at q; rw [if_neg h0, if_neg h0, if_neg h1] at q; exact q
theorem ctw_rd (ct : CtW l y cc2 nL2 ret2 hh rm2 av2 M (po1 (tw K e1 e2 z) (if K = 0 then A else A))) : CtW l y cc2 nL2 ret2 hh rm2 av2 M (po1 (tw K e1 e2 z) A) := ct.mono fun v M' q => by
  have e : (if K = 0 then A else A) = A := by split <;> rfl
  unfold po1 at q; rw [e] at q; exact q
end
end RD
