/-! THE LAW: the script's reader, called with a script that stands outside the world. Printed by wip/p37/gen/mklaw.py. -/
theorem dL_cell_0 : decode cL_cell 0 = .ok (.iload_n 1, 1) := by decide +kernel
theorem dL_cell_1 : decode cL_cell 1 = .ok (.aload_n 0, 1) := by decide +kernel
theorem dL_cell_2 : decode cL_cell 2 = .ok (.arraylength, 1) := by decide +kernel
theorem dL_cell_3 : decode cL_cell 3 = .ok (.if_icmp .ge 9, 3) := by decide +kernel
theorem dL_cell_6 : decode cL_cell 6 = .ok (.aload_n 0, 1) := by decide +kernel
theorem dL_cell_7 : decode cL_cell 7 = .ok (.iload_n 1, 1) := by decide +kernel
theorem dL_cell_8 : decode cL_cell 8 = .ok (.iaload, 1) := by decide +kernel
theorem dL_cell_9 : decode cL_cell 9 = .ok (.goto 13, 3) := by decide +kernel
theorem dL_cell_12 : decode cL_cell 12 = .ok (.ldc 189, 2) := by decide +kernel
theorem dL_cell_14 : decode cL_cell 14 = .ok (.iload_n 1, 1) := by decide +kernel
theorem dL_cell_15 : decode cL_cell 15 = .ok (.iconst 3, 1) := by decide +kernel
theorem dL_cell_16 : decode cL_cell 16 = .ok (.iadd, 1) := by decide +kernel
theorem dL_cell_17 : decode cL_cell 17 = .ok (.imul, 1) := by decide +kernel
theorem dL_cell_18 : decode cL_cell 18 = .ok (.sipush 11549, 3) := by decide +kernel
theorem dL_cell_21 : decode cL_cell 21 = .ok (.iadd, 1) := by decide +kernel
theorem dL_cell_22 : decode cL_cell 22 = .ok (.ldc 190, 2) := by decide +kernel
theorem dL_cell_24 : decode cL_cell 24 = .ok (.iand, 1) := by decide +kernel
theorem dL_cell_25 : decode cL_cell 25 = .ok (.ireturn, 1) := by decide +kernel
abbrev rgL_cell : Room := { frames := 0, cells := 0, slots := 0, locals := 0 }
theorem miL_cell : MI yL_cell cL_cell 2 (some .int) 2 := ⟨ug2 10 (by exact rfl) rfl, by decide +kernel, by decide +kernel, ug1 0 (by decide +kernel) rfl⟩
section CE9
def pgC (b L : Nat) (xs : Nat → Int32) (D : va_G) (cT : Nat → ClassId) (sz : Nat) : State → Prop := fun U => pgV D cT (fun _ => b) sz [] U ∧ va_X b L xs U U.heap ∧ b < U.heap.size
theorem pgC_blind {b L : Nat} {xs : Nat → Int32} {D : va_G} {cT : Nat → ClassId} {sz : Nat} {av : List Value} : FrameBlind (va_Pc av (pgC b L xs D cT sz)) := by
  intro a U g mk q
  obtain ⟨e, q1, q2, q3⟩ := q
  have h := pgV_blind (D := D) (cT := cT) (ad := fun _ => b) (sz := sz) (M := []) (av := av) a U g mk ⟨e, q1⟩
  exact ⟨h.1, h.2, va_X.moved (u := U) (U := U.calling g mk a) (Vm.Alike.refl U.vm) q2, q3⟩
def po9 (z : Int) : Option Value → List va_E → Prop := fun v M' => v = some (iv z) ∧ M' = []
/-- A CONTRACT of the reader -/
def CtC (l : Launch) (y : MethodName) (cc : ByteArray) (nL : Nat) (ret : Option FieldType) (rm : Room) (b L : Nat) (xs : Nat → Int32) (k z : Int) : Prop :=
  ∀ (D : va_G) (cT : Nat → ClassId) (sz : Nat), Met l y (.code y cc nL ret :: UG) rm (va_Pc [Value.ref b, iv k] (pgC b L xs D cT sz)) (qg D cT (fun _ => b) (po9 z) (va_A (cw cT (fun _ => b) []) sz)) rm.cells rm.slots (va_A (cw cT (fun _ => b) []) sz)
theorem CtC.of {l : Launch} {y : MethodName} {cc : ByteArray} {n : Nat} {ret : Option FieldType} {rm : Room} {b L : Nat} {xs : Nat → Int32} {k z : Int} (hl0 : l.stackTraces = false) (mi : MI y cc 2 ret n)
    (body : ∀ X : Cx, X.1.2.1 = l → nLof X = 2 → GK X cc y.cls ret rm (po9 z) rm.cells rm.slots 0 → EX X → SCR X b L xs → AW X 0 0 0 [some (.ref 4095), some (iv k)] [] []) : CtC l y cc 2 ret rm b L xs k z := by
  intro D cT sz
  refine Met.ofW (cc := cc) (maxL := 2) (ret := ret) (ws' := UG) mi.2.2.1 rfl ?_
  intro p e s m args below meth c s₁ B hml hv
  obtain ⟨rfl, ⟨⟨⟨hsz, hP, hK, hN, hD0⟩, hx, hz⟩, hAO⟩, hX, hbl⟩ := hv
  have hts := atoms_spec (ws := .code y cc 2 ret :: UG) B.pre
  have hown : s.vm.findClass y.cls = some m.cls := findClass_of_methodNamed B.named
  subst hsz
  have hD := hD0.self (sz := s.heap.size)
  have hA : ∀ q : Nat, s.heap.size ≤ q → va_A (cw cT (fun _ => b) []) s.heap.size q := fun q h => Or.inr h
  have hl := lv_entry ([Value.ref b, iv k]) (n := 2) (Nat.le_of_ble_eq_true rfl)
  rw [lg_entry_eq]
  refine body ((p, l, e, (headSpec (Cond.code y cc 2 ret :: UG) rm).room), (s, m, ([Value.ref b, iv k] : List Value).toArray, below), (meth, c, 2), (D, cT, fun _ => b), va_A (cw cT (fun _ => b) []) s.heap.size, _) rfl rfl
    ⟨hAO, fun ad2 h2 => ⟨B.exec, B.bytes, hml, hown, fun w h => hts w (List.mem_cons_of_mem _ h), hK, hA, B.notSynchronized, hN, rfl, B.returns, fun _ _ _ k => W.mono (fun t ht => ?_) k⟩⟩ ⟨hl0, hx, hz⟩ ⟨rfl, hX, hbl, fun q hq => ?_⟩ s.heap [] _ hP hD va_S.rf (lv_mono hl fun q hq => ?_)
  · obtain ⟨o, t1, t2, ⟨⟨v, M', g1, g2, g3, g4, g5⟩, g6⟩, t4⟩ := ht
    obtain ⟨rfl, rfl⟩ := g2
    exact ⟨o, t1, t2, ⟨⟨some (iv z), [], g1, ⟨rfl, rfl⟩, g3, g4, g5⟩, g6⟩, t4⟩
  · rcases hq with ⟨i, e9, hq⟩ | hq
    · simp [cw] at hq
    · exact hq
  · obtain ⟨v, h1, h2⟩ := lA_mem.mp hq
    obtain ⟨q1, q2⟩ := q
    dsimp only at h1 h2
    match q1, h1 with
    | 0, h1 =>
      have h3 : some (some (Value.ref 4095)) = some (some v) := h1
      cases h3
      rw [h2]
      exact List.mem_cons_self
    | 1, h1 =>
      have h3 : some (some (iv k)) = some (some v) := h1
      cases h3
      rw [h2]
      exact List.mem_cons_of_mem _ List.mem_cons_self
    | k + 2, h1 => simp at h1
variable {X : Cx} {cc : ByteArray} {own : String} {ret : Option FieldType} {rm : Room} {post : Option Value → List va_E → Prop} {mc ms kc ks pc : Nat} {Lc : List (Option Value)} {st : List Value} {M : List va_E}
variable {y : MethodName} {cc2 : ByteArray} {nL2 n2 idx : Nat} {ret2 : Option FieldType} {rm2 : Room} {rest : List Value}
/-- the law calls the reader -/
theorem v_cell (ok : OK X cc own ret rm post mc ms) (ex : EX X) (ao : va_AO RX4 X.2.1.1) (hd : decode cc pc = .ok (.invokestatic idx, 3)) (hw : Cond.methodLink own idx y ∈ UG) (hsx : Cond.static y ∈ UG) (mi : MI y cc2 nL2 ret2 n2) {b L : Nat} {xs : Nat → Int32} (sc : SCR X b L xs) {k z : Int} (ct : CtC X.1.2.1 y cc2 nL2 ret2 rm2 b L xs k z)
    (hroom : rm2.frames + 1 ≤ rm.frames ∧ 8 + (nL2 + 11) + rm2.locals ≤ rm.locals) (hroom2 : kc + rm2.cells ≤ rm.cells ∧ ks + rm2.slots ≤ rm.slots) (hn2 : 2 = n2) (hst : st = iv k :: .ref 4095 :: rest) (hrest : (rest.map fun v => v.category).sum ≤ 8)
    (kk : AW X (kc + rm2.cells) (ks + rm2.slots) (pc + 3) Lc (iv z :: rest) M) : AW X kc ks pc Lc st M := by
  obtain ⟨⟨p, l, e, R⟩, ⟨s, m, args, below⟩, ⟨meth, c, nL⟩, ⟨D, cT, ad⟩, A, Q⟩ := X
  obtain ⟨hx, hb, hml, ho, hts, hK, hA, -, hN, rfl, -⟩ := ok
  obtain ⟨s1, s2, s3, s4⟩ := sc
  intro H locs ls hP hD hS hl
  subst hst
  have s1 : ad 4095 = b := s1
  have hst2 : List.map (cv ad) (iv k :: .ref 4095 :: rest) = [Value.ref b, iv k].reverse ++ rest.map (cv ad) := by
    show iv k :: Value.ref (ad 4095) :: rest.map (cv ad) = _
    rw [s1]; rfl
  have hsum : ((rest.map (cv ad)).map fun v => v.category).sum ≤ 8 := by
    rw [List.map_map]
    rw [show ((fun v : Value => v.category) ∘ cv ad) = fun v : Value => v.category from by funext v; exact cv_cat ad v]
    exact hrest
  have hfit : fitX [] 0 M [] := rfl
  have hn : ([].take 0 : List Nat).Nodup := List.nodup_nil
  have hbH : H[b]? = s.heap[b]? := hS.2.1 b s3 (fun z => absurd (s4 b z) (Nat.not_le.mpr s3))
  intro T hT Y
  obtain ⟨v, st₀, t, T', Lc2, h0, Y', hL, e1, e2, ⟨⟨v', M', hv, ⟨hp1, hp2⟩, hP', hK', hD'⟩, hz, hk⟩, stp⟩ := va_runS (Ts := UG) (As := [Value.ref b, iv k]) (n := n2) (nL := nL) ⟨hx, hb, hml, ho, hts⟩ (ct D cT H.size)
      ⟨callB_of n2 hts (ug_goodIn mi.1) rfl rfl rfl (hts _ mi.2.2.2) (hts _ hw) mi.2.1 ⟨hroom.1, hroom.2⟩, hts _ hsx⟩
      ⟨pgC_blind, fun U hU hW => ⟨rfl, ⟨pgX_at ex hA hK hN hfit hn hP hD hS hU hW, va_AO.moved hW.alike ao⟩, by rw [hU]; exact (s2.kept hbH).moved hW.alike, by rw [hU]; exact Nat.lt_of_lt_of_le s3 hS.1⟩⟩ rfl hn2 hl.1 hst2 (lv_room hsum) hd ⟨hroom2.1, hroom2.2⟩ T hT Y
  cases hv
  subst hp1 hp2
  rw [h0] at hz hk
  have hAA : ∀ q, va_A (cw cT (fun _ => b) []) H.size q → A q := fun q h => by
    rcases h with ⟨i, e9, h⟩ | h
    · simp [cw] at h
    · exact hA q (Nat.le_trans hS.1 h)
  have hk1 : ∀ q : Nat, q < H.size → ¬ va_A (cw cT (fun _ => b) []) H.size q → T'.heap[q]? = H[q]? := fun q a b => by rw [e1]; exact hk q a b
  have hS1 : va_S A s.heap T'.heap (locs ++ Lc2) := ⟨Nat.le_trans hS.1 (by rw [e1]; exact hz), fun q h1 h2 => by rw [hk1 q (Nat.lt_of_lt_of_le h1 hS.1) (fun z => h2 (hAA q z))]; exact hS.2.1 q h1 h2, fun q hq => by
      rcases List.mem_append.mp hq with h | h
      · exact hS.2.2 q h
      · exact hAA _ (hL q h)⟩
  have hPn : va_P D classes (cw cT ad (pb [] M [])) T'.heap := pbX_P hfit rfl hn rfl hP hD hk1 (by rw [e1]; exact hP')
  rw [pb_self (show fitP [] M [] from rfl) List.nodup_nil] at hPn
  obtain ⟨t2, a1, b1⟩ := kk T'.heap (locs ++ Lc2) ls hPn hD hS1 hl T' rfl Y'
  exact ⟨t2, stp t2 a1, b1⟩
/-- what it reads -/
def cx (L : Nat) (xs : Nat → Int32) (k : Int) : Int := (Int32.ofInt (if k < L then xv xs k else 15519527 * (k + 3) + 11549) &&& Int32.ofInt 2147483647).toInt
theorem cx_rg (L : Nat) (xs : Nat → Int32) (k : Int) : 0 ≤ cx L xs k ∧ cx L xs k < 2147483648 := by
  unfold cx
  generalize (Int32.ofInt (if k < L then xv xs k else 15519527 * (k + 3) + 11549)) = a
  have h : (a &&& Int32.ofInt 2147483647).toBitVec.toNat ≤ 2147483647 := by
    rw [Int32.toBitVec_and, BitVec.toNat_and]
    exact Nat.and_le_right
  have h2 : (a &&& Int32.ofInt 2147483647).toInt = ((a &&& Int32.ofInt 2147483647).toBitVec.toNat : Int) := BitVec.toInt_eq_toNat_of_lt (by omega)
  rw [h2]
  omega
theorem C_cell {l : Launch} (hl : l.stackTraces = false) {b L : Nat} {xs : Nat → Int32} (hL : L ≤ 3072) {k : Int} (hk : 0 ≤ k ∧ k ≤ 100) : CtC l yL_cell cL_cell 2 (some .int) rgL_cell b L xs k (cx L xs k) := by
  refine CtC.of hl miL_cell ?_
  intro X hXl hN gk ex sc
  subst hXl
  have ok := gk.ok
  refine a_iload_n (pc := 0) ok dL_cell_0 rfl ?_
  refine a_aload_n (pc := 1) ok dL_cell_1 rfl ?_
  refine a_slen (pc := 2) ok sc dL_cell_2 ?_
  refine a_icmp_ge (pc := 3) (tgt := 12) ok dL_cell_3 (by decide) (by first | omega | (unfold rg; omega)) (by first | omega | (unfold rg; omega)) (fun c3 => ?_) (fun c3 => ?_)
  · refine a_ldc (pc := 12) (z := 15519527) (v := Int32.ofInt 15519527) ok dL_cell_12 (ug2 11 (by decide +kernel) rfl) (by decide) ?_
    refine a_iload_n (pc := 14) ok dL_cell_14 rfl ?_
    refine a_iconst (pc := 15) ok dL_cell_15 ?_
    refine a_iadd (pc := 16) ok dL_cell_16 ?_
    refine a_imul (pc := 17) ok dL_cell_17 ?_
    refine a_sipush (pc := 18) ok dL_cell_18 (by decide) ?_
    refine a_iadd (pc := 21) ok dL_cell_21 ?_
    refine a_ldc (pc := 22) (z := 2147483647) (v := Int32.ofInt 2147483647) ok dL_cell_22 (ug2 12 (by decide +kernel) rfl) (by decide) ?_
    refine a_iand (pc := 24) ok dL_cell_24 ?_
    refine AW.widen (kc2 := rgL_cell.cells) (ks2 := rgL_cell.slots) (Nat.le_of_ble_eq_true rfl) (Nat.le_of_ble_eq_true rfl) ?_
    exact a_iret (pc := 25) ok dL_cell_25 (⟨by unfold cx; rw [if_neg (by omega)], rfl⟩)
  · refine a_aload_n (pc := 6) ok dL_cell_6 rfl ?_
    refine a_iload_n (pc := 7) ok dL_cell_7 rfl ?_
    refine a_sld (pc := 8) ok sc dL_cell_8 (by omega) hL ?_
    refine a_goto (pc := 9) (tgt := 22) ok dL_cell_9 (by decide) ?_
    refine a_ldc (pc := 22) (z := 2147483647) (v := Int32.ofInt 2147483647) ok dL_cell_22 (ug2 12 (by decide +kernel) rfl) (by decide) ?_
    refine a_iand (pc := 24) ok dL_cell_24 ?_
    refine AW.widen (kc2 := rgL_cell.cells) (ks2 := rgL_cell.slots) (Nat.le_of_ble_eq_true rfl) (Nat.le_of_ble_eq_true rfl) ?_
    exact a_iret (pc := 25) ok dL_cell_25 (⟨by unfold cx; rw [if_pos (by omega)], rfl⟩)
end CE9
