/-! CONTRACTS over a larger world; contracts of the law's methods, which leave new cells behind. -/
section UPC
variable {l : Launch} {y : MethodName} {cc : ByteArray} {nL : Nat} {ret : Option FieldType} {rm : Room} {av2 : List Value} {M M2 : List va_E}
theorem cvs_cv (ad : Nat → Nat) (π : List Nat) (av2 : List Value) : (av2.map (cv (rn π))).map (cv ad) = av2.map (cv (fun k => ad (rn π k))) := by
  rw [List.map_map]
  exact List.map_congr_left fun v _ => cv_cv ad π v
theorem Ct.up {post2 : Option Value → List va_E → Prop} (π : List Nat) (n : Nat) (hk2 : M2.length = n) (hfit : fitX π n M M2) (hn : (π.take n).Nodup) (hlen : ∀ v M', post2 v M' → M'.length = M2.length) (ct : Ct l y cc nL ret rm av2 M2 post2) :
    Ct l y cc nL ret rm (av2.map (cv (rn π))) M (fun v M' => ∃ v2 M2', v = v2.map (cv (rn π)) ∧ post2 v2 M2' ∧ M' = pb π M M2') := by
  intro D cT ad sz p e ha hc hk s m args below hf hap hP hT
  rw [cvs_cv] at hP
  obtain ⟨e0, hsz, hPm, hK, hN, hD0⟩ := hP
  have hDs := hD0.self (sz := s.heap.size)
  have hsub := fitX_A hfit (sz := s.heap.size) hDs (fun q h => Or.inr h)
  subst hsz
  obtain ⟨k, o, h1, h2, h3, ⟨⟨⟨v, M', q1, q2, q3, q4, q5⟩, q6⟩, L, q7, q8⟩⟩ := ct D cT (fun k => ad (rn π k)) s.heap.size p e ha hc hk s m args below hf hap ⟨e0, rfl, fitX_P hfit hPm, hK, hN, fitX_D hfit hn hD0⟩ hT
  refine ⟨k, o, h1, h2, h3, ⟨⟨⟨v.map (cv (rn π)), pb π M M', ?_, ⟨v, M', rfl, q2, rfl⟩, pbX_P hfit hk2 hn (hlen _ _ q2) hPm hDs (fun q a b => q6.2 q a b) q3, q4, pb_D hDs⟩, q6.1, fun q a b => q6.2 q a (fun z => b (hsub q z))⟩, L, q7, fun q hq => hsub _ (q8 q hq)⟩⟩
  rw [q1]
  cases v with
  | none => rfl
  | some w => simp [cv_cv]
theorem CtX.up {E : String} {postX : List va_E → Prop} (π : List Nat) (n : Nat) (hk2 : M2.length = n) (hfit : fitX π n M M2) (hn : (π.take n).Nodup) (hlen : ∀ M', postX M' → M'.length = M2.length) (ct : CtX l y cc nL ret rm av2 M2 E postX) :
    CtX l y cc nL ret rm (av2.map (cv (rn π))) M E (fun M' => ∃ M2', postX M2' ∧ M' = pb π M M2') := by
  intro D cT ad sz p e ha hc hk s m args below hf hap hP hT
  rw [cvs_cv] at hP
  obtain ⟨e0, ⟨hsz, hPm, hK, hN, hD0⟩, hx, hz⟩ := hP
  have hDs := hD0.self (sz := s.heap.size)
  have hsub := fitX_A hfit (sz := s.heap.size) hDs (fun q h => Or.inr h)
  subst hsz
  obtain ⟨k, o, h1, h2, h3, hq⟩ := ct D cT (fun k => ad (rn π k)) s.heap.size p e ha hc hk s m args below hf hap ⟨e0, ⟨rfl, fitX_P hfit hPm, hK, hN, fitX_D hfit hn hD0⟩, hx, hz.narrow hsub⟩ hT
  refine ⟨k, o, h1, h2, h3, ?_⟩
  rcases hq with ⟨f, -⟩ | ⟨q, e1, E', ce, L, ⟨e2, ⟨M', g1, g2, g3, g4⟩, g5⟩, r1, r2, r3, r4, r5, r6⟩
  · exact f.elim
  · exact Or.inr ⟨q, e1, E', ce, L, ⟨e2, ⟨pb π M M', ⟨M', g1, rfl⟩, pbX_P hfit hk2 hn (hlen _ g1) hPm hDs (fun q a b => g5.2 q a b) g2, g3, pb_D hDs⟩, g5.1, fun q a b => g5.2 q a (fun z => b (hsub q z))⟩, r1, r2, r3, r4, r5, fun z hz => hsub _ (r6 z hz)⟩
end UPC
/-- what a method of the law starts from -/
def pgV (D : va_G) (cT : Nat → ClassId) (ad : Nat → Nat) (sz : Nat) (M : List va_E) : State → Prop := fun U => pgX D cT ad sz M U ∧ va_AO RX4 U
theorem pgV_blind {D : va_G} {cT : Nat → ClassId} {ad : Nat → Nat} {sz : Nat} {M : List va_E} {av : List Value} : FrameBlind (va_Pc av (pgV D cT ad sz M)) := by
  intro a U g mk q
  obtain ⟨e, q1, q2⟩ := q
  have h := pgX_blind (D := D) (cT := cT) (ad := ad) (sz := sz) (M := M) (av := av) a U g mk ⟨e, q1⟩
  exact ⟨h.1, h.2, va_AO.moved (u := U) (U := U.calling g mk a) (Vm.Alike.refl U.vm) q2⟩
/-- A CONTRACT of a method of the law: it may leave rm.cells cells behind -/
def CtV (l : Launch) (y : MethodName) (cc : ByteArray) (nL : Nat) (ret : Option FieldType) (rm : Room) (av : List Value) (M : List va_E) (post : Option Value → List va_E → Prop) : Prop :=
  ∀ (D : va_G) (cT : Nat → ClassId) (ad : Nat → Nat) (sz : Nat), Met l y (.code y cc nL ret :: UG) rm (va_Pc (av.map (cv ad)) (pgV D cT ad sz M)) (qg D cT ad post (va_A (cw cT ad M) sz)) rm.cells rm.slots (va_A (cw cT ad M) sz)
theorem CtV.mono {l : Launch} {y : MethodName} {cc : ByteArray} {nL : Nat} {ret : Option FieldType} {rm : Room} {av : List Value} {M : List va_E} {post post2 : Option Value → List va_E → Prop} (h : CtV l y cc nL ret rm av M post) (hp : ∀ v M', post v M' → post2 v M') : CtV l y cc nL ret rm av M post2 := by
  intro D cT ad sz p e ha hc hk s m args below hf hap hP hT
  obtain ⟨k, o, h1, h2, h3, ⟨⟨⟨v, M', q1, q2, q3⟩, q4⟩, q5⟩⟩ := h D cT ad sz p e ha hc hk s m args below hf hap hP hT
  exact ⟨k, o, h1, h2, h3, ⟨⟨⟨v, M', q1, hp _ _ q2, q3⟩, q4⟩, q5⟩⟩
theorem CtV.of {l : Launch} {y : MethodName} {cc : ByteArray} {nL n : Nat} {ret : Option FieldType} {rm : Room} {av : List Value} {M : List va_E} {post : Option Value → List va_E → Prop} (hl0 : l.stackTraces = false) (mi : MI y cc nL ret n) (hlen : (eL av).length ≤ nL) (hcl : ∀ v M', post v M' → (∃ z : Option Int, v = z.map iv) ∧ M'.length ≤ M.length ∧ kcM M.length M')
    (body : ∀ X : Cx, X.1.2.1 = l → nLof X = nL → GK X cc y.cls ret rm post rm.cells rm.slots M.length → EX X → AW X 0 0 0 (eL av ++ List.replicate (nL - (eL av).length) none) [] M) : CtV l y cc nL ret rm av M post := by
  intro D cT ad sz
  refine Met.ofW (cc := cc) (maxL := nL) (ret := ret) (ws' := UG) mi.2.2.1 rfl ?_
  intro p e s m args below meth c s₁ B hml hv
  obtain ⟨rfl, ⟨⟨hsz, hP, hK, hN, hD0⟩, hx, hz⟩, hAO⟩ := hv
  have hts := atoms_spec (ws := .code y cc nL ret :: UG) B.pre
  have hown : s.vm.findClass y.cls = some m.cls := findClass_of_methodNamed B.named
  subst hsz
  have hD := hD0.self (sz := s.heap.size)
  have hA : ∀ q : Nat, s.heap.size ≤ q → va_A (cw cT ad M) s.heap.size q := fun q h => Or.inr h
  have hl := lv_entry (av.map (cv ad)) (n := nL) (by rw [eL_len]; exact hlen)
  rw [lg_entry_eq]
  refine body ((p, l, e, (headSpec (Cond.code y cc nL ret :: UG) rm).room), (s, m, (av.map (cv ad)).toArray, below), (meth, c, nL), (D, cT, ad), va_A (cw cT ad M) s.heap.size, _) rfl rfl
    ⟨hAO, fun ad2 h2 => ⟨B.exec, B.bytes, hml, hown, fun w h => hts w (List.mem_cons_of_mem _ h), hK, hA, B.notSynchronized, hN, rfl, B.returns, fun _ _ _ k => W.mono (fun t ht => ?_) k⟩⟩ ⟨hl0, hx, hz⟩ s.heap [] _ hP hD va_S.rf (lv_mono hl fun q hq => ?_)
  · obtain ⟨o, t1, t2, ⟨⟨v, M', g1, g2, g3, g4, g5⟩, g6⟩, t4⟩ := ht
    obtain ⟨⟨z, rfl⟩, z1, z2⟩ := hcl _ _ g2
    have ec : cw cT ad2 M' = cw cT ad M' := cw_cl h2 z1 z2
    refine ⟨o, t1, t2, ⟨⟨z.map iv, M', ?_, g2, by rw [← ec]; exact g3, g4, by rw [← ec]; exact g5⟩, g6⟩, t4⟩
    rw [g1]
    cases z <;> rfl
  · obtain ⟨v, h1, h2⟩ := lA_mem.mp hq
    have := eL_args ad (nL - (eL av).length) av 0 q.1 v h1
    rw [Nat.zero_add] at this
    obtain ⟨q1, q2⟩ := q
    dsimp only at h2 this ⊢
    rw [h2]; exact this
section VC
variable {X : Cx} {cc : ByteArray} {own : String} {ret : Option FieldType} {rm : Room} {post : Option Value → List va_E → Prop} {mc ms kc ks pc : Nat} {L : List (Option Value)} {st : List Value} {M : List va_E}
variable {y : MethodName} {cc2 : ByteArray} {nL2 n2 idx : Nat} {ret2 : Option FieldType} {rm2 : Room} {M2 : List va_E} {rest : List Value}
/-- the law calls a method of its own -/
theorem v_callS (ok : OK X cc own ret rm post mc ms) (ex : EX X) (ao : va_AO RX4 X.2.1.1) {av2 : List Value} {post2 : Option Value → List va_E → Prop} (π : List Nat) (n : Nat) (hd : decode cc pc = .ok (.invokestatic idx, 3)) (hw : Cond.methodLink own idx y ∈ UG) (hsx : Cond.static y ∈ UG) (mi : MI y cc2 nL2 ret2 n2) (ct : CtV X.1.2.1 y cc2 nL2 ret2 rm2 av2 M2 post2)
    (hroom : rm2.frames + 1 ≤ rm.frames ∧ 8 + (nL2 + 11) + rm2.locals ≤ rm.locals) (hroom2 : kc + rm2.cells ≤ rm.cells ∧ ks + rm2.slots ≤ rm.slots) (hn2 : av2.length = n2) (hst : st = (av2.map (cv (rn π))).reverse ++ rest) (hrest : (rest.map fun v => v.category).sum ≤ 8)
    (hk2 : M2.length = n) (hfit : fitX π n M M2) (hn : (π.take n).Nodup) (hlen : ∀ v M', post2 v M' → M'.length = M2.length)
    (kk : ∀ v M', post2 v M' → AW X (kc + rm2.cells) (ks + rm2.slots) (pc + 3) L ((v.map (cv (rn π))).toList ++ rest) (pb π M M')) : AW X kc ks pc L st M := by
  obtain ⟨⟨p, l, e, R⟩, ⟨s, m, args, below⟩, ⟨meth, c, nL⟩, ⟨D, cT, ad⟩, A, Q⟩ := X
  obtain ⟨hx, hb, hml, ho, hts, hK, hA, -, hN, rfl, -⟩ := ok
  intro H locs ls hP hD hS hl
  subst hst
  have hst2 : List.map (cv ad) ((av2.map (cv (rn π))).reverse ++ rest) = (av2.map (cv (fun k => ad (rn π k)))).reverse ++ rest.map (cv ad) := by
    simp only [List.map_append, List.map_reverse, List.map_map]
    congr 2
    apply List.map_congr_left
    intro v _
    exact cv_cv ad π v
  have hsum : ((rest.map (cv ad)).map fun v => v.category).sum ≤ 8 := by
    rw [List.map_map]
    rw [show ((fun v : Value => v.category) ∘ cv ad) = fun v : Value => v.category from by funext v; exact cv_cat ad v]
    exact hrest
  refine l_after hA hfit hk2 hn hlen hP hD hS hl (av := (av2.map (cv (fun k => ad (rn π k)))).toArray) ?_ kk
  exact va_runS (Ts := UG) (As := av2.map (cv (fun k => ad (rn π k)))) (n := n2) (nL := nL) ⟨hx, hb, hml, ho, hts⟩ (ct D cT (fun k => ad (rn π k)) H.size)
      ⟨callB_of n2 hts (ug_goodIn mi.1) rfl rfl rfl (hts _ mi.2.2.2) (hts _ hw) mi.2.1 ⟨hroom.1, hroom.2⟩, hts _ hsx⟩
      ⟨pgV_blind, fun U hU hW => ⟨rfl, pgX_at ex hA hK hN hfit hn hP hD hS hU hW, va_AO.moved hW.alike ao⟩⟩ rfl (by rw [List.length_map]; exact hn2) hl.1 hst2 (lv_room hsum) hd ⟨hroom2.1, hroom2.2⟩
end VC
/-! places that stay -/
theorem rn_id {n k : Nat} {T : List Nat} (h : k < n) : rn (List.range' 0 n ++ T) k = k := by
  apply rn_get
  rw [List.getElem?_append_left (by simp; exact h), List.getElem?_range' h]
  simp
theorem re_id {n : Nat} {T : List Nat} {e : va_E} (h : kcE n e) : re (List.range' 0 n ++ T) e = e := by
  obtain ⟨t, k, x⟩ | ⟨ci, fs⟩ := e
  · obtain f | f | f | f | f := x
    · rfl
    · rfl
    · rfl
    · rfl
    · have h : ∀ i r, f i = some r → r < n := h
      show (Sum.inl (t, k, Sum.inr (Sum.inr (Sum.inr (Sum.inr (fun i => (f i).map (rn (List.range' 0 n ++ T))))))) : va_E) = _
      congr 6
      refine congrArg Sum.inr (funext fun i => ?_)
      cases hf : f i with
      | none => rfl
      | some r => exact congrArg some (rn_id (h i r hf))
  · have h : fs.all (kcv n) = true := h
    show (Sum.inr (ci, fs.map (cv (rn (List.range' 0 n ++ T)))) : va_E) = _
    congr 2
    conv => rhs; rw [← List.map_id fs]
    refine List.map_congr_left fun v hv => ?_
    have := List.all_eq_true.mp h v hv
    cases v with
    | ref k => exact congrArg Value.ref (rn_id (Nat.blt_eq.mp this))
    | _ => rfl
theorem take_id (n : Nat) (T : List Nat) : (List.range' 0 n ++ T).take n = List.range' 0 n := by
  rw [List.take_append_of_le_length (by simp)]
  exact List.take_of_length_le (by simp)
theorem nd_id (n : Nat) (T : List Nat) : ((List.range' 0 n ++ T).take n).Nodup := by rw [take_id]; exact List.nodup_range' (step := 1)
theorem fit_id {n : Nat} {T : List Nat} {M R : List va_E} (h : M.length = n) (hc : kcM n M) : fitX (List.range' 0 n ++ T) n (M ++ R) M := by
  unfold fitX
  rw [take_id]
  apply List.ext_getElem?
  intro i
  rw [List.getElem?_map, List.getElem?_map]
  by_cases hi : i < n
  · rw [List.getElem?_range' hi]
    simp only [Option.map_some, Nat.zero_add, Nat.one_mul]
    have h1 : M[i]? = some M[i] := List.getElem?_eq_getElem (by omega)
    rw [List.getElem?_append_left (by omega), h1]
    simp only [Option.map_some]
    rw [re_id (kcM_get hc h1)]
  · rw [List.getElem?_eq_none (by simp; omega), List.getElem?_eq_none (by omega)]
    rfl
theorem pb_id {n : Nat} {T : List Nat} {M M' R : List va_E} (h : M.length = n) (h' : M'.length = n) (hc : kcM n M') : pb (List.range' 0 n ++ T) (M ++ R) M' = M' ++ R := by
  apply List.ext_getElem?
  intro i
  unfold pb
  rw [pbF_get, Nat.zero_add, show pfind i (List.range' 0 n ++ T) M' = _ from pfind_rg i n 0 _ M' h', Nat.sub_zero]
  by_cases hi : i < n
  · have h1 : M'[i]? = some M'[i] := List.getElem?_eq_getElem (by omega)
    rw [if_pos (by omega), List.getElem?_append_left (by omega), List.getElem?_append_left (by omega), h1, List.getElem?_eq_getElem (by omega)]
    simp only [Option.map_some]
    rw [re_id (kcM_get hc h1)]
  · rw [if_neg (by omega), List.getElem?_append_right (by omega), List.getElem?_append_right (by omega), h, h']
    cases R[i - n]? <;> rfl
/-- two worlds: the second's places stand behind the first's -/
def W2 (n : Nat) (M N : List va_E) : List va_E := M ++ N.map (re (List.range' n n))
theorem fit_2 {n : Nat} {M N : List va_E} (h : M.length = n) (h' : N.length = n) : fitX (List.range' n n) n (W2 n M N) N := by
  unfold fitX
  rw [List.take_of_length_le (by simp)]
  apply List.ext_getElem?
  intro i
  rw [List.getElem?_map, List.getElem?_map]
  by_cases hi : i < n
  · rw [List.getElem?_range' hi]
    simp only [Option.map_some, Nat.one_mul]
    have h1 : N[i]? = some N[i] := List.getElem?_eq_getElem (by omega)
    unfold W2
    rw [List.getElem?_append_right (by omega), h, Nat.add_sub_cancel_left, List.getElem?_map, h1]
    rfl
  · rw [List.getElem?_eq_none (by simp; omega), List.getElem?_eq_none (by omega)]
    rfl
theorem nd_2 (n : Nat) : ((List.range' n n).take n).Nodup := by rw [List.take_of_length_le (by simp)]; exact List.nodup_range' (step := 1)
theorem pb_2 {n : Nat} {M N N' : List va_E} (h : M.length = n) (h' : N.length = n) (h2 : N'.length = n) : pb (List.range' n n) (W2 n M N) N' = W2 n M N' := by
  apply List.ext_getElem?
  intro i
  unfold pb
  have e : pfind i (List.range' n n) N' = if n ≤ i ∧ i < n + n then N'[i - n]? else none := by
    have := pfind_rg i n n [] N' h2
    rw [List.append_nil] at this
    exact this
  rw [pbF_get, Nat.zero_add, e]
  unfold W2
  by_cases hi : i < n
  · rw [if_neg (by omega), List.getElem?_append_left (by omega), List.getElem?_append_left (by omega)]
    cases M[i]? <;> rfl
  · by_cases hj : i < n + n
    · have h3 : N'[i - n]? = some N'[i - n] := List.getElem?_eq_getElem (by omega)
      rw [if_pos (by omega), List.getElem?_append_right (by omega), List.getElem?_append_right (by omega), h, List.getElem?_map, List.getElem?_map, h3, List.getElem?_eq_getElem (by omega)]
      rfl
    · rw [if_neg (by omega), List.getElem?_append_right (by omega), List.getElem?_append_right (by omega), h, List.getElem?_map, List.getElem?_map, List.getElem?_eq_none (by omega), List.getElem?_eq_none (by omega)]
      rfl
theorem W2_len {n : Nat} {M N : List va_E} (h : M.length = n) (h' : N.length = n) : (W2 n M N).length = n + n := by unfold W2; simp [h, h']
theorem W2_kc {n : Nat} {M N : List va_E} (h : kcM n M) (h' : kcM n N) : kcM (n + n) (W2 n M N) := kcM_app (kcM_mono (by omega) h) (kcM_re h')
