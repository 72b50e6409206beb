/-! THE CLASS: its world; what is found of the state, and kept. -/
section CW1
variable {l : Launch} {S : St} {kn nk c0 r0 m0 ct : Int} {B F Z Br Q Fo No Ho Mo In Sn Qn : Int → Int} {sd rt lf wy : Int} {S2 : St} {c1 r1 m1 ct1 : Int} {B1 F1 Z1 Br1 Q1 Fo1 No1 gb : Int → Int} {sz : Int} {tx : Int → Int}
/-- the object: text 33, state 1, memory 45, slots 35, saved 44, islands 5, nest 13, known, known, trial 20, its islands 24, contour 19, greys before 32 -/
abbrev obC (kn nk : Int) : va_E := ob 6 [.ref 33, .ref 1, .ref 45, .ref 35, .ref 44, .ref 5, .ref 13, iv kn, iv nk, .ref 20, .ref 24, .ref 19, .ref 32]
abbrev nsA (p : Nat) (Ho Mo In Sn Qn : Int → Int) : List va_E := [ob 2 [.ref (p + 1), .ref (p + 2), .ref (p + 3), .ref (p + 4), .ref (p + 5)], ia 144 Ho, ia 144 Mo, ia 144 In, ia 144 Sn, ia 144 Qn]
abbrev txA (p : Nat) (n : Int) (t : Int → Int) : List va_E := [ob 5 [.ref (p + 1), iv n], ia 120 t]
abbrev clA (S : St) (kn nk c0 r0 m0 ct : Int) (B F Z Br Q Fo No : Int → Int) : List va_E := obC kn nk :: (stS 1 S ++ isA 5 c0 r0 m0 ct B F Z Br Q Fo No)
abbrev clB (S : St) (kn nk c0 r0 m0 ct : Int) (B F Z Br Q Fo No Ho Mo In Sn Qn : Int → Int) : List va_E := obC kn nk :: (stS 1 S ++ (isA 5 c0 r0 m0 ct B F Z Br Q Fo No ++ nsA 13 Ho Mo In Sn Qn))
abbrev clC (S : St) (kn nk c0 r0 m0 ct : Int) (B F Z Br Q Fo No Ho Mo In Sn Qn : Int → Int) (sd rt lf wy : Int) : List va_E := obC kn nk :: (stS 1 S ++ (isA 5 c0 r0 m0 ct B F Z Br Q Fo No ++ (nsA 13 Ho Mo In Sn Qn ++ [ob 3 [iv sd, iv rt, iv lf, iv wy]])))
abbrev clD (S : St) (kn nk c0 r0 m0 ct : Int) (B F Z Br Q Fo No Ho Mo In Sn Qn : Int → Int) (sd rt lf wy : Int) (S2 : St) (c1 r1 m1 ct1 : Int) (B1 F1 Z1 Br1 Q1 Fo1 No1 gb : Int → Int) : List va_E := obC kn nk :: (stS 1 S ++ (isA 5 c0 r0 m0 ct B F Z Br Q Fo No ++ (nsA 13 Ho Mo In Sn Qn ++ (ob 3 [iv sd, iv rt, iv lf, iv wy] :: (stS 20 S2 ++ (isA 24 c1 r1 m1 ct1 B1 F1 Z1 Br1 Q1 Fo1 No1 ++ [ia 144 gb]))))))
abbrev clE (S : St) (kn nk c0 r0 m0 ct : Int) (B F Z Br Q Fo No Ho Mo In Sn Qn : Int → Int) (sd rt lf wy : Int) (S2 : St) (c1 r1 m1 ct1 : Int) (B1 F1 Z1 Br1 Q1 Fo1 No1 gb : Int → Int) (sz : Int) (tx : Int → Int) : List va_E := obC kn nk :: (stS 1 S ++ (isA 5 c0 r0 m0 ct B F Z Br Q Fo No ++ (nsA 13 Ho Mo In Sn Qn ++ (ob 3 [iv sd, iv rt, iv lf, iv wy] :: (stS 20 S2 ++ (isA 24 c1 r1 m1 ct1 B1 F1 Z1 Br1 Q1 Fo1 No1 ++ (ia 144 gb :: txA 33 sz tx)))))))
/-- rows that a survey may start from -/
abbrev rwI (B F Z : Int → Int) : Prop := (∀ i, 0 ≤ B i ∧ B i ≤ 5) ∧ (∀ i, rg (F i)) ∧ (∀ i, rg (Z i))
abbrev IS (S : St) (ct : Int) (B F Z Fo No : Int → Int) : Prop := IW (sC S) (sR S) (bS S) ct B F Z Fo No
theorem IS_rw (h : IS S ct B F Z Fo No) : rwI B F Z := ⟨h.1, h.2.1, h.2.2.1⟩
/-- what is kept of the state's islands -/
def CI (S : St) (kn c0 r0 m0 ct : Int) (B F Z Fo No : Int → Int) : Prop := rwI B F Z ∧ (kn = 0 ∨ (kn = 1 ∧ c0 = sC S ∧ r0 = sR S ∧ m0 = sC S * sR S ∧ IS S ct B F Z Fo No))
abbrev NS (S : St) (Ho Mo In : Int → Int) : Prop := NI (sC S) (sR S) (bS S) Ho Mo In
/-- and of its holes -/
def CN (S : St) (kn nk c0 r0 m0 ct : Int) (B F Z Fo No Ho Mo In : Int → Int) : Prop := CI S kn c0 r0 m0 ct B F Z Fo No ∧ (nk = 0 ∨ (nk = 1 ∧ kn = 1 ∧ NS S Ho Mo In))
theorem CI_0 (h : rwI B F Z) : CI S 0 c0 r0 m0 ct B F Z Fo No := ⟨h, Or.inl rfl⟩
theorem CI_1 (h : IS S ct B F Z Fo No) : CI S 1 (sC S) (sR S) (sC S * sR S) ct B F Z Fo No := ⟨IS_rw h, Or.inr ⟨rfl, rfl, rfl, rfl, h⟩⟩
theorem IS_of {b1 B' : Int → Int} (hd : dim (sC S) (sR S)) (e : ∀ k, cel (sC S) (sR S) k → b1 k = bnd (sT S) (sN S) (sG S) k) (h2 : B' = mrg (sC S) (sR S) (sE S) 144 b1) (hI : IV (sC S) (sR S) (mny (sC S) (sR S) B') B' F Z) (hN : ∀ L, cel (sC S) (sR S) L → lw (sC S) (sR S) B' L = L → Fo (rk (sC S) (sR S) B' L) = L ∧ No L = rk (sC S) (sR S) B' L) : IS S (mny (sC S) (sR S) B') B' F Z Fo No :=
  IW_of hd hI hN fun k hk => by rw [h2]; exact mrg_congr hd (sE S) 144 e k hk
/-- a survey, told by the state -/
theorem c_surv (p : Nat) (hS : SV S) (hr : rwI B F Z) : Ct l yX0_survey cX0_survey 4 none rmX0_survey [.ref 0, .ref 8, iv (sE S)] (isM c0 r0 m0 ct B F Z Br Q Fo No ++ stS 8 S)
    (fun v M => v = none ∧ ∃ ct' : Int, ∃ B' F' Z' Br' Q' Fo' No' : Int → Int, M = isM (sC S) (sR S) (sC S * sR S) ct' B' F' Z' Br' Q' Fo' No' ++ stS 8 S ∧ IS S ct' B' F' Z' Fo' No') :=
  Ct.mono (c_survey hS.1 hS.2.2.2.2.1 (fun i => by have := hS.2.2.1 i; unfold rg; omega) (SV_rg hS).1 (SV_rg hS).2 hr.1 hr.2.1 hr.2.2) fun v M h => by
    obtain ⟨h0, b1, B', F', S', Br', Q', Fo', No', hM, e1, e2, hI, hN⟩ := h
    exact ⟨h0, _, B', F', S', Br', Q', Fo', No', hM, IS_of hS.1 e1 e2 hI hN⟩
theorem dX6_present_0 : decode cX6_present 0 = .ok (.aload_n 0, 1) := by decide +kernel
theorem dX6_present_1 : decode cX6_present 1 = .ok (.getfield 52, 3) := by decide +kernel
theorem dX6_present_4 : decode cX6_present 4 = .ok (.ifCond .ne 26, 3) := by decide +kernel
theorem dX6_present_7 : decode cX6_present 7 = .ok (.aload_n 0, 1) := by decide +kernel
theorem dX6_present_8 : decode cX6_present 8 = .ok (.getfield 41, 3) := by decide +kernel
theorem dX6_present_11 : decode cX6_present 11 = .ok (.aload_n 0, 1) := by decide +kernel
theorem dX6_present_12 : decode cX6_present 12 = .ok (.getfield 19, 3) := by decide +kernel
theorem dX6_present_15 : decode cX6_present 15 = .ok (.aload_n 0, 1) := by decide +kernel
theorem dX6_present_16 : decode cX6_present 16 = .ok (.getfield 19, 3) := by decide +kernel
theorem dX6_present_19 : decode cX6_present 19 = .ok (.getfield 165, 3) := by decide +kernel
theorem dX6_present_22 : decode cX6_present 22 = .ok (.invokevirtual 175, 3) := by decide +kernel
theorem dX6_present_25 : decode cX6_present 25 = .ok (.aload_n 0, 1) := by decide +kernel
theorem dX6_present_26 : decode cX6_present 26 = .ok (.iconst 1, 1) := by decide +kernel
theorem dX6_present_27 : decode cX6_present 27 = .ok (.putfield 52, 3) := by decide +kernel
theorem dX6_present_30 : decode cX6_present 30 = .ok (.aload_n 0, 1) := by decide +kernel
theorem dX6_present_31 : decode cX6_present 31 = .ok (.getfield 41, 3) := by decide +kernel
theorem dX6_present_34 : decode cX6_present 34 = .ok (.areturn, 1) := by decide +kernel
theorem c_present (hS : SV S) (h : CI S kn c0 r0 m0 ct B F Z Fo No) : Ct l yX6_present cX6_present 1 (some (.object "BandEngraver$Islands")) rmX6_present [.ref 0] (clA S kn nk c0 r0 m0 ct B F Z Br Q Fo No)
    (fun z M => z = some (.ref 5) ∧ ∃ ct' : Int, ∃ B' F' Z' Br' Q' Fo' No' : Int → Int, M = (clA S (1) nk (sC S) (sR S) (sC S * sR S) (ct') (B') (F') (Z') (Br') (Q') (Fo') (No')) ∧ IS S ct' B' F' Z' Fo' No' ∧ (kn = 1 → M = (clA S kn nk c0 r0 m0 ct B F Z Br Q Fo No))) := by
  refine Ct.of miX6_present (Nat.le_of_ble_eq_true rfl) ?_
  intro X hXl hN ok
  refine AW.cast (L2 := [some (.ref 0)]) ?_ rfl rfl rfl
  rcases h.2 with h0 | ⟨h0, rfl, rfl, rfl, hI⟩
  · subst h0
    refine a_aload_n (pc := 0) ok dX6_present_0 rfl ?_
    refine a_getf (pc := 1) ok dX6_present_1 fl6_52 rfl rfl ?_
    refine a_if_ne (pc := 4) (tgt := 30) ok dX6_present_4 (by decide) (by first | omega | (unfold rg; omega) | (simp only [rg] at *; omega) | exact bz_rg _ | grind [rg]) (fun c4 => ?_) (fun c4 => ?_)
    · omega
    · refine a_aload_n (pc := 7) ok dX6_present_7 rfl ?_
      refine a_getf (pc := 8) ok dX6_present_8 fl6_41 rfl rfl ?_
      refine a_aload_n (pc := 11) ok dX6_present_11 rfl ?_
      refine a_getf (pc := 12) ok dX6_present_12 fl6_19 rfl rfl ?_
      refine a_aload_n (pc := 15) ok dX6_present_15 rfl ?_
      refine a_getf (pc := 16) ok dX6_present_16 fl6_19 rfl rfl ?_
      refine a_getf (pc := 19) ok dX6_present_19 fl6_165 rfl rfl ?_
      refine a_callV (pc := 22) ok [5, 6, 7, 8, 9, 10, 11, 12, 1, 2, 3, 4] dX6_present_22 mv6_175 miX0_survey (c_surv 0 hS h.1) ⟨by decide, by decide, rfl, rfl, Nat.zero_le _, Nat.zero_le _⟩ rfl rfl (Nat.le_of_ble_eq_true rfl) rfl (by decide) rfl rfl (fun v M' h => by obtain ⟨_, _, _, _, _, _, _, _, _, h, _⟩ := h; rw [h]; rfl) ?_
      rintro _ M' ⟨rfl, ct', B', F', Z', Br', Q', Fo', No', rfl, hI⟩
      refine AW.cast (st2 := []) (M2 := (clA S (0) nk (sC S) (sR S) (sC S * sR S) (ct') (B') (F') (Z') (Br') (Q') (Fo') (No'))) ?_ rfl rfl rfl
      refine a_aload_n (pc := 25) ok dX6_present_25 rfl ?_
      refine a_iconst (pc := 26) ok dX6_present_26 ?_
      refine a_putf (pc := 27) ok dX6_present_27 fp6_52 rfl (by first | rfl | decide) (by first | rfl | decide) (Nat.le_of_ble_eq_true rfl) ?_
      refine a_aload_n (pc := 30) ok dX6_present_30 rfl ?_
      refine a_getf (pc := 31) ok dX6_present_31 fl6_41 rfl rfl ?_
      exact a_aret (pc := 34) ok (Or.inl ⟨_, rfl⟩) dX6_present_34 (⟨rfl, ct', B', F', Z', Br', Q', Fo', No', rfl, hI, fun z => absurd z (by decide)⟩)
  · subst h0
    refine a_aload_n (pc := 0) ok dX6_present_0 rfl ?_
    refine a_getf (pc := 1) ok dX6_present_1 fl6_52 rfl rfl ?_
    refine a_if_ne (pc := 4) (tgt := 30) ok dX6_present_4 (by decide) (by first | omega | (unfold rg; omega) | (simp only [rg] at *; omega) | exact bz_rg _ | grind [rg]) (fun c4 => ?_) (fun c4 => ?_)
    · refine a_aload_n (pc := 30) ok dX6_present_30 rfl ?_
      refine a_getf (pc := 31) ok dX6_present_31 fl6_41 rfl rfl ?_
      exact a_aret (pc := 34) ok (Or.inl ⟨_, rfl⟩) dX6_present_34 (⟨rfl, ct, B, F, Z, Br, Q, Fo, No, rfl, hI, fun _ => rfl⟩)
    · omega
theorem dX6_presentNest_0 : decode cX6_presentNest 0 = .ok (.aload_n 0, 1) := by decide +kernel
theorem dX6_presentNest_1 : decode cX6_presentNest 1 = .ok (.invokevirtual 168, 3) := by decide +kernel
theorem dX6_presentNest_4 : decode cX6_presentNest 4 = .ok (.astore_n 1, 1) := by decide +kernel
theorem dX6_presentNest_5 : decode cX6_presentNest 5 = .ok (.aload_n 0, 1) := by decide +kernel
theorem dX6_presentNest_6 : decode cX6_presentNest 6 = .ok (.getfield 56, 3) := by decide +kernel
theorem dX6_presentNest_9 : decode cX6_presentNest 9 = .ok (.ifCond .ne 16, 3) := by decide +kernel
theorem dX6_presentNest_12 : decode cX6_presentNest 12 = .ok (.aload_n 0, 1) := by decide +kernel
theorem dX6_presentNest_13 : decode cX6_presentNest 13 = .ok (.getfield 48, 3) := by decide +kernel
theorem dX6_presentNest_16 : decode cX6_presentNest 16 = .ok (.aload_n 1, 1) := by decide +kernel
theorem dX6_presentNest_17 : decode cX6_presentNest 17 = .ok (.invokevirtual 395, 3) := by decide +kernel
theorem dX6_presentNest_20 : decode cX6_presentNest 20 = .ok (.aload_n 0, 1) := by decide +kernel
theorem dX6_presentNest_21 : decode cX6_presentNest 21 = .ok (.iconst 1, 1) := by decide +kernel
theorem dX6_presentNest_22 : decode cX6_presentNest 22 = .ok (.putfield 56, 3) := by decide +kernel
theorem dX6_presentNest_25 : decode cX6_presentNest 25 = .ok (.aload_n 0, 1) := by decide +kernel
theorem dX6_presentNest_26 : decode cX6_presentNest 26 = .ok (.getfield 48, 3) := by decide +kernel
theorem dX6_presentNest_29 : decode cX6_presentNest 29 = .ok (.areturn, 1) := by decide +kernel
theorem c_presentNest (hS : SV S) (h : CN S kn nk c0 r0 m0 ct B F Z Fo No Ho Mo In) : Ct l yX6_presentNest cX6_presentNest 2 (some (.object "BandEngraver$Nest")) rmX6_presentNest [.ref 0] (clB S kn nk c0 r0 m0 ct B F Z Br Q Fo No Ho Mo In Sn Qn)
    (fun z M => z = some (.ref 13) ∧ ∃ ct' : Int, ∃ B' F' Z' Br' Q' Fo' No' Ho' Mo' In' Sn' Qn' : Int → Int, M = (clB S (1) (1) (sC S) (sR S) (sC S * sR S) (ct') (B') (F') (Z') (Br') (Q') (Fo') (No') (Ho') (Mo') (In') (Sn') (Qn')) ∧ IS S ct' B' F' Z' Fo' No' ∧ NS S Ho' Mo' In') := by
  refine Ct.of miX6_presentNest (Nat.le_of_ble_eq_true rfl) ?_
  intro X hXl hN ok
  refine AW.cast (L2 := [some (.ref 0), none]) ?_ rfl rfl rfl
  refine a_aload_n (pc := 0) ok dX6_presentNest_0 rfl ?_
  refine x_callV (pc := 1) ok [0, 1, 2, 3, 4, 5, 6, 7, 8, 9, 10, 11, 12, 13, 14, 15, 16, 17, 18, 19, 20, 21, 22, 23, 24, 25, 26, 27, 28, 29, 30, 31, 32, 33, 34, 35, 36, 37, 38, 39, 40, 41, 42, 43, 44, 45] 13 dX6_presentNest_1 mv6_168 miX6_present (c_present hS h.1) ⟨by decide, by decide, rfl, rfl, Nat.zero_le _, Nat.zero_le _⟩ rfl rfl (Nat.le_of_ble_eq_true rfl) rfl rfl (by decide) rfl rfl (fun v M' h => by obtain ⟨_, _, _, _, _, _, _, _, _, h, _⟩ := h; rw [h]; rfl) ?_
  rintro _ M' ⟨rfl, ct', B', F', Z', Br', Q', Fo', No', rfl, hI, -⟩
  refine AW.cast (st2 := [.ref 5]) (M2 := (clB S (1) nk (sC S) (sR S) (sC S * sR S) (ct') (B') (F') (Z') (Br') (Q') (Fo') (No') Ho Mo In Sn Qn)) ?_ rfl rfl rfl
  refine a_astore_n (pc := 4) ok dX6_presentNest_4 rfl (by rw [hN]; decide) ?_
  refine a_aload_n (pc := 5) ok dX6_presentNest_5 rfl ?_
  refine a_getf (pc := 6) ok dX6_presentNest_6 fl6_56 rfl rfl ?_
  refine a_if_ne (pc := 9) (tgt := 25) ok dX6_presentNest_9 (by decide) (by rcases h.2 with h | h <;> (unfold rg; omega)) (fun c9 => ?_) (fun c9 => ?_)
  · rcases h.2 with h2 | ⟨h2, -, hN⟩
    · exact absurd h2 c9
    subst h2
    refine a_aload_n (pc := 25) ok dX6_presentNest_25 rfl ?_
    refine a_getf (pc := 26) ok dX6_presentNest_26 fl6_48 rfl rfl ?_
    exact a_aret (pc := 29) ok (Or.inl ⟨_, rfl⟩) dX6_presentNest_29 (⟨rfl, ct', B', F', Z', Br', Q', Fo', No', Ho, Mo, In, Sn, Qn, rfl, hI, hN⟩)
  · refine a_aload_n (pc := 12) ok dX6_presentNest_12 rfl ?_
    refine a_getf (pc := 13) ok dX6_presentNest_13 fl6_48 rfl rfl ?_
    refine a_aload_n (pc := 16) ok dX6_presentNest_16 rfl ?_
    refine a_callV (pc := 17) ok [13, 14, 15, 16, 17, 18, 5, 6, 7, 8, 9, 10, 11, 12] dX6_presentNest_17 mv6_395 miX2_explore (c_explore hS.1 hI) ⟨by decide, by decide, rfl, rfl, Nat.zero_le _, Nat.zero_le _⟩ rfl rfl (Nat.le_of_ble_eq_true rfl) rfl (by decide) rfl rfl (fun v M' h => by obtain ⟨_, _, _, _, _, _, h, _⟩ := h; rw [h]; rfl) ?_
    rintro _ M' ⟨rfl, Ho', Mo', In', Sn', Qn', rfl, hN⟩
    refine AW.cast (st2 := []) (M2 := (clB S (1) nk (sC S) (sR S) (sC S * sR S) (ct') (B') (F') (Z') (Br') (Q') (Fo') (No') (Ho') (Mo') (In') (Sn') (Qn'))) ?_ rfl rfl rfl
    refine a_aload_n (pc := 20) ok dX6_presentNest_20 rfl ?_
    refine a_iconst (pc := 21) ok dX6_presentNest_21 ?_
    refine a_putf (pc := 22) ok dX6_presentNest_22 fp6_56 rfl (by first | rfl | decide) (by first | rfl | decide) (Nat.le_of_ble_eq_true rfl) ?_
    refine a_aload_n (pc := 25) ok dX6_presentNest_25 rfl ?_
    refine a_getf (pc := 26) ok dX6_presentNest_26 fl6_48 rfl rfl ?_
    exact a_aret (pc := 29) ok (Or.inl ⟨_, rfl⟩) dX6_presentNest_29 (⟨rfl, ct', B', F', Z', Br', Q', Fo', No', Ho', Mo', In', Sn', Qn', rfl, hI, hN⟩)
theorem dX6_mustBeWithin_0 : decode cX6_mustBeWithin 0 = .ok (.iload_n 0, 1) := by decide +kernel
theorem dX6_mustBeWithin_1 : decode cX6_mustBeWithin 1 = .ok (.iload_n 1, 1) := by decide +kernel
theorem dX6_mustBeWithin_2 : decode cX6_mustBeWithin 2 = .ok (.iload_n 2, 1) := by decide +kernel
theorem dX6_mustBeWithin_3 : decode cX6_mustBeWithin 3 = .ok (.invokestatic 330, 3) := by decide +kernel
theorem dX6_mustBeWithin_6 : decode cX6_mustBeWithin 6 = .ok (.ifCond .ne 14, 3) := by decide +kernel
theorem dX6_mustBeWithin_9 : decode cX6_mustBeWithin 9 = .ok (.new 309, 3) := by decide +kernel
theorem dX6_mustBeWithin_12 : decode cX6_mustBeWithin 12 = .ok (.dup, 1) := by decide +kernel
theorem dX6_mustBeWithin_13 : decode cX6_mustBeWithin 13 = .ok (.ldc_w 399, 3) := by decide +kernel
theorem dX6_mustBeWithin_16 : decode cX6_mustBeWithin 16 = .ok (.invokespecial 313, 3) := by decide +kernel
theorem dX6_mustBeWithin_19 : decode cX6_mustBeWithin 19 = .ok (.athrow, 1) := by decide +kernel
theorem dX6_mustBeWithin_20 : decode cX6_mustBeWithin 20 = .ok (.return_, 1) := by decide +kernel
theorem c_mustBeWithin {v a b : Int} (h : a ≤ v ∧ v ≤ b) (hv : rg v) (ha : rg a) (hb : rg b) : Cd l yX6_mustBeWithin cX6_mustBeWithin 3 none rmX6_mustBeWithin [iv v, iv a, iv b] [] none [] := by
  refine Ct.of miX6_mustBeWithin (Nat.le_of_ble_eq_true rfl) ?_
  intro X hXl hN ok
  refine AW.cast (L2 := [some (iv v), some (iv a), some (iv b)]) ?_ rfl rfl rfl
  refine a_iload_n (pc := 0) ok dX6_mustBeWithin_0 rfl ?_
  refine a_iload_n (pc := 1) ok dX6_mustBeWithin_1 rfl ?_
  refine a_iload_n (pc := 2) ok dX6_mustBeWithin_2 rfl ?_
  refine a_callSp (pc := 3) ok [] dX6_mustBeWithin_3 mv6_330 miX6_isWithin (c_isWithin hv ha hb) ⟨by decide, by decide, rfl, rfl, Nat.zero_le _, Nat.zero_le _⟩ rfl rfl (Nat.le_of_ble_eq_true rfl) rfl (by decide) ?_
  refine a_if_ne (pc := 6) (tgt := 20) ok dX6_mustBeWithin_6 (by decide) (by exact bz_rg _) (fun c6 => ?_) (fun c6 => ?_)
  · exact a_vret (pc := 20) ok dX6_mustBeWithin_20 (⟨rfl, rfl⟩)
  · exact absurd h (bz_0.mp (by first | exact c6 | exact Decidable.not_not.mp c6))
theorem dX6_mustExist_0 : decode cX6_mustExist 0 = .ok (.iload_n 0, 1) := by decide +kernel
theorem dX6_mustExist_1 : decode cX6_mustExist 1 = .ok (.ifCond .ne 14, 3) := by decide +kernel
theorem dX6_mustExist_4 : decode cX6_mustExist 4 = .ok (.new 401, 3) := by decide +kernel
theorem dX6_mustExist_7 : decode cX6_mustExist 7 = .ok (.dup, 1) := by decide +kernel
theorem dX6_mustExist_8 : decode cX6_mustExist 8 = .ok (.ldc_w 403, 3) := by decide +kernel
theorem dX6_mustExist_11 : decode cX6_mustExist 11 = .ok (.invokespecial 405, 3) := by decide +kernel
theorem dX6_mustExist_14 : decode cX6_mustExist 14 = .ok (.athrow, 1) := by decide +kernel
theorem dX6_mustExist_15 : decode cX6_mustExist 15 = .ok (.return_, 1) := by decide +kernel
theorem c_mustExist {z : Int} (h : z = 1) : Cd l yX6_mustExist cX6_mustExist 1 none rmX6_mustExist [iv z] [] none [] := by
  subst h
  refine Ct.of miX6_mustExist (Nat.le_of_ble_eq_true rfl) ?_
  intro X hXl hN ok
  refine AW.cast (L2 := [some (iv 1)]) ?_ rfl rfl rfl
  refine a_iload_n (pc := 0) ok dX6_mustExist_0 rfl ?_
  refine a_if_ne (pc := 1) (tgt := 15) ok dX6_mustExist_1 (by decide) (by first | omega | (unfold rg; omega) | (simp only [rg] at *; omega) | exact bz_rg _ | grind [rg]) (fun c1 => ?_) (fun c1 => ?_)
  · exact a_vret (pc := 15) ok dX6_mustExist_15 (⟨rfl, rfl⟩)
  · omega
end CW1
