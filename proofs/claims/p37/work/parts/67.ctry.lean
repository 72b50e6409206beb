/-! THE CLASS: what would be, scripts, simulations: the object, trial, its islands, greys before; the state behind them. -/
section CW4
variable {l : Launch} {S : St} {kn nk : Int} {S2 : St} {c1 r1 m1 ct1 : Int} {B1 F1 Z1 Br1 Q1 Fo1 No1 gb : Int → Int}
abbrev obU (kn nk : Int) : va_E := ob 6 [.ref 18, .ref 14, .ref 19, .ref 20, .ref 21, .ref 22, .ref 23, iv kn, iv nk, .ref 1, .ref 5, .ref 24, .ref 13]
abbrev clT (kn nk : Int) (S2 : St) (c1 r1 m1 ct1 : Int) (B1 F1 Z1 Br1 Q1 Fo1 No1 gb : Int → Int) : List va_E := obU kn nk :: (stS 1 S2 ++ (isA 5 c1 r1 m1 ct1 B1 F1 Z1 Br1 Q1 Fo1 No1 ++ [ia 144 gb]))
abbrev clU (kn nk : Int) (S2 : St) (c1 r1 m1 ct1 : Int) (B1 F1 Z1 Br1 Q1 Fo1 No1 gb : Int → Int) (S : St) : List va_E := obU kn nk :: (stS 1 S2 ++ (isA 5 c1 r1 m1 ct1 B1 F1 Z1 Br1 Q1 Fo1 No1 ++ (ia 144 gb :: stS 14 S)))
def RT (kn nk : Int) (S2 : St) (M : List va_E) : Prop := ∃ (c1 r1 m1 ct1 : Int) (B1 F1 Z1 Br1 Q1 Fo1 No1 gb : Int → Int), M = (clT kn nk S2 c1 r1 m1 ct1 B1 F1 Z1 Br1 Q1 Fo1 No1 gb) ∧ rwI B1 F1 Z1
def RU (kn nk : Int) (S : St) (M : List va_E) : Prop := ∃ (S2 : St) (c1 r1 m1 ct1 : Int) (B1 F1 Z1 Br1 Q1 Fo1 No1 gb : Int → Int), M = (clU kn nk S2 c1 r1 m1 ct1 B1 F1 Z1 Br1 Q1 Fo1 No1 gb S) ∧ rwI B1 F1 Z1
theorem RT_mk (h : rwI B1 F1 Z1) : RT kn nk S2 (clT kn nk S2 c1 r1 m1 ct1 B1 F1 Z1 Br1 Q1 Fo1 No1 gb) := ⟨c1, r1, m1, ct1, B1, F1, Z1, Br1, Q1, Fo1, No1, gb, rfl, h⟩
theorem RU_mk (h : rwI B1 F1 Z1) : RU kn nk S (clU kn nk S2 c1 r1 m1 ct1 B1 F1 Z1 Br1 Q1 Fo1 No1 gb S) := ⟨S2, c1, r1, m1, ct1, B1, F1, Z1, Br1, Q1, Fo1, No1, gb, rfl, h⟩
theorem RT_len {M : List va_E} (h : RT kn nk S2 M) : M.length = 14 := by obtain ⟨c1, r1, m1, ct1, B1, F1, Z1, Br1, Q1, Fo1, No1, gb, rfl, -⟩ := h; rfl
theorem RU_len {M : List va_E} (h : RU kn nk S M) : M.length = 18 := by obtain ⟨S2, c1, r1, m1, ct1, B1, F1, Z1, Br1, Q1, Fo1, No1, gb, rfl, -⟩ := h; rfl
/-- a survey with another least size -/
theorem c_survL {v : Int} (hS : SV S) (hr : rwI B1 F1 Z1) (hv : rg v) : Ct l yX0_survey cX0_survey 4 none rmX0_survey [.ref 0, .ref 8, iv v] (isM c1 r1 m1 ct1 B1 F1 Z1 Br1 Q1 Fo1 No1 ++ stS 8 S)
    (fun x M => x = none ∧ ∃ ct' : Int, ∃ B' F' Z' Br' Q' Fo' No' : Int → Int, M = isM (sC S) (sR S) (sC S * sR S) ct' B' F' Z' Br' Q' Fo' No' ++ stS 8 S ∧ IW (sC S) (sR S) (bS (setE S v)) ct' B' F' Z' Fo' No') :=
  Ct.mono (c_survey hS.1 hS.2.2.2.2.1 (SV_T99 hS) (SV_rg hS).1 hv hr.1 hr.2.1 hr.2.2) fun x M h => by
    obtain ⟨h0, b1, B', F', S', Br', Q', Fo', No', hM, e1, e2, hI, hN⟩ := h
    refine ⟨h0, _, B', F', S', Br', Q', Fo', No', hM, IW_of hS.1 hI hN fun k hk => ?_⟩
    rw [e2]
    exact mrg_congr hS.1 v 144 e1 k hk
theorem dX6_ifLeast_0 : decode cX6_ifLeast 0 = .ok (.iload_n 1, 1) := by decide +kernel
theorem dX6_ifLeast_1 : decode cX6_ifLeast 1 = .ok (.iconst 1, 1) := by decide +kernel
theorem dX6_ifLeast_2 : decode cX6_ifLeast 2 = .ok (.bipush 30, 2) := by decide +kernel
theorem dX6_ifLeast_4 : decode cX6_ifLeast 4 = .ok (.invokestatic 76, 3) := by decide +kernel
theorem dX6_ifLeast_7 : decode cX6_ifLeast 7 = .ok (.iload_n 2, 1) := by decide +kernel
theorem dX6_ifLeast_8 : decode cX6_ifLeast 8 = .ok (.iconst 0, 1) := by decide +kernel
theorem dX6_ifLeast_9 : decode cX6_ifLeast 9 = .ok (.iconst 2, 1) := by decide +kernel
theorem dX6_ifLeast_10 : decode cX6_ifLeast 10 = .ok (.invokestatic 76, 3) := by decide +kernel
theorem dX6_ifLeast_13 : decode cX6_ifLeast 13 = .ok (.aload_n 0, 1) := by decide +kernel
theorem dX6_ifLeast_14 : decode cX6_ifLeast 14 = .ok (.getfield 62, 3) := by decide +kernel
theorem dX6_ifLeast_17 : decode cX6_ifLeast 17 = .ok (.aload_n 0, 1) := by decide +kernel
theorem dX6_ifLeast_18 : decode cX6_ifLeast 18 = .ok (.getfield 19, 3) := by decide +kernel
theorem dX6_ifLeast_21 : decode cX6_ifLeast 21 = .ok (.iload_n 1, 1) := by decide +kernel
theorem dX6_ifLeast_22 : decode cX6_ifLeast 22 = .ok (.invokevirtual 175, 3) := by decide +kernel
theorem dX6_ifLeast_25 : decode cX6_ifLeast 25 = .ok (.iload_n 2, 1) := by decide +kernel
theorem dX6_ifLeast_26 : decode cX6_ifLeast 26 = .ok (.lookupswitch 46 #[(0, 26), (1, 34)], 26) := by decide +kernel
theorem dX6_ifLeast_52 : decode cX6_ifLeast 52 = .ok (.aload_n 0, 1) := by decide +kernel
theorem dX6_ifLeast_53 : decode cX6_ifLeast 53 = .ok (.getfield 62, 3) := by decide +kernel
theorem dX6_ifLeast_56 : decode cX6_ifLeast 56 = .ok (.getfield 172, 3) := by decide +kernel
theorem dX6_ifLeast_59 : decode cX6_ifLeast 59 = .ok (.ireturn, 1) := by decide +kernel
theorem dX6_ifLeast_60 : decode cX6_ifLeast 60 = .ok (.aload_n 0, 1) := by decide +kernel
theorem dX6_ifLeast_61 : decode cX6_ifLeast 61 = .ok (.getfield 62, 3) := by decide +kernel
theorem dX6_ifLeast_64 : decode cX6_ifLeast 64 = .ok (.aload_n 0, 1) := by decide +kernel
theorem dX6_ifLeast_65 : decode cX6_ifLeast 65 = .ok (.getfield 19, 3) := by decide +kernel
theorem dX6_ifLeast_68 : decode cX6_ifLeast 68 = .ok (.invokevirtual 179, 3) := by decide +kernel
theorem dX6_ifLeast_71 : decode cX6_ifLeast 71 = .ok (.ireturn, 1) := by decide +kernel
theorem dX6_ifLeast_72 : decode cX6_ifLeast 72 = .ok (.aload_n 0, 1) := by decide +kernel
theorem dX6_ifLeast_73 : decode cX6_ifLeast 73 = .ok (.getfield 62, 3) := by decide +kernel
theorem dX6_ifLeast_76 : decode cX6_ifLeast 76 = .ok (.aload_n 0, 1) := by decide +kernel
theorem dX6_ifLeast_77 : decode cX6_ifLeast 77 = .ok (.getfield 19, 3) := by decide +kernel
theorem dX6_ifLeast_80 : decode cX6_ifLeast 80 = .ok (.invokevirtual 293, 3) := by decide +kernel
theorem dX6_ifLeast_83 : decode cX6_ifLeast 83 = .ok (.ireturn, 1) := by decide +kernel
theorem c_ifLeast {v w : Int} (hS : SV S) (hr : rwI B1 F1 Z1) (h0 : kIfL v w = 0) (hv : rg v) (hw : rg w) : Ct l yX6_ifLeast cX6_ifLeast 3 (some .int) rmX6_ifLeast [.ref 0, iv v, iv w] (clU kn nk S2 c1 r1 m1 ct1 B1 F1 Z1 Br1 Q1 Fo1 No1 gb S)
    (fun z M => z = some (iv (aIfL S v w)) ∧ RU kn nk S M) := by
  refine Ct.of miX6_ifLeast (Nat.le_of_ble_eq_true rfl) ?_
  intro X hXl hN ok
  refine AW.cast (L2 := [some (.ref 0), some (iv v), some (iv w)]) ?_ rfl rfl rfl
  have hd := hS.1
  obtain ⟨k1, k2⟩ := kIfL_0 h0
  have e0 : w = 0 → aIfL S v w = mS (setE S v) := fun e => by subst e; rfl
  have e1 : w = 1 → aIfL S v w = cntK (fun k => decide (bS (setE S v) k ≠ bnd (sT S) (sN S) (sG S) k)) (sC S * sR S).toNat := fun e => by subst e; rfl
  have e2 : w = 2 → aIfL S v w = inkF (sC S) (sR S) (bS (setE S v)) (sH S) (sI S) := fun e => by subst e; rfl
  refine a_iload_n (pc := 0) ok dX6_ifLeast_0 rfl ?_
  refine a_iconst (pc := 1) ok dX6_ifLeast_1 ?_
  refine a_bipush (pc := 2) ok dX6_ifLeast_2 (by decide) ?_
  refine a_callSv (pc := 4) ok [] dX6_ifLeast_4 mv6_76 miX6_mustBeWithin (c_mustBeWithin k1 hv (by unfold rg; omega) (by unfold rg; omega)) ⟨by decide, by decide, rfl, rfl, Nat.zero_le _, Nat.zero_le _⟩ rfl rfl (Nat.le_of_ble_eq_true rfl) rfl (by decide) rfl ?_
  refine a_iload_n (pc := 7) ok dX6_ifLeast_7 rfl ?_
  refine a_iconst (pc := 8) ok dX6_ifLeast_8 ?_
  refine a_iconst (pc := 9) ok dX6_ifLeast_9 ?_
  refine a_callSv (pc := 10) ok [] dX6_ifLeast_10 mv6_76 miX6_mustBeWithin (c_mustBeWithin k2 hw (by unfold rg; omega) (by unfold rg; omega)) ⟨by decide, by decide, rfl, rfl, Nat.zero_le _, Nat.zero_le _⟩ rfl rfl (Nat.le_of_ble_eq_true rfl) rfl (by decide) rfl ?_
  refine a_aload_n (pc := 13) ok dX6_ifLeast_13 rfl ?_
  refine a_getf (pc := 14) ok dX6_ifLeast_14 fl6_62 rfl rfl ?_
  refine a_aload_n (pc := 17) ok dX6_ifLeast_17 rfl ?_
  refine a_getf (pc := 18) ok dX6_ifLeast_18 fl6_19 rfl rfl ?_
  refine a_iload_n (pc := 21) ok dX6_ifLeast_21 rfl ?_
  refine a_callV (pc := 22) ok [5, 6, 7, 8, 9, 10, 11, 12, 14, 15, 16, 17] dX6_ifLeast_22 mv6_175 miX0_survey (c_survL hS hr hv) ⟨by decide, by decide, rfl, rfl, Nat.zero_le _, Nat.zero_le _⟩ rfl rfl (Nat.le_of_ble_eq_true rfl) rfl (by decide) rfl rfl (fun v M' h => by obtain ⟨_, _, _, _, _, _, _, _, _, h, _⟩ := h; rw [h]; rfl) ?_
  rintro _ M' ⟨rfl, ct', B', F', Z', Br', Q', Fo', No', rfl, hI⟩
  refine AW.cast (st2 := []) (M2 := (clU kn nk S2 (sC S) (sR S) (sC S * sR S) (ct') (B') (F') (Z') (Br') (Q') (Fo') (No') gb S)) ?_ rfl rfl rfl
  have hr2 : rwI B' F' Z' := ⟨hI.1, hI.2.1, hI.2.2.1⟩
  refine a_iload_n (pc := 25) ok dX6_ifLeast_25 rfl ?_
  refine a_look (pc := 26) (dt := 72) ok [52, 60] dX6_ifLeast_26 (by decide) (by decide) (by decide) (by first | omega | (unfold rg; omega) | (simp only [rg] at *; omega) | exact bz_rg _ | grind [rg]) (fun j26 hj26 c26 => ?_) (fun c26 => ?_)
  · rcases (show j26 = 0 ∨ j26 = 1 by simp only [List.length_cons, List.length_nil] at hj26; omega) with rfl | rfl
    · have c26 : _ = (0 : Int) := c26
      refine a_aload_n (pc := 52) ok dX6_ifLeast_52 rfl ?_
      refine a_getf (pc := 53) ok dX6_ifLeast_53 fl6_62 rfl rfl ?_
      refine a_getf (pc := 56) ok dX6_ifLeast_56 fl6_172 rfl rfl ?_
      exact a_iret (pc := 59) ok dX6_ifLeast_59 (⟨by rw [e0 (by omega), hI.2.2.2.2.2.2.1]; rfl, RU_mk hr2⟩)
    · have c26 : _ = (1 : Int) := c26
      refine a_aload_n (pc := 60) ok dX6_ifLeast_60 rfl ?_
      refine a_getf (pc := 61) ok dX6_ifLeast_61 fl6_62 rfl rfl ?_
      refine a_aload_n (pc := 64) ok dX6_ifLeast_64 rfl ?_
      refine a_getf (pc := 65) ok dX6_ifLeast_65 fl6_19 rfl rfl ?_
      refine a_callVp (pc := 68) ok [5, 6, 7, 8, 9, 10, 11, 12, 14, 15, 16, 17] dX6_ifLeast_68 mv6_179 miX0_cellsOffTheirGrey (c_cellsOffTheirGrey hd hS.2.2.2.2.1 (SV_T99 hS) (SV_rg hS).1 hI) ⟨by decide, by decide, rfl, rfl, Nat.zero_le _, Nat.zero_le _⟩ rfl rfl (Nat.le_of_ble_eq_true rfl) rfl (by decide) rfl rfl ?_
      exact a_iret (pc := 71) ok dX6_ifLeast_71 (⟨by rw [e1 (by omega)], RU_mk hr2⟩)
  · have c26_0 := c26 0 (by decide)
    have c26_1 := c26 1 (by decide)
    refine a_aload_n (pc := 72) ok dX6_ifLeast_72 rfl ?_
    refine a_getf (pc := 73) ok dX6_ifLeast_73 fl6_62 rfl rfl ?_
    refine a_aload_n (pc := 76) ok dX6_ifLeast_76 rfl ?_
    refine a_getf (pc := 77) ok dX6_ifLeast_77 fl6_19 rfl rfl ?_
    refine a_callVp (pc := 80) ok [5, 6, 7, 8, 9, 10, 11, 12, 14, 15, 16, 17] dX6_ifLeast_80 mv6_293 miX0_inkNeeded (c_inkNeeded hd hI) ⟨by decide, by decide, rfl, rfl, Nat.zero_le _, Nat.zero_le _⟩ rfl rfl (Nat.le_of_ble_eq_true rfl) rfl (by decide) rfl rfl ?_
    exact a_iret (pc := 83) ok dX6_ifLeast_83 (⟨by rw [e2 (by omega)], RU_mk hr2⟩)
theorem dX6_leastFor_0 : decode cX6_leastFor 0 = .ok (.iload_n 1, 1) := by decide +kernel
theorem dX6_leastFor_1 : decode cX6_leastFor 1 = .ok (.iconst 1, 1) := by decide +kernel
theorem dX6_leastFor_2 : decode cX6_leastFor 2 = .ok (.sipush 144, 3) := by decide +kernel
theorem dX6_leastFor_5 : decode cX6_leastFor 5 = .ok (.invokestatic 76, 3) := by decide +kernel
theorem dX6_leastFor_8 : decode cX6_leastFor 8 = .ok (.aload_n 0, 1) := by decide +kernel
theorem dX6_leastFor_9 : decode cX6_leastFor 9 = .ok (.getfield 62, 3) := by decide +kernel
theorem dX6_leastFor_12 : decode cX6_leastFor 12 = .ok (.aload_n 0, 1) := by decide +kernel
theorem dX6_leastFor_13 : decode cX6_leastFor 13 = .ok (.getfield 19, 3) := by decide +kernel
theorem dX6_leastFor_16 : decode cX6_leastFor 16 = .ok (.iconst 1, 1) := by decide +kernel
theorem dX6_leastFor_17 : decode cX6_leastFor 17 = .ok (.invokevirtual 175, 3) := by decide +kernel
theorem dX6_leastFor_20 : decode cX6_leastFor 20 = .ok (.iconst 1, 1) := by decide +kernel
theorem dX6_leastFor_21 : decode cX6_leastFor 21 = .ok (.istore_n 2, 1) := by decide +kernel
theorem dX6_leastFor_22 : decode cX6_leastFor 22 = .ok (.iload_n 2, 1) := by decide +kernel
theorem dX6_leastFor_23 : decode cX6_leastFor 23 = .ok (.bipush 30, 2) := by decide +kernel
theorem dX6_leastFor_25 : decode cX6_leastFor 25 = .ok (.if_icmp .gt 30, 3) := by decide +kernel
theorem dX6_leastFor_28 : decode cX6_leastFor 28 = .ok (.aload_n 0, 1) := by decide +kernel
theorem dX6_leastFor_29 : decode cX6_leastFor 29 = .ok (.getfield 62, 3) := by decide +kernel
theorem dX6_leastFor_32 : decode cX6_leastFor 32 = .ok (.iload_n 2, 1) := by decide +kernel
theorem dX6_leastFor_33 : decode cX6_leastFor 33 = .ok (.invokevirtual 350, 3) := by decide +kernel
theorem dX6_leastFor_36 : decode cX6_leastFor 36 = .ok (.aload_n 0, 1) := by decide +kernel
theorem dX6_leastFor_37 : decode cX6_leastFor 37 = .ok (.getfield 62, 3) := by decide +kernel
theorem dX6_leastFor_40 : decode cX6_leastFor 40 = .ok (.getfield 172, 3) := by decide +kernel
theorem dX6_leastFor_43 : decode cX6_leastFor 43 = .ok (.iload_n 1, 1) := by decide +kernel
theorem dX6_leastFor_44 : decode cX6_leastFor 44 = .ok (.if_icmp .gt 5, 3) := by decide +kernel
theorem dX6_leastFor_47 : decode cX6_leastFor 47 = .ok (.iload_n 2, 1) := by decide +kernel
theorem dX6_leastFor_48 : decode cX6_leastFor 48 = .ok (.ireturn, 1) := by decide +kernel
theorem dX6_leastFor_49 : decode cX6_leastFor 49 = .ok (.iinc 2 1, 3) := by decide +kernel
theorem dX6_leastFor_52 : decode cX6_leastFor 52 = .ok (.goto (-30), 3) := by decide +kernel
theorem dX6_leastFor_55 : decode cX6_leastFor 55 = .ok (.iconst (-1), 1) := by decide +kernel
theorem dX6_leastFor_56 : decode cX6_leastFor 56 = .ok (.ireturn, 1) := by decide +kernel
theorem c_leastFor {n : Int} (hS : SV S) (hr : rwI B1 F1 Z1) (h0 : kIn n 1 144 = 0) (hn : rg n) : Ct l yX6_leastFor cX6_leastFor 3 (some .int) rmX6_leastFor [.ref 0, iv n] (clU kn nk S2 c1 r1 m1 ct1 B1 F1 Z1 Br1 Q1 Fo1 No1 gb S)
    (fun z M => z = some (iv (lfK S n 30 1)) ∧ RU kn nk S M) := by
  refine Ct.of miX6_leastFor (Nat.le_of_ble_eq_true rfl) ?_
  intro X hXl hN ok
  refine AW.cast (L2 := [some (.ref 0), some (iv n), none]) ?_ rfl rfl rfl
  have hd := hS.1
  have hw2 := kIn_0 h0
  have loop : ∀ (b1 : Int → Int), (∀ k, cel (sC S) (sR S) k → b1 k = bnd (sT S) (sN S) (sG S) k) → ∀ q : Nat × Int × Int × (Int → Int) × (Int → Int) × (Int → Int) × (Int → Int) × (Int → Int) × (Int → Int) × (Int → Int), (q.1 ≤ 30 ∧ q.2.1 ≤ 1 + q.1 ∧ q.2.2.2.1 = mrg (sC S) (sR S) q.2.1 144 b1 ∧ IV (sC S) (sR S) q.2.2.1 q.2.2.2.1 q.2.2.2.2.1 q.2.2.2.2.2.1 ∧ lfK S n (30 - q.1) (1 + q.1) = lfK S n 30 1) → AW X 0 0 22 [some (.ref 0), some (iv n), some (iv (1 + q.1))] [] (clU kn nk S2 (sC S) (sR S) (sC S * sR S) (q.2.2.1) (q.2.2.2.1) (q.2.2.2.2.1) (q.2.2.2.2.2.1) (q.2.2.2.2.2.2.1) (q.2.2.2.2.2.2.2.1) (q.2.2.2.2.2.2.2.2.1) (q.2.2.2.2.2.2.2.2.2) gb S) := by
    intro b1 hb1
    refine wfl (fun q : Nat × Int × Int × (Int → Int) × (Int → Int) × (Int → Int) × (Int → Int) × (Int → Int) × (Int → Int) × (Int → Int) => 31 - q.1) _ _ ?_
    rintro ⟨k, le, ct1, B1, F1, Z1, Br1, Q1, Fo1, No1⟩ ⟨h1, h2, h3, h4, h5⟩ ih
    dsimp only at h1 h2 h3 h4 h5 ih ⊢
    have hrw : rwI B1 F1 Z1 := ⟨h4.1, h4.2.1, h4.2.2.1⟩
    by_cases h30 : k = 30
    · subst h30
      have e : lfK S n 30 1 = -1 := h5.symm
      refine a_iload_n (pc := 22) ok dX6_leastFor_22 rfl ?_
      refine a_bipush (pc := 23) ok dX6_leastFor_23 (by decide) ?_
      refine a_icmp_gt (pc := 25) (tgt := 55) ok dX6_leastFor_25 (by decide) (by first | omega | (unfold rg; omega) | (simp only [rg] at *; omega) | exact bz_rg _ | grind [rg]) (by first | omega | (unfold rg; omega) | (simp only [rg] at *; omega) | exact bz_rg _ | grind [rg]) (fun c25 => ?_) (fun c25 => ?_)
      · refine a_iconst (pc := 55) ok dX6_leastFor_55 ?_
        exact a_iret (pc := 56) ok dX6_leastFor_56 (⟨by rw [e], RU_mk hrw⟩)
      · omega
    · have e : 30 - k = (30 - (k + 1)) + 1 := by omega
      have e2 : lfK S n (30 - k) (1 + k) = if mS (setE S (1 + k)) ≤ n then 1 + (k : Int) else lfK S n (30 - (k + 1)) (1 + k + 1) := by rw [e]; rfl
      rw [e2] at h5
      have hm : 1 ≤ mS (setE S (1 + k)) ∧ mS (setE S (1 + k)) ≤ 144 := mny_1 hd
      have em : mrg (sC S) (sR S) (1 + k) 144 B1 = mrg (sC S) (sR S) (1 + k) 144 b1 := by rw [h3]; exact mrg_on144 hd h2 b1
      have eM : mny (sC S) (sR S) (mrg (sC S) (sR S) (1 + k) 144 B1) = mS (setE S (1 + k)) := by
        rw [em]
        exact mny_congr hd (mrg_congr hd (1 + k) 144 hb1)
      refine a_iload_n (pc := 22) ok dX6_leastFor_22 rfl ?_
      refine a_bipush (pc := 23) ok dX6_leastFor_23 (by decide) ?_
      refine a_icmp_gt (pc := 25) (tgt := 55) ok dX6_leastFor_25 (by decide) (by first | omega | (unfold rg; omega) | (simp only [rg] at *; omega) | exact bz_rg _ | grind [rg]) (by first | omega | (unfold rg; omega) | (simp only [rg] at *; omega) | exact bz_rg _ | grind [rg]) (fun c25 => ?_) (fun c25 => ?_)
      · omega
      · refine a_aload_n (pc := 28) ok dX6_leastFor_28 rfl ?_
        refine a_getf (pc := 29) ok dX6_leastFor_29 fl6_62 rfl rfl ?_
        refine a_iload_n (pc := 32) ok dX6_leastFor_32 rfl ?_
        refine a_callV (pc := 33) ok [5, 6, 7, 8, 9, 10, 11, 12] dX6_leastFor_33 mv6_350 miX0_mergeBelow (c_mergeBelow (le := 1 + k) hd (by unfold rg; omega) h4) ⟨by decide, by decide, rfl, rfl, Nat.zero_le _, Nat.zero_le _⟩ rfl rfl (Nat.le_of_ble_eq_true rfl) rfl (by decide) rfl rfl (fun v M' h => by obtain ⟨_, _, _, _, _, h, _⟩ := h; rw [h]; rfl) ?_
        rintro _ M' ⟨rfl, F', Z', Br', Q', rfl, hV⟩
        rw [eM] at hV
        refine AW.cast (st2 := []) (M2 := (clU kn nk S2 (sC S) (sR S) (sC S * sR S) (mS (setE S (1 + k))) (mrg (sC S) (sR S) (1 + k) 144 B1) (F') (Z') (Br') (Q') Fo1 No1 gb S)) ?_ rfl rfl (by rw [← eM]; rfl)
        refine a_aload_n (pc := 36) ok dX6_leastFor_36 rfl ?_
        refine a_getf (pc := 37) ok dX6_leastFor_37 fl6_62 rfl rfl ?_
        refine a_getf (pc := 40) ok dX6_leastFor_40 fl6_172 rfl rfl ?_
        refine a_iload_n (pc := 43) ok dX6_leastFor_43 rfl ?_
        refine a_icmp_gt (pc := 44) (tgt := 49) ok dX6_leastFor_44 (by decide) (by first | omega | (unfold rg; omega) | (simp only [rg] at *; omega) | exact bz_rg _ | grind [rg]) (by first | omega | (unfold rg; omega) | (simp only [rg] at *; omega) | exact bz_rg _ | grind [rg]) (fun c44 => ?_) (fun c44 => ?_)
        · refine a_iinc (pc := 49) ok dX6_leastFor_49 rfl rfl (by rw [hN]; decide) ?_
          refine a_goto (pc := 52) (tgt := 22) ok dX6_leastFor_52 (by decide) ?_
          exact AW.cast (ih (k + 1, 1 + k, mS (setE S (1 + k)), mrg (sC S) (sR S) (1 + k) 144 B1, F', Z', Br', Q', Fo1, No1) ⟨by dsimp only; omega, by dsimp only; omega, by dsimp only; exact em, hV, by rw [if_neg (by omega)] at h5; dsimp only; rw [← h5]; congr 1⟩ (by dsimp only; omega)) (by dsimp only; rw [show (1 : Int) + ((k + 1 : Nat) : Int) = 1 + (k : Int) + 1 by omega]; rfl) rfl rfl
        · refine a_iload_n (pc := 47) ok dX6_leastFor_47 rfl ?_
          exact a_iret (pc := 48) ok dX6_leastFor_48 (⟨by rw [← h5, if_pos (by omega)], RU_mk ⟨hV.1, hV.2.1, hV.2.2.1⟩⟩)
  refine a_iload_n (pc := 0) ok dX6_leastFor_0 rfl ?_
  refine a_iconst (pc := 1) ok dX6_leastFor_1 ?_
  refine a_sipush (pc := 2) ok dX6_leastFor_2 (by decide) ?_
  refine a_callSv (pc := 5) ok [] dX6_leastFor_5 mv6_76 miX6_mustBeWithin (c_mustBeWithin hw2 hn (by unfold rg; omega) (by unfold rg; omega)) ⟨by decide, by decide, rfl, rfl, Nat.zero_le _, Nat.zero_le _⟩ rfl rfl (Nat.le_of_ble_eq_true rfl) rfl (by decide) rfl ?_
  refine a_aload_n (pc := 8) ok dX6_leastFor_8 rfl ?_
  refine a_getf (pc := 9) ok dX6_leastFor_9 fl6_62 rfl rfl ?_
  refine a_aload_n (pc := 12) ok dX6_leastFor_12 rfl ?_
  refine a_getf (pc := 13) ok dX6_leastFor_13 fl6_19 rfl rfl ?_
  refine a_iconst (pc := 16) ok dX6_leastFor_16 ?_
  refine a_callV (pc := 17) ok [5, 6, 7, 8, 9, 10, 11, 12, 14, 15, 16, 17] dX6_leastFor_17 mv6_175 miX0_survey (c_survey hd hS.2.2.2.2.1 (SV_T99 hS) (SV_rg hS).1 (by unfold rg; omega) hr.1 hr.2.1 hr.2.2) ⟨by decide, by decide, rfl, rfl, Nat.zero_le _, Nat.zero_le _⟩ rfl rfl (Nat.le_of_ble_eq_true rfl) rfl (by decide) rfl rfl (fun v M' h => by obtain ⟨_, _, _, _, _, _, _, _, _, h, _⟩ := h; rw [h]; rfl) ?_
  rintro _ M' ⟨rfl, b1, B', F', Z', Br', Q', Fo', No', rfl, g1, g2, g3, g4⟩
  refine AW.cast (st2 := []) (M2 := (clU kn nk S2 (sC S) (sR S) (sC S * sR S) (mny (sC S) (sR S) B') (B') (F') (Z') (Br') (Q') (Fo') (No') gb S)) ?_ rfl rfl rfl
  refine a_iconst (pc := 20) ok dX6_leastFor_20 ?_
  refine a_istore_n (pc := 21) ok dX6_leastFor_21 rfl (by rw [hN]; decide) ?_
  exact AW.cast (loop b1 g1 (0, 1, mny (sC S) (sR S) B', B', F', Z', Br', Q', Fo', No') ⟨by dsimp only; omega, by dsimp only; omega, g2, g3, rfl⟩) rfl rfl rfl
end CW4
