/-! THE LAW: a threshold that is moved: the longest walk. Printed by wip/p37/gen/mktwo.py. -/
section TWO7
theorem ab_is {z p : Int} (h : z = p ∨ z = -p) (hp : 0 ≤ p) : ab z = p := by
  unfold ab
  rcases h with rfl | rfl
  · exact Int.max_eq_left (by omega)
  · rw [Int.neg_neg]; exact Int.max_eq_right (by omega)
variable {l : Launch} {A : Ob} {Mo Mq : List va_E}
theorem mv_t {X : Cx} {x : Int} (hl : X.1.2.1.stackTraces = false) (hN : nLof X = 14) (gk : GK X cL_moves RL (some .boolean) rgL_moves (po2 1 (jUndo (mA5 A x)) (jUndo (mA5 A x))) rgL_moves.cells rgL_moves.slots 206) (ex : EX X) (hA : VA A) (hB : VB A) (hWo : WO (mA4 A x) Mo) (hWq : WO (mA4 A x) Mq) (hx : 0 ≤ x ∧ x < 2147483648) (hn : sN (jS A) ≠ 0) (hk : kPart (jS (mA3 A x)) (mV x) 1 = 0) {b11 b12 b13 : Option Value} : AW X 20 120 324 [some (.ref 0), some (.ref 103), some (iv x), some (iv (sN (jS A) : Int)), some (iv (mK A x)), some (iv (mU A x)), some (iv (mB A x)), some (iv 1), some (iv (mS (jS (mA2 A x)))), some (iv (mV x)), some (iv (sN (jS A) : Int)), b11, b12, b13] [] (W2 103 Mo Mq) := by
  have ok := gk.ok
  obtain ⟨⟨k1, u1, b1⟩, t1, t2, hA1, hA2, hA3, e3, ⟨n1, n2⟩, e6, ⟨c3, c4, c5⟩, hB3⟩ := mv_all hA hB hx hn
  obtain ⟨f1, f2, f3, f4, f5⟩ := VA_d hA
  have r1 : rg (mU A x) := by unfold rg; omega
  have r2 : rg (mB A x) := by unfold rg; omega
  have r3 : rg ((sN (jS A) : Int) - 1) := by unfold rg; omega
  have r4 : rg (sN (jS A) : Int) := by unfold rg; omega
  have r5 : rg (mS (jS (mA2 A x))) := isles_rg hA2.1.1
  have w1 : w32 ((chN (sN (jS A)) 0 : Nat) : Int) = (sN (jS A) : Int) - 1 := by
    have : ((chN (sN (jS A)) 0 : Nat) : Int) = (sN (jS A) : Int) - 1 := n1
    rw [this]; exact w_id r3
  have w2 : w32 ((chN (sN (jS (mA1 A x))) 1 : Nat) : Int) = (sN (jS A) : Int) := by
    have : ((chN (sN (jS (mA1 A x))) 1 : Nat) : Int) = (sN (jS A) : Int) := n2
    rw [this]; exact w_id r4
  have hv9 : 1 ≤ mV x ∧ mV x ≤ 99 := by show 1 ≤ 1 + x / 5 % 99 ∧ 1 + x / 5 % 99 ≤ 99; omega
  have ev : mV x = 1 + x / 5 % 99 := rfl
  have kk : kIn (mK A x) 0 ((sN (jS A) : Int) - 1) = 0 := by unfold kIn; rw [if_pos (by omega)]
  obtain ⟨hA4, hA5, e7, e4, n4, ⟨c6, c7, c8⟩, hB5, hbb0⟩ := mv_more hA hB hx hn hk
  have hbb : ∀ p q : Int, (p = mU A x - mV x ∨ p = mV x - mU A x) → 0 ≤ p → (q = mU A x - mB A x ∨ q = mB A x - mU A x) → 0 ≤ q → mS (jS (mA2 A x)) < mS (jS (mA4 A x)) ∨ (mS (jS (mA4 A x)) = mS (jS (mA2 A x)) ∧ (q < p ∨ (p = q ∧ mB A x ≤ mV x))) := fun p q h1 h2 h3 h4 => by
    have e1 : ab (mV x - mU A x) = p := ab_is (by omega) h2
    have e2 : ab (mB A x - mU A x) = q := ab_is (by omega) h4
    rw [e1, e2] at hbb0
    exact hbb0
  clear hbb0
  have r6 : rg (mS (jS (mA4 A x))) := isles_rg hA4.1.1
  have hA6 : VA (jUndo (mA5 A x)) := VA_undo hA5 (by omega)
  have w6 : w32 (sT (jS (jUndo (mA5 A x))) (mK A x)) = mU A x := by rw [e7]; exact w_id r1
  have k6 : kIn (mK A x) 0 ((sN (jS (jUndo (mA5 A x))) : Int) - 1) = 0 := by rw [e7]; exact kk
  have w4 : w32 ((chN (sN (jS (mA3 A x))) 1 : Nat) : Int) = (sN (jS A) : Int) := by
    have : ((chN (sN (jS (mA3 A x))) 1 : Nat) : Int) = (sN (jS A) : Int) := n4
    rw [this]; exact w_id r4
  refine a_aload_n (pc := 324) ok dL_moves_324 rfl ?_
  refine a_bipush (pc := 325) ok dL_moves_325 (by decide) ?_
  refine a_iconst (pc := 327) ok dL_moves_327 ?_
  refine a_iconst (pc := 328) ok dL_moves_328 ?_
  refine a_iconst (pc := 329) ok dL_moves_329 ?_
  refine v_oo (pc := 330) ok ex gk.1 dL_moves_330 (ug2 16 (by decide +kernel) rfl) (ug2 17 (by decide +kernel) rfl) miL_call hWo (ctv_eq (w_id (by unfold rg; omega)) (ctv_ok (by unfold kUndo; rw [if_pos (by omega)]) (C_17 hl hA4 hWo (u1 := 0) (u2 := 0) (u3 := 0)))) ⟨by decide, by decide⟩ ⟨Nat.le_of_ble_eq_true rfl, Nat.le_of_ble_eq_true rfl⟩ rfl rfl (Nat.le_of_ble_eq_true rfl) ?_
  intro Mo hWo
  refine a_callSp (pc := 333) ok [] dL_moves_333 mvL_261 miL_thrown (c_lthrown (v := jC (mA4 A x) - 1) (by unfold rg; omega) (by omega)) ⟨by decide, by decide, rfl, rfl, Nat.le_of_ble_eq_true rfl, Nat.le_of_ble_eq_true rfl⟩ rfl rfl (Nat.le_of_ble_eq_true rfl) rfl (by decide) ?_
  refine a_if_ne (pc := 336) (tgt := 358) ok dL_moves_336 (by decide) (by first | assumption | exact rg_w _ | exact rg_tw (by unfold rg; omega) (by unfold rg; omega) | (unfold rg; omega) | omega | exact bz_rg _ | grind [rg]) (fun c336 => ?_) (fun c336 => ?_)
  · exfalso; first | omega | grind
  · refine a_aload_n (pc := 339) ok dL_moves_339 rfl ?_
    refine a_bipush (pc := 340) ok dL_moves_340 (by decide) ?_
    refine a_iconst (pc := 342) ok dL_moves_342 ?_
    refine a_iconst (pc := 343) ok dL_moves_343 ?_
    refine a_iconst (pc := 344) ok dL_moves_344 ?_
    refine v_qq (pc := 345) ok ex gk.1 dL_moves_345 (ug2 16 (by decide +kernel) rfl) (ug2 17 (by decide +kernel) rfl) miL_call hWo hWq (ctv_eq (w_id (by unfold rg; omega)) (ctv_ok (by unfold kUndo; rw [if_pos (by omega)]) (C_17 hl hA4 hWq (u1 := 0) (u2 := 0) (u3 := 0)))) ⟨by decide, by decide⟩ ⟨Nat.le_of_ble_eq_true rfl, Nat.le_of_ble_eq_true rfl⟩ rfl rfl (Nat.le_of_ble_eq_true rfl) ?_
    intro Mq hWq
    refine a_callSp (pc := 348) ok [] dL_moves_348 mvL_261 miL_thrown (c_lthrown (v := jC (mA4 A x) - 1) (by unfold rg; omega) (by omega)) ⟨by decide, by decide, rfl, rfl, Nat.le_of_ble_eq_true rfl, Nat.le_of_ble_eq_true rfl⟩ rfl rfl (Nat.le_of_ble_eq_true rfl) rfl (by decide) ?_
    refine a_if_ne (pc := 351) (tgt := 358) ok dL_moves_351 (by decide) (by first | assumption | exact rg_w _ | exact rg_tw (by unfold rg; omega) (by unfold rg; omega) | (unfold rg; omega) | omega | exact bz_rg _ | grind [rg]) (fun c351 => ?_) (fun c351 => ?_)
    · exfalso; first | omega | grind
    · refine a_iconst (pc := 354) ok dL_moves_354 ?_
      refine a_goto (pc := 355) (tgt := 359) ok dL_moves_355 (by decide) ?_
      refine a_istore (pc := 359) ok dL_moves_359 rfl (by rw [hN]; decide) ?_
      refine a_iload (pc := 361) ok dL_moves_361 rfl ?_
      refine a_if_eq (pc := 363) (tgt := 414) ok dL_moves_363 (by decide) (by first | assumption | exact rg_w _ | exact rg_tw (by unfold rg; omega) (by unfold rg; omega) | (unfold rg; omega) | omega | exact bz_rg _ | grind [rg]) (fun c363 => ?_) (fun c363 => ?_)
      · exfalso; first | omega | grind
      · refine a_aload_n (pc := 366) ok dL_moves_366 rfl ?_
        refine a_bipush (pc := 367) ok dL_moves_367 (by decide) ?_
        refine a_iconst (pc := 369) ok dL_moves_369 ?_
        refine a_iconst (pc := 370) ok dL_moves_370 ?_
        refine a_iconst (pc := 371) ok dL_moves_371 ?_
        refine v_oo (pc := 372) ok ex gk.1 dL_moves_372 (ug2 16 (by decide +kernel) rfl) (ug2 17 (by decide +kernel) rfl) miL_call hWo (ctv_eq (w_id (by unfold rg; omega)) (ctv_ok (by unfold kUndo; rw [if_pos (by omega)]) (C_17 hl hA5 hWo (u1 := 0) (u2 := 0) (u3 := 0)))) ⟨by decide, by decide⟩ ⟨Nat.le_of_ble_eq_true rfl, Nat.le_of_ble_eq_true rfl⟩ rfl rfl (Nat.le_of_ble_eq_true rfl) ?_
        intro Mo hWo
        refine a_callSp (pc := 375) ok [] dL_moves_375 mvL_261 miL_thrown (c_lthrown (v := jC (mA5 A x) - 1) (by unfold rg; omega) (by omega)) ⟨by decide, by decide, rfl, rfl, Nat.le_of_ble_eq_true rfl, Nat.le_of_ble_eq_true rfl⟩ rfl rfl (Nat.le_of_ble_eq_true rfl) rfl (by decide) ?_
        refine a_if_ne (pc := 378) (tgt := 414) ok dL_moves_378 (by decide) (by first | assumption | exact rg_w _ | exact rg_tw (by unfold rg; omega) (by unfold rg; omega) | (unfold rg; omega) | omega | exact bz_rg _ | grind [rg]) (fun c378 => ?_) (fun c378 => ?_)
        · exfalso; first | omega | grind
        · refine a_aload_n (pc := 381) ok dL_moves_381 rfl ?_
          refine a_bipush (pc := 382) ok dL_moves_382 (by decide) ?_
          refine a_iconst (pc := 384) ok dL_moves_384 ?_
          refine a_iconst (pc := 385) ok dL_moves_385 ?_
          refine a_iconst (pc := 386) ok dL_moves_386 ?_
          refine v_qq (pc := 387) ok ex gk.1 dL_moves_387 (ug2 16 (by decide +kernel) rfl) (ug2 17 (by decide +kernel) rfl) miL_call hWo hWq (ctv_eq (w_id (by unfold rg; omega)) (ctv_ok (by unfold kUndo; rw [if_pos (by omega)]) (C_17 hl hA5 hWq (u1 := 0) (u2 := 0) (u3 := 0)))) ⟨by decide, by decide⟩ ⟨Nat.le_of_ble_eq_true rfl, Nat.le_of_ble_eq_true rfl⟩ rfl rfl (Nat.le_of_ble_eq_true rfl) ?_
          intro Mq hWq
          refine a_callSp (pc := 390) ok [] dL_moves_390 mvL_261 miL_thrown (c_lthrown (v := jC (mA5 A x) - 1) (by unfold rg; omega) (by omega)) ⟨by decide, by decide, rfl, rfl, Nat.le_of_ble_eq_true rfl, Nat.le_of_ble_eq_true rfl⟩ rfl rfl (Nat.le_of_ble_eq_true rfl) rfl (by decide) ?_
          refine a_if_ne (pc := 393) (tgt := 414) ok dL_moves_393 (by decide) (by first | assumption | exact rg_w _ | exact rg_tw (by unfold rg; omega) (by unfold rg; omega) | (unfold rg; omega) | omega | exact bz_rg _ | grind [rg]) (fun c393 => ?_) (fun c393 => ?_)
          · exfalso; first | omega | grind
          · refine a_aload_n (pc := 396) ok dL_moves_396 rfl ?_
            refine a_iconst (pc := 397) ok dL_moves_397 ?_
            refine a_iload (pc := 398) ok dL_moves_398 rfl ?_
            refine a_iconst (pc := 400) ok dL_moves_400 ?_
            refine a_iconst (pc := 401) ok dL_moves_401 ?_
            refine v_oo (pc := 402) ok ex gk.1 dL_moves_402 (ug2 16 (by decide +kernel) rfl) (ug2 17 (by decide +kernel) rfl) miL_call hWo (ctv_eq w6 (ctv_ok k6 (C_4 hl hA6 hWo (k := mK A x) (u2 := 0) (u3 := 0) (by unfold rg; omega)))) ⟨by decide, by decide⟩ ⟨Nat.le_of_ble_eq_true rfl, Nat.le_of_ble_eq_true rfl⟩ rfl rfl (Nat.le_of_ble_eq_true rfl) ?_
            intro Mo hWo
            refine a_iload (pc := 405) ok dL_moves_405 rfl ?_
            refine a_icmp_ne (pc := 407) (tgt := 414) ok dL_moves_407 (by decide) (by first | assumption | exact rg_w _ | exact rg_tw (by unfold rg; omega) (by unfold rg; omega) | (unfold rg; omega) | omega | exact bz_rg _ | grind [rg]) (by first | assumption | exact rg_w _ | exact rg_tw (by unfold rg; omega) (by unfold rg; omega) | (unfold rg; omega) | omega | exact bz_rg _ | grind [rg]) (fun c407 => ?_) (fun c407 => ?_)
            · exfalso; first | omega | grind
            · refine a_iconst (pc := 410) ok dL_moves_410 ?_
              refine a_goto (pc := 411) (tgt := 415) ok dL_moves_411 (by decide) ?_
              refine AW.widen (kc2 := rgL_moves.cells) (ks2 := rgL_moves.slots) (Nat.le_of_ble_eq_true rfl) (Nat.le_of_ble_eq_true rfl) ?_
              exact a_zret (pc := 415) ok dL_moves_415 (by first | rfl | exact nb_bz _ | exact @nb_bz _ (Classical.propDecidable _) | decide | exact nb_01 (by assumption)) (⟨rfl, _, _, hWo, hWq, rfl⟩)
set_option maxHeartbeats 8000000 in
theorem mv_a (hl : l.stackTraces = false) (hA : VA A) (hB : VB A) (hWo : WO A Mo) (hWq : WO A Mq) {x : Int} (hx : 0 ≤ x ∧ x < 2147483648) (hn : sN (jS A) ≠ 0) (hk : kPart (jS (mA3 A x)) (mV x) 1 = 0) : CtV l yL_moves cL_moves 14 (some .boolean) rgL_moves [.ref 0, .ref 103, iv x] (W2 103 Mo Mq) (po2 1 (jUndo (mA5 A x)) (jUndo (mA5 A x))) := by
  obtain ⟨⟨k1, u1, b1⟩, t1, t2, hA1, hA2, hA3, e3, ⟨n1, n2⟩, e6, ⟨c3, c4, c5⟩, hB3⟩ := mv_all hA hB hx hn
  obtain ⟨f1, f2, f3, f4, f5⟩ := VA_d hA
  have r1 : rg (mU A x) := by unfold rg; omega
  have r2 : rg (mB A x) := by unfold rg; omega
  have r3 : rg ((sN (jS A) : Int) - 1) := by unfold rg; omega
  have r4 : rg (sN (jS A) : Int) := by unfold rg; omega
  have r5 : rg (mS (jS (mA2 A x))) := isles_rg hA2.1.1
  have w1 : w32 ((chN (sN (jS A)) 0 : Nat) : Int) = (sN (jS A) : Int) - 1 := by
    have : ((chN (sN (jS A)) 0 : Nat) : Int) = (sN (jS A) : Int) - 1 := n1
    rw [this]; exact w_id r3
  have w2 : w32 ((chN (sN (jS (mA1 A x))) 1 : Nat) : Int) = (sN (jS A) : Int) := by
    have : ((chN (sN (jS (mA1 A x))) 1 : Nat) : Int) = (sN (jS A) : Int) := n2
    rw [this]; exact w_id r4
  have hv9 : 1 ≤ mV x ∧ mV x ≤ 99 := by show 1 ≤ 1 + x / 5 % 99 ∧ 1 + x / 5 % 99 ≤ 99; omega
  have ev : mV x = 1 + x / 5 % 99 := rfl
  have kk : kIn (mK A x) 0 ((sN (jS A) : Int) - 1) = 0 := by unfold kIn; rw [if_pos (by omega)]
  obtain ⟨hA4, hA5, e7, e4, n4, ⟨c6, c7, c8⟩, hB5, hbb0⟩ := mv_more hA hB hx hn hk
  have hbb : ∀ p q : Int, (p = mU A x - mV x ∨ p = mV x - mU A x) → 0 ≤ p → (q = mU A x - mB A x ∨ q = mB A x - mU A x) → 0 ≤ q → mS (jS (mA2 A x)) < mS (jS (mA4 A x)) ∨ (mS (jS (mA4 A x)) = mS (jS (mA2 A x)) ∧ (q < p ∨ (p = q ∧ mB A x ≤ mV x))) := fun p q h1 h2 h3 h4 => by
    have e1 : ab (mV x - mU A x) = p := ab_is (by omega) h2
    have e2 : ab (mB A x - mU A x) = q := ab_is (by omega) h4
    rw [e1, e2] at hbb0
    exact hbb0
  clear hbb0
  have r6 : rg (mS (jS (mA4 A x))) := isles_rg hA4.1.1
  have hA6 : VA (jUndo (mA5 A x)) := VA_undo hA5 (by omega)
  have w6 : w32 (sT (jS (jUndo (mA5 A x))) (mK A x)) = mU A x := by rw [e7]; exact w_id r1
  have k6 : kIn (mK A x) 0 ((sN (jS (jUndo (mA5 A x))) : Int) - 1) = 0 := by rw [e7]; exact kk
  have w4 : w32 ((chN (sN (jS (mA3 A x))) 1 : Nat) : Int) = (sN (jS A) : Int) := by
    have : ((chN (sN (jS (mA3 A x))) 1 : Nat) : Int) = (sN (jS A) : Int) := n4
    rw [this]; exact w_id r4
  refine CtV.of hl miL_moves (Nat.le_of_ble_eq_true rfl) (po2_cl hWo hWq) ?_
  intro X hXl hN gk ex
  subst hXl
  have ok := gk.ok
  refine AW.cast (L2 := [some (.ref 0), some (.ref 103), some (iv x), none, none, none, none, none, none, none, none, none, none, none]) ?_ rfl rfl rfl
  rw [W2_len (WO_len hWo) (WO_len hWq)] at gk
  refine a_aload_n (pc := 0) ok dL_moves_0 rfl ?_
  refine a_iconst (pc := 1) ok dL_moves_1 ?_
  refine a_iconst (pc := 2) ok dL_moves_2 ?_
  refine a_iconst (pc := 3) ok dL_moves_3 ?_
  refine a_iconst (pc := 4) ok dL_moves_4 ?_
  refine v_oo (pc := 5) ok ex gk.1 dL_moves_5 (ug2 16 (by decide +kernel) rfl) (ug2 17 (by decide +kernel) rfl) miL_call hWo (AB2 hl hA hWo (u2 := 0) (u3 := 0)) ⟨by decide, by decide⟩ ⟨Nat.le_of_ble_eq_true rfl, Nat.le_of_ble_eq_true rfl⟩ rfl rfl (Nat.le_of_ble_eq_true rfl) ?_
  intro Mo hWo
  refine a_istore_n (pc := 8) ok dL_moves_8 rfl (by rw [hN]; decide) ?_
  refine a_iload_n (pc := 9) ok dL_moves_9 rfl ?_
  refine a_if_ne (pc := 10) (tgt := 33) ok dL_moves_10 (by decide) (by first | assumption | exact rg_w _ | exact rg_tw (by unfold rg; omega) (by unfold rg; omega) | (unfold rg; omega) | omega | exact bz_rg _ | grind [rg]) (fun c10 => ?_) (fun c10 => ?_)
  · refine a_iload_n (pc := 33) ok dL_moves_33 rfl ?_
    refine a_iload_n (pc := 34) ok dL_moves_34 rfl ?_
    refine a_irem (pc := 35) ok dL_moves_35 (by first | assumption | exact rg_w _ | exact rg_tw (by unfold rg; omega) (by unfold rg; omega) | (unfold rg; omega) | omega | exact bz_rg _ | grind [rg]) (by first | assumption | exact rg_w _ | exact rg_tw (by unfold rg; omega) (by unfold rg; omega) | (unfold rg; omega) | omega | exact bz_rg _ | grind [rg]) ?_
    refine a_istore (pc := 36) ok dL_moves_36 rfl (by rw [hN]; decide) ?_
    refine a_aload_n (pc := 38) ok dL_moves_38 rfl ?_
    refine a_iconst (pc := 39) ok dL_moves_39 ?_
    refine a_iload (pc := 40) ok dL_moves_40 rfl ?_
    refine a_iconst (pc := 42) ok dL_moves_42 ?_
    refine a_iconst (pc := 43) ok dL_moves_43 ?_
    refine v_oo (pc := 44) ok ex gk.1 dL_moves_44 (ug2 16 (by decide +kernel) rfl) (ug2 17 (by decide +kernel) rfl) miL_call hWo (ctv_eq (w_id r1) (ctv_ok kk (C_4 hl hA hWo (k := mK A x) (u2 := 0) (u3 := 0) (by unfold rg; omega)))) ⟨by decide, by decide⟩ ⟨Nat.le_of_ble_eq_true rfl, Nat.le_of_ble_eq_true rfl⟩ rfl rfl (Nat.le_of_ble_eq_true rfl) ?_
    intro Mo hWo
    refine a_istore (pc := 47) ok dL_moves_47 rfl (by rw [hN]; decide) ?_
    refine a_aload_n (pc := 49) ok dL_moves_49 rfl ?_
    refine a_bipush (pc := 50) ok dL_moves_50 (by decide) ?_
    refine a_iload (pc := 52) ok dL_moves_52 rfl ?_
    refine a_iconst (pc := 54) ok dL_moves_54 ?_
    refine a_iconst (pc := 55) ok dL_moves_55 ?_
    refine v_oo (pc := 56) ok ex gk.1 dL_moves_56 (ug2 16 (by decide +kernel) rfl) (ug2 17 (by decide +kernel) rfl) miL_call hWo (ctv_eq (w_id r2) (ctv_ok kk (C_20 hl hA hWo (k := mK A x) (u2 := 0) (u3 := 0) (by unfold rg; omega)))) ⟨by decide, by decide⟩ ⟨Nat.le_of_ble_eq_true rfl, Nat.le_of_ble_eq_true rfl⟩ rfl rfl (Nat.le_of_ble_eq_true rfl) ?_
    intro Mo hWo
    refine a_istore (pc := 59) ok dL_moves_59 rfl (by rw [hN]; decide) ?_
    refine a_iload (pc := 61) ok dL_moves_61 rfl ?_
    refine a_if_le (pc := 63) (tgt := 125) ok dL_moves_63 (by decide) (by first | assumption | exact rg_w _ | exact rg_tw (by unfold rg; omega) (by unfold rg; omega) | (unfold rg; omega) | omega | exact bz_rg _ | grind [rg]) (fun c63 => ?_) (fun c63 => ?_)
    · exfalso; first | omega | grind
    · refine a_iload (pc := 66) ok dL_moves_66 rfl ?_
      refine a_bipush (pc := 68) ok dL_moves_68 (by decide) ?_
      refine a_icmp_ge (pc := 70) (tgt := 125) ok dL_moves_70 (by decide) (by first | assumption | exact rg_w _ | exact rg_tw (by unfold rg; omega) (by unfold rg; omega) | (unfold rg; omega) | omega | exact bz_rg _ | grind [rg]) (by first | assumption | exact rg_w _ | exact rg_tw (by unfold rg; omega) (by unfold rg; omega) | (unfold rg; omega) | omega | exact bz_rg _ | grind [rg]) (fun c70 => ?_) (fun c70 => ?_)
      · exfalso; first | omega | grind
      · refine a_aload_n (pc := 73) ok dL_moves_73 rfl ?_
        refine a_iload (pc := 74) ok dL_moves_74 rfl ?_
        refine a_iconst (pc := 76) ok dL_moves_76 ?_
        refine w_oo (pc := 77) ok ex dL_moves_77 (ug4 218 (by decide +kernel) rfl) (ug4 219 (by decide +kernel) rfl) miL_parts hWo (ctw_eq w1 (ctw_ok (A' := mA1 A x) (kPt_0 t1) (T_parts hl hA hWo (v := mU A x) (b := 0) (by unfold rg; omega) (by unfold rg; omega)))) ⟨by decide, by decide, rfl, rfl⟩ ⟨Nat.le_of_ble_eq_true rfl, Nat.le_of_ble_eq_true rfl⟩ rfl rfl (Nat.le_of_ble_eq_true rfl) ?_
        intro Mo hWo
        refine a_iload_n (pc := 80) ok dL_moves_80 rfl ?_
        refine a_iconst (pc := 81) ok dL_moves_81 ?_
        refine a_isub (pc := 82) ok dL_moves_82 ?_
        refine a_icmp_ne (pc := 83) (tgt := 125) ok dL_moves_83 (by decide) (by first | assumption | exact rg_w _ | exact rg_tw (by unfold rg; omega) (by unfold rg; omega) | (unfold rg; omega) | omega | exact bz_rg _ | grind [rg]) (by first | assumption | exact rg_w _ | exact rg_tw (by unfold rg; omega) (by unfold rg; omega) | (unfold rg; omega) | omega | exact bz_rg _ | grind [rg]) (fun c83 => ?_) (fun c83 => ?_)
        · exact absurd rfl c83
        · refine a_aload_n (pc := 86) ok dL_moves_86 rfl ?_
          refine a_iload (pc := 87) ok dL_moves_87 rfl ?_
          refine a_iconst (pc := 89) ok dL_moves_89 ?_
          refine w_qq (pc := 90) ok ex dL_moves_90 (ug4 218 (by decide +kernel) rfl) (ug4 219 (by decide +kernel) rfl) miL_parts hWo hWq (ctw_eq w1 (ctw_ok (A' := mA1 A x) (kPt_0 t1) (T_parts hl hA hWq (v := mU A x) (b := 0) (by unfold rg; omega) (by unfold rg; omega)))) ⟨by decide, by decide, rfl, rfl⟩ ⟨Nat.le_of_ble_eq_true rfl, Nat.le_of_ble_eq_true rfl⟩ rfl rfl (Nat.le_of_ble_eq_true rfl) ?_
          intro Mq hWq
          refine a_iload_n (pc := 93) ok dL_moves_93 rfl ?_
          refine a_iconst (pc := 94) ok dL_moves_94 ?_
          refine a_isub (pc := 95) ok dL_moves_95 ?_
          refine a_icmp_ne (pc := 96) (tgt := 125) ok dL_moves_96 (by decide) (by first | assumption | exact rg_w _ | exact rg_tw (by unfold rg; omega) (by unfold rg; omega) | (unfold rg; omega) | omega | exact bz_rg _ | grind [rg]) (by first | assumption | exact rg_w _ | exact rg_tw (by unfold rg; omega) (by unfold rg; omega) | (unfold rg; omega) | omega | exact bz_rg _ | grind [rg]) (fun c96 => ?_) (fun c96 => ?_)
          · exfalso; first | omega | grind
          · refine a_aload_n (pc := 99) ok dL_moves_99 rfl ?_
            refine a_iload (pc := 100) ok dL_moves_100 rfl ?_
            refine a_iconst (pc := 102) ok dL_moves_102 ?_
            refine w_oo (pc := 103) ok ex dL_moves_103 (ug4 218 (by decide +kernel) rfl) (ug4 219 (by decide +kernel) rfl) miL_parts hWo (ctw_eq w2 (ctw_ok (A' := mA2 A x) (kPt_0 t2) (T_parts hl hA1 hWo (v := mB A x) (b := 1) (by unfold rg; omega) (by unfold rg; omega)))) ⟨by decide, by decide, rfl, rfl⟩ ⟨Nat.le_of_ble_eq_true rfl, Nat.le_of_ble_eq_true rfl⟩ rfl rfl (Nat.le_of_ble_eq_true rfl) ?_
            intro Mo hWo
            refine a_iload_n (pc := 106) ok dL_moves_106 rfl ?_
            refine a_icmp_ne (pc := 107) (tgt := 125) ok dL_moves_107 (by decide) (by first | assumption | exact rg_w _ | exact rg_tw (by unfold rg; omega) (by unfold rg; omega) | (unfold rg; omega) | omega | exact bz_rg _ | grind [rg]) (by first | assumption | exact rg_w _ | exact rg_tw (by unfold rg; omega) (by unfold rg; omega) | (unfold rg; omega) | omega | exact bz_rg _ | grind [rg]) (fun c107 => ?_) (fun c107 => ?_)
            · exact absurd rfl c107
            · refine a_aload_n (pc := 110) ok dL_moves_110 rfl ?_
              refine a_iload (pc := 111) ok dL_moves_111 rfl ?_
              refine a_iconst (pc := 113) ok dL_moves_113 ?_
              refine w_qq (pc := 114) ok ex dL_moves_114 (ug4 218 (by decide +kernel) rfl) (ug4 219 (by decide +kernel) rfl) miL_parts hWo hWq (ctw_eq w2 (ctw_ok (A' := mA2 A x) (kPt_0 t2) (T_parts hl hA1 hWq (v := mB A x) (b := 1) (by unfold rg; omega) (by unfold rg; omega)))) ⟨by decide, by decide, rfl, rfl⟩ ⟨Nat.le_of_ble_eq_true rfl, Nat.le_of_ble_eq_true rfl⟩ rfl rfl (Nat.le_of_ble_eq_true rfl) ?_
              intro Mq hWq
              refine a_iload_n (pc := 117) ok dL_moves_117 rfl ?_
              refine a_icmp_ne (pc := 118) (tgt := 125) ok dL_moves_118 (by decide) (by first | assumption | exact rg_w _ | exact rg_tw (by unfold rg; omega) (by unfold rg; omega) | (unfold rg; omega) | omega | exact bz_rg _ | grind [rg]) (by first | assumption | exact rg_w _ | exact rg_tw (by unfold rg; omega) (by unfold rg; omega) | (unfold rg; omega) | omega | exact bz_rg _ | grind [rg]) (fun c118 => ?_) (fun c118 => ?_)
              · exact absurd rfl c118
              · refine a_iconst (pc := 121) ok dL_moves_121 ?_
                refine a_goto (pc := 122) (tgt := 126) ok dL_moves_122 (by decide) ?_
                refine a_istore (pc := 126) ok dL_moves_126 rfl (by rw [hN]; decide) ?_
                refine a_aload_n (pc := 128) ok dL_moves_128 rfl ?_
                refine a_iconst (pc := 129) ok dL_moves_129 ?_
                refine a_iconst (pc := 130) ok dL_moves_130 ?_
                refine a_iconst (pc := 131) ok dL_moves_131 ?_
                refine a_iconst (pc := 132) ok dL_moves_132 ?_
                refine v_oo (pc := 133) ok ex gk.1 dL_moves_133 (ug2 16 (by decide +kernel) rfl) (ug2 17 (by decide +kernel) rfl) miL_call hWo (AB4 hl hA2 hWo (u2 := 0) (u3 := 0)) ⟨by decide, by decide⟩ ⟨Nat.le_of_ble_eq_true rfl, Nat.le_of_ble_eq_true rfl⟩ rfl rfl (Nat.le_of_ble_eq_true rfl) ?_
                intro Mo hWo
                refine a_istore (pc := 136) ok dL_moves_136 rfl (by rw [hN]; decide) ?_
                refine a_iload (pc := 138) ok dL_moves_138 rfl ?_
                refine a_if_eq (pc := 140) (tgt := 177) ok dL_moves_140 (by decide) (by first | assumption | exact rg_w _ | exact rg_tw (by unfold rg; omega) (by unfold rg; omega) | (unfold rg; omega) | omega | exact bz_rg _ | grind [rg]) (fun c140 => ?_) (fun c140 => ?_)
                · exfalso; first | omega | grind
                · refine a_aload_n (pc := 143) ok dL_moves_143 rfl ?_
                  refine a_bipush (pc := 144) ok dL_moves_144 (by decide) ?_
                  refine a_iconst (pc := 146) ok dL_moves_146 ?_
                  refine a_iconst (pc := 147) ok dL_moves_147 ?_
                  refine a_iconst (pc := 148) ok dL_moves_148 ?_
                  refine v_oo (pc := 149) ok ex gk.1 dL_moves_149 (ug2 16 (by decide +kernel) rfl) (ug2 17 (by decide +kernel) rfl) miL_call hWo (ctv_eq (w_id (by unfold rg; omega)) (ctv_ok (by unfold kUndo; rw [if_pos (by omega)]) (C_17 hl hA2 hWo (u1 := 0) (u2 := 0) (u3 := 0)))) ⟨by decide, by decide⟩ ⟨Nat.le_of_ble_eq_true rfl, Nat.le_of_ble_eq_true rfl⟩ rfl rfl (Nat.le_of_ble_eq_true rfl) ?_
                  intro Mo hWo
                  refine a_callSp (pc := 152) ok [] dL_moves_152 mvL_261 miL_thrown (c_lthrown (v := jC (mA2 A x) - 1) (by unfold rg; omega) (by omega)) ⟨by decide, by decide, rfl, rfl, Nat.le_of_ble_eq_true rfl, Nat.le_of_ble_eq_true rfl⟩ rfl rfl (Nat.le_of_ble_eq_true rfl) rfl (by decide) ?_
                  refine a_if_ne (pc := 155) (tgt := 177) ok dL_moves_155 (by decide) (by first | assumption | exact rg_w _ | exact rg_tw (by unfold rg; omega) (by unfold rg; omega) | (unfold rg; omega) | omega | exact bz_rg _ | grind [rg]) (fun c155 => ?_) (fun c155 => ?_)
                  · exfalso; first | omega | grind
                  · refine a_aload_n (pc := 158) ok dL_moves_158 rfl ?_
                    refine a_bipush (pc := 159) ok dL_moves_159 (by decide) ?_
                    refine a_iconst (pc := 161) ok dL_moves_161 ?_
                    refine a_iconst (pc := 162) ok dL_moves_162 ?_
                    refine a_iconst (pc := 163) ok dL_moves_163 ?_
                    refine v_qq (pc := 164) ok ex gk.1 dL_moves_164 (ug2 16 (by decide +kernel) rfl) (ug2 17 (by decide +kernel) rfl) miL_call hWo hWq (ctv_eq (w_id (by unfold rg; omega)) (ctv_ok (by unfold kUndo; rw [if_pos (by omega)]) (C_17 hl hA2 hWq (u1 := 0) (u2 := 0) (u3 := 0)))) ⟨by decide, by decide⟩ ⟨Nat.le_of_ble_eq_true rfl, Nat.le_of_ble_eq_true rfl⟩ rfl rfl (Nat.le_of_ble_eq_true rfl) ?_
                    intro Mq hWq
                    refine a_callSp (pc := 167) ok [] dL_moves_167 mvL_261 miL_thrown (c_lthrown (v := jC (mA2 A x) - 1) (by unfold rg; omega) (by omega)) ⟨by decide, by decide, rfl, rfl, Nat.le_of_ble_eq_true rfl, Nat.le_of_ble_eq_true rfl⟩ rfl rfl (Nat.le_of_ble_eq_true rfl) rfl (by decide) ?_
                    refine a_if_ne (pc := 170) (tgt := 177) ok dL_moves_170 (by decide) (by first | assumption | exact rg_w _ | exact rg_tw (by unfold rg; omega) (by unfold rg; omega) | (unfold rg; omega) | omega | exact bz_rg _ | grind [rg]) (fun c170 => ?_) (fun c170 => ?_)
                    · exfalso; first | omega | grind
                    · refine a_iconst (pc := 173) ok dL_moves_173 ?_
                      refine a_goto (pc := 174) (tgt := 178) ok dL_moves_174 (by decide) ?_
                      refine a_istore (pc := 178) ok dL_moves_178 rfl (by rw [hN]; decide) ?_
                      refine a_iconst (pc := 180) ok dL_moves_180 ?_
                      refine a_iload_n (pc := 181) ok dL_moves_181 rfl ?_
                      refine a_iconst (pc := 182) ok dL_moves_182 ?_
                      refine a_idiv (pc := 183) ok dL_moves_183 (by first | assumption | exact rg_w _ | exact rg_tw (by unfold rg; omega) (by unfold rg; omega) | (unfold rg; omega) | omega | exact bz_rg _ | grind [rg]) (by first | assumption | exact rg_w _ | exact rg_tw (by unfold rg; omega) (by unfold rg; omega) | (unfold rg; omega) | omega | exact bz_rg _ | grind [rg]) ?_
                      refine a_bipush (pc := 184) ok dL_moves_184 (by decide) ?_
                      refine a_irem (pc := 186) ok dL_moves_186 (by first | assumption | exact rg_w _ | exact rg_tw (by unfold rg; omega) (by unfold rg; omega) | (unfold rg; omega) | omega | exact bz_rg _ | grind [rg]) (by first | assumption | exact rg_w _ | exact rg_tw (by unfold rg; omega) (by unfold rg; omega) | (unfold rg; omega) | omega | exact bz_rg _ | grind [rg]) ?_
                      refine a_iadd (pc := 187) ok dL_moves_187 ?_
                      refine a_istore (pc := 188) ok dL_moves_188 rfl (by rw [hN]; decide) ?_
                      refine a_aload_n (pc := 190) ok dL_moves_190 rfl ?_
                      refine a_iload (pc := 191) ok dL_moves_191 rfl ?_
                      refine a_iconst (pc := 193) ok dL_moves_193 ?_
                      refine w_oo (pc := 194) ok ex dL_moves_194 (ug4 218 (by decide +kernel) rfl) (ug4 219 (by decide +kernel) rfl) miL_parts hWo (ctw_eq w4 (ctw_ok (A' := mA4 A x) hk (T_parts hl hA3 hWo (v := mV x) (b := 1) (by unfold rg; omega) (by unfold rg; omega)))) ⟨by decide, by decide, rfl, rfl⟩ ⟨Nat.le_of_ble_eq_true rfl, Nat.le_of_ble_eq_true rfl⟩ rfl rfl (Nat.le_of_ble_eq_true rfl) ?_
                      intro Mo hWo
                      refine a_istore (pc := 197) ok dL_moves_197 rfl (by rw [hN]; decide) ?_
                      refine a_iload (pc := 199) ok dL_moves_199 rfl ?_
                      refine a_if_eq (pc := 201) (tgt := 220) ok dL_moves_201 (by decide) (by first | assumption | exact rg_w _ | exact rg_tw (by unfold rg; omega) (by unfold rg; omega) | (unfold rg; omega) | omega | exact bz_rg _ | grind [rg]) (fun c201 => ?_) (fun c201 => ?_)
                      · exfalso; first | omega | grind
                      · refine a_aload_n (pc := 204) ok dL_moves_204 rfl ?_
                        refine a_iload (pc := 205) ok dL_moves_205 rfl ?_
                        refine a_iconst (pc := 207) ok dL_moves_207 ?_
                        refine w_qq (pc := 208) ok ex dL_moves_208 (ug4 218 (by decide +kernel) rfl) (ug4 219 (by decide +kernel) rfl) miL_parts hWo hWq (ctw_eq w4 (ctw_ok (A' := mA4 A x) hk (T_parts hl hA3 hWq (v := mV x) (b := 1) (by unfold rg; omega) (by unfold rg; omega)))) ⟨by decide, by decide, rfl, rfl⟩ ⟨Nat.le_of_ble_eq_true rfl, Nat.le_of_ble_eq_true rfl⟩ rfl rfl (Nat.le_of_ble_eq_true rfl) ?_
                        intro Mq hWq
                        refine a_iload (pc := 211) ok dL_moves_211 rfl ?_
                        refine a_icmp_ne (pc := 213) (tgt := 220) ok dL_moves_213 (by decide) (by first | assumption | exact rg_w _ | exact rg_tw (by unfold rg; omega) (by unfold rg; omega) | (unfold rg; omega) | omega | exact bz_rg _ | grind [rg]) (by first | assumption | exact rg_w _ | exact rg_tw (by unfold rg; omega) (by unfold rg; omega) | (unfold rg; omega) | omega | exact bz_rg _ | grind [rg]) (fun c213 => ?_) (fun c213 => ?_)
                        · exfalso; first | omega | grind
                        · refine a_iconst (pc := 216) ok dL_moves_216 ?_
                          refine a_goto (pc := 217) (tgt := 221) ok dL_moves_217 (by decide) ?_
                          refine a_istore (pc := 221) ok dL_moves_221 rfl (by rw [hN]; decide) ?_
                          refine a_iload (pc := 223) ok dL_moves_223 rfl ?_
                          refine a_ldc (pc := 225) (z := -9999003) (v := Int32.ofInt (-9999003)) ok dL_moves_225 (ug2 128 (by decide +kernel) rfl) (by decide) ?_
                          refine a_icmp_eq (pc := 227) (tgt := 361) ok dL_moves_227 (by decide) (by first | assumption | exact rg_w _ | exact rg_tw (by unfold rg; omega) (by unfold rg; omega) | (unfold rg; omega) | omega | exact bz_rg _ | grind [rg]) (by first | assumption | exact rg_w _ | exact rg_tw (by unfold rg; omega) (by unfold rg; omega) | (unfold rg; omega) | omega | exact bz_rg _ | grind [rg]) (fun c227 => ?_) (fun c227 => ?_)
                          · exfalso; first | omega | grind
                          · refine a_iload (pc := 230) ok dL_moves_230 rfl ?_
                            refine a_iload (pc := 232) ok dL_moves_232 rfl ?_
                            refine a_icmp_ge (pc := 234) (tgt := 245) ok dL_moves_234 (by decide) (by first | assumption | exact rg_w _ | exact rg_tw (by unfold rg; omega) (by unfold rg; omega) | (unfold rg; omega) | omega | exact bz_rg _ | grind [rg]) (by first | assumption | exact rg_w _ | exact rg_tw (by unfold rg; omega) (by unfold rg; omega) | (unfold rg; omega) | omega | exact bz_rg _ | grind [rg]) (fun c234 => ?_) (fun c234 => ?_)
                            · refine a_iload (pc := 245) ok dL_moves_245 rfl ?_
                              refine a_iload (pc := 247) ok dL_moves_247 rfl ?_
                              refine a_isub (pc := 249) ok dL_moves_249 ?_
                              refine a_istore (pc := 250) ok dL_moves_250 rfl (by rw [hN]; decide) ?_
                              refine a_iload (pc := 252) ok dL_moves_252 rfl ?_
                              refine a_iload (pc := 254) ok dL_moves_254 rfl ?_
                              refine a_icmp_ge (pc := 256) (tgt := 267) ok dL_moves_256 (by decide) (by first | assumption | exact rg_w _ | exact rg_tw (by unfold rg; omega) (by unfold rg; omega) | (unfold rg; omega) | omega | exact bz_rg _ | grind [rg]) (by first | assumption | exact rg_w _ | exact rg_tw (by unfold rg; omega) (by unfold rg; omega) | (unfold rg; omega) | omega | exact bz_rg _ | grind [rg]) (fun c256 => ?_) (fun c256 => ?_)
                              · refine a_iload (pc := 267) ok dL_moves_267 rfl ?_
                                refine a_iload (pc := 269) ok dL_moves_269 rfl ?_
                                refine a_isub (pc := 271) ok dL_moves_271 ?_
                                refine a_istore (pc := 272) ok dL_moves_272 rfl (by rw [hN]; decide) ?_
                                refine a_aload_n (pc := 274) ok dL_moves_274 rfl ?_
                                refine a_iconst (pc := 275) ok dL_moves_275 ?_
                                refine a_iconst (pc := 276) ok dL_moves_276 ?_
                                refine a_iconst (pc := 277) ok dL_moves_277 ?_
                                refine a_iconst (pc := 278) ok dL_moves_278 ?_
                                refine v_oo (pc := 279) ok ex gk.1 dL_moves_279 (ug2 16 (by decide +kernel) rfl) (ug2 17 (by decide +kernel) rfl) miL_call hWo (AB4 hl hA4 hWo (u2 := 0) (u3 := 0)) ⟨by decide, by decide⟩ ⟨Nat.le_of_ble_eq_true rfl, Nat.le_of_ble_eq_true rfl⟩ rfl rfl (Nat.le_of_ble_eq_true rfl) ?_
                                intro Mo hWo
                                refine a_istore (pc := 282) ok dL_moves_282 rfl (by rw [hN]; decide) ?_
                                refine a_iload (pc := 284) ok dL_moves_284 rfl ?_
                                refine a_if_eq (pc := 286) (tgt := 358) ok dL_moves_286 (by decide) (by first | assumption | exact rg_w _ | exact rg_tw (by unfold rg; omega) (by unfold rg; omega) | (unfold rg; omega) | omega | exact bz_rg _ | grind [rg]) (fun c286 => ?_) (fun c286 => ?_)
                                · exfalso; have hb := hbb (mV x - mU A x) (mB A x - mU A x) (by omega) (by omega) (by omega) (by omega); omega
                                · refine a_iload (pc := 289) ok dL_moves_289 rfl ?_
                                  refine a_iload (pc := 291) ok dL_moves_291 rfl ?_
                                  refine a_icmp_gt (pc := 293) (tgt := 324) ok dL_moves_293 (by decide) (by first | assumption | exact rg_w _ | exact rg_tw (by unfold rg; omega) (by unfold rg; omega) | (unfold rg; omega) | omega | exact bz_rg _ | grind [rg]) (by first | assumption | exact rg_w _ | exact rg_tw (by unfold rg; omega) (by unfold rg; omega) | (unfold rg; omega) | omega | exact bz_rg _ | grind [rg]) (fun c293 => ?_) (fun c293 => ?_)
                                  · refine AW.widen (kc2 := 20) (ks2 := 120) (Nat.le_of_ble_eq_true rfl) (Nat.le_of_ble_eq_true rfl) ?_
                                    exact mv_t hl hN gk ex hA hB hWo hWq hx hn hk
                                  · refine a_iload (pc := 296) ok dL_moves_296 rfl ?_
                                    refine a_iload (pc := 298) ok dL_moves_298 rfl ?_
                                    refine a_icmp_ne (pc := 300) (tgt := 358) ok dL_moves_300 (by decide) (by first | assumption | exact rg_w _ | exact rg_tw (by unfold rg; omega) (by unfold rg; omega) | (unfold rg; omega) | omega | exact bz_rg _ | grind [rg]) (by first | assumption | exact rg_w _ | exact rg_tw (by unfold rg; omega) (by unfold rg; omega) | (unfold rg; omega) | omega | exact bz_rg _ | grind [rg]) (fun c300 => ?_) (fun c300 => ?_)
                                    · exfalso; have hb := hbb (mV x - mU A x) (mB A x - mU A x) (by omega) (by omega) (by omega) (by omega); omega
                                    · refine a_iload (pc := 303) ok dL_moves_303 rfl ?_
                                      refine a_iload (pc := 305) ok dL_moves_305 rfl ?_
                                      refine a_icmp_gt (pc := 307) (tgt := 324) ok dL_moves_307 (by decide) (by first | assumption | exact rg_w _ | exact rg_tw (by unfold rg; omega) (by unfold rg; omega) | (unfold rg; omega) | omega | exact bz_rg _ | grind [rg]) (by first | assumption | exact rg_w _ | exact rg_tw (by unfold rg; omega) (by unfold rg; omega) | (unfold rg; omega) | omega | exact bz_rg _ | grind [rg]) (fun c307 => ?_) (fun c307 => ?_)
                                      · refine AW.widen (kc2 := 20) (ks2 := 120) (Nat.le_of_ble_eq_true rfl) (Nat.le_of_ble_eq_true rfl) ?_
                                        exact mv_t hl hN gk ex hA hB hWo hWq hx hn hk
                                      · refine a_iload (pc := 310) ok dL_moves_310 rfl ?_
                                        refine a_iload (pc := 312) ok dL_moves_312 rfl ?_
                                        refine a_icmp_ne (pc := 314) (tgt := 358) ok dL_moves_314 (by decide) (by first | assumption | exact rg_w _ | exact rg_tw (by unfold rg; omega) (by unfold rg; omega) | (unfold rg; omega) | omega | exact bz_rg _ | grind [rg]) (by first | assumption | exact rg_w _ | exact rg_tw (by unfold rg; omega) (by unfold rg; omega) | (unfold rg; omega) | omega | exact bz_rg _ | grind [rg]) (fun c314 => ?_) (fun c314 => ?_)
                                        · exfalso; have hb := hbb (mV x - mU A x) (mB A x - mU A x) (by omega) (by omega) (by omega) (by omega); omega
                                        · refine a_iload (pc := 317) ok dL_moves_317 rfl ?_
                                          refine a_iload (pc := 319) ok dL_moves_319 rfl ?_
                                          refine a_icmp_lt (pc := 321) (tgt := 358) ok dL_moves_321 (by decide) (by first | assumption | exact rg_w _ | exact rg_tw (by unfold rg; omega) (by unfold rg; omega) | (unfold rg; omega) | omega | exact bz_rg _ | grind [rg]) (by first | assumption | exact rg_w _ | exact rg_tw (by unfold rg; omega) (by unfold rg; omega) | (unfold rg; omega) | omega | exact bz_rg _ | grind [rg]) (fun c321 => ?_) (fun c321 => ?_)
                                          · exfalso; have hb := hbb (mV x - mU A x) (mB A x - mU A x) (by omega) (by omega) (by omega) (by omega); omega
                                          · refine AW.widen (kc2 := 20) (ks2 := 120) (Nat.le_of_ble_eq_true rfl) (Nat.le_of_ble_eq_true rfl) ?_
                                            exact mv_t hl hN gk ex hA hB hWo hWq hx hn hk
                              · refine a_iload (pc := 259) ok dL_moves_259 rfl ?_
                                refine a_iload (pc := 261) ok dL_moves_261 rfl ?_
                                refine a_isub (pc := 263) ok dL_moves_263 ?_
                                refine a_goto (pc := 264) (tgt := 272) ok dL_moves_264 (by decide) ?_
                                refine a_istore (pc := 272) ok dL_moves_272 rfl (by rw [hN]; decide) ?_
                                refine a_aload_n (pc := 274) ok dL_moves_274 rfl ?_
                                refine a_iconst (pc := 275) ok dL_moves_275 ?_
                                refine a_iconst (pc := 276) ok dL_moves_276 ?_
                                refine a_iconst (pc := 277) ok dL_moves_277 ?_
                                refine a_iconst (pc := 278) ok dL_moves_278 ?_
                                refine v_oo (pc := 279) ok ex gk.1 dL_moves_279 (ug2 16 (by decide +kernel) rfl) (ug2 17 (by decide +kernel) rfl) miL_call hWo (AB4 hl hA4 hWo (u2 := 0) (u3 := 0)) ⟨by decide, by decide⟩ ⟨Nat.le_of_ble_eq_true rfl, Nat.le_of_ble_eq_true rfl⟩ rfl rfl (Nat.le_of_ble_eq_true rfl) ?_
                                intro Mo hWo
                                refine a_istore (pc := 282) ok dL_moves_282 rfl (by rw [hN]; decide) ?_
                                refine a_iload (pc := 284) ok dL_moves_284 rfl ?_
                                refine a_if_eq (pc := 286) (tgt := 358) ok dL_moves_286 (by decide) (by first | assumption | exact rg_w _ | exact rg_tw (by unfold rg; omega) (by unfold rg; omega) | (unfold rg; omega) | omega | exact bz_rg _ | grind [rg]) (fun c286 => ?_) (fun c286 => ?_)
                                · exfalso; have hb := hbb (mV x - mU A x) (mU A x - mB A x) (by omega) (by omega) (by omega) (by omega); omega
                                · refine a_iload (pc := 289) ok dL_moves_289 rfl ?_
                                  refine a_iload (pc := 291) ok dL_moves_291 rfl ?_
                                  refine a_icmp_gt (pc := 293) (tgt := 324) ok dL_moves_293 (by decide) (by first | assumption | exact rg_w _ | exact rg_tw (by unfold rg; omega) (by unfold rg; omega) | (unfold rg; omega) | omega | exact bz_rg _ | grind [rg]) (by first | assumption | exact rg_w _ | exact rg_tw (by unfold rg; omega) (by unfold rg; omega) | (unfold rg; omega) | omega | exact bz_rg _ | grind [rg]) (fun c293 => ?_) (fun c293 => ?_)
                                  · refine AW.widen (kc2 := 20) (ks2 := 120) (Nat.le_of_ble_eq_true rfl) (Nat.le_of_ble_eq_true rfl) ?_
                                    exact mv_t hl hN gk ex hA hB hWo hWq hx hn hk
                                  · refine a_iload (pc := 296) ok dL_moves_296 rfl ?_
                                    refine a_iload (pc := 298) ok dL_moves_298 rfl ?_
                                    refine a_icmp_ne (pc := 300) (tgt := 358) ok dL_moves_300 (by decide) (by first | assumption | exact rg_w _ | exact rg_tw (by unfold rg; omega) (by unfold rg; omega) | (unfold rg; omega) | omega | exact bz_rg _ | grind [rg]) (by first | assumption | exact rg_w _ | exact rg_tw (by unfold rg; omega) (by unfold rg; omega) | (unfold rg; omega) | omega | exact bz_rg _ | grind [rg]) (fun c300 => ?_) (fun c300 => ?_)
                                    · exfalso; have hb := hbb (mV x - mU A x) (mU A x - mB A x) (by omega) (by omega) (by omega) (by omega); omega
                                    · refine a_iload (pc := 303) ok dL_moves_303 rfl ?_
                                      refine a_iload (pc := 305) ok dL_moves_305 rfl ?_
                                      refine a_icmp_gt (pc := 307) (tgt := 324) ok dL_moves_307 (by decide) (by first | assumption | exact rg_w _ | exact rg_tw (by unfold rg; omega) (by unfold rg; omega) | (unfold rg; omega) | omega | exact bz_rg _ | grind [rg]) (by first | assumption | exact rg_w _ | exact rg_tw (by unfold rg; omega) (by unfold rg; omega) | (unfold rg; omega) | omega | exact bz_rg _ | grind [rg]) (fun c307 => ?_) (fun c307 => ?_)
                                      · refine AW.widen (kc2 := 20) (ks2 := 120) (Nat.le_of_ble_eq_true rfl) (Nat.le_of_ble_eq_true rfl) ?_
                                        exact mv_t hl hN gk ex hA hB hWo hWq hx hn hk
                                      · refine a_iload (pc := 310) ok dL_moves_310 rfl ?_
                                        refine a_iload (pc := 312) ok dL_moves_312 rfl ?_
                                        refine a_icmp_ne (pc := 314) (tgt := 358) ok dL_moves_314 (by decide) (by first | assumption | exact rg_w _ | exact rg_tw (by unfold rg; omega) (by unfold rg; omega) | (unfold rg; omega) | omega | exact bz_rg _ | grind [rg]) (by first | assumption | exact rg_w _ | exact rg_tw (by unfold rg; omega) (by unfold rg; omega) | (unfold rg; omega) | omega | exact bz_rg _ | grind [rg]) (fun c314 => ?_) (fun c314 => ?_)
                                        · exfalso; have hb := hbb (mV x - mU A x) (mU A x - mB A x) (by omega) (by omega) (by omega) (by omega); omega
                                        · refine a_iload (pc := 317) ok dL_moves_317 rfl ?_
                                          refine a_iload (pc := 319) ok dL_moves_319 rfl ?_
                                          refine a_icmp_lt (pc := 321) (tgt := 358) ok dL_moves_321 (by decide) (by first | assumption | exact rg_w _ | exact rg_tw (by unfold rg; omega) (by unfold rg; omega) | (unfold rg; omega) | omega | exact bz_rg _ | grind [rg]) (by first | assumption | exact rg_w _ | exact rg_tw (by unfold rg; omega) (by unfold rg; omega) | (unfold rg; omega) | omega | exact bz_rg _ | grind [rg]) (fun c321 => ?_) (fun c321 => ?_)
                                          · exfalso; have hb := hbb (mV x - mU A x) (mU A x - mB A x) (by omega) (by omega) (by omega) (by omega); omega
                                          · refine AW.widen (kc2 := 20) (ks2 := 120) (Nat.le_of_ble_eq_true rfl) (Nat.le_of_ble_eq_true rfl) ?_
                                            exact mv_t hl hN gk ex hA hB hWo hWq hx hn hk
                            · refine a_iload (pc := 237) ok dL_moves_237 rfl ?_
                              refine a_iload (pc := 239) ok dL_moves_239 rfl ?_
                              refine a_isub (pc := 241) ok dL_moves_241 ?_
                              refine a_goto (pc := 242) (tgt := 250) ok dL_moves_242 (by decide) ?_
                              refine a_istore (pc := 250) ok dL_moves_250 rfl (by rw [hN]; decide) ?_
                              refine a_iload (pc := 252) ok dL_moves_252 rfl ?_
                              refine a_iload (pc := 254) ok dL_moves_254 rfl ?_
                              refine a_icmp_ge (pc := 256) (tgt := 267) ok dL_moves_256 (by decide) (by first | assumption | exact rg_w _ | exact rg_tw (by unfold rg; omega) (by unfold rg; omega) | (unfold rg; omega) | omega | exact bz_rg _ | grind [rg]) (by first | assumption | exact rg_w _ | exact rg_tw (by unfold rg; omega) (by unfold rg; omega) | (unfold rg; omega) | omega | exact bz_rg _ | grind [rg]) (fun c256 => ?_) (fun c256 => ?_)
                              · refine a_iload (pc := 267) ok dL_moves_267 rfl ?_
                                refine a_iload (pc := 269) ok dL_moves_269 rfl ?_
                                refine a_isub (pc := 271) ok dL_moves_271 ?_
                                refine a_istore (pc := 272) ok dL_moves_272 rfl (by rw [hN]; decide) ?_
                                refine a_aload_n (pc := 274) ok dL_moves_274 rfl ?_
                                refine a_iconst (pc := 275) ok dL_moves_275 ?_
                                refine a_iconst (pc := 276) ok dL_moves_276 ?_
                                refine a_iconst (pc := 277) ok dL_moves_277 ?_
                                refine a_iconst (pc := 278) ok dL_moves_278 ?_
                                refine v_oo (pc := 279) ok ex gk.1 dL_moves_279 (ug2 16 (by decide +kernel) rfl) (ug2 17 (by decide +kernel) rfl) miL_call hWo (AB4 hl hA4 hWo (u2 := 0) (u3 := 0)) ⟨by decide, by decide⟩ ⟨Nat.le_of_ble_eq_true rfl, Nat.le_of_ble_eq_true rfl⟩ rfl rfl (Nat.le_of_ble_eq_true rfl) ?_
                                intro Mo hWo
                                refine a_istore (pc := 282) ok dL_moves_282 rfl (by rw [hN]; decide) ?_
                                refine a_iload (pc := 284) ok dL_moves_284 rfl ?_
                                refine a_if_eq (pc := 286) (tgt := 358) ok dL_moves_286 (by decide) (by first | assumption | exact rg_w _ | exact rg_tw (by unfold rg; omega) (by unfold rg; omega) | (unfold rg; omega) | omega | exact bz_rg _ | grind [rg]) (fun c286 => ?_) (fun c286 => ?_)
                                · exfalso; have hb := hbb (mU A x - mV x) (mB A x - mU A x) (by omega) (by omega) (by omega) (by omega); omega
                                · refine a_iload (pc := 289) ok dL_moves_289 rfl ?_
                                  refine a_iload (pc := 291) ok dL_moves_291 rfl ?_
                                  refine a_icmp_gt (pc := 293) (tgt := 324) ok dL_moves_293 (by decide) (by first | assumption | exact rg_w _ | exact rg_tw (by unfold rg; omega) (by unfold rg; omega) | (unfold rg; omega) | omega | exact bz_rg _ | grind [rg]) (by first | assumption | exact rg_w _ | exact rg_tw (by unfold rg; omega) (by unfold rg; omega) | (unfold rg; omega) | omega | exact bz_rg _ | grind [rg]) (fun c293 => ?_) (fun c293 => ?_)
                                  · refine AW.widen (kc2 := 20) (ks2 := 120) (Nat.le_of_ble_eq_true rfl) (Nat.le_of_ble_eq_true rfl) ?_
                                    exact mv_t hl hN gk ex hA hB hWo hWq hx hn hk
                                  · refine a_iload (pc := 296) ok dL_moves_296 rfl ?_
                                    refine a_iload (pc := 298) ok dL_moves_298 rfl ?_
                                    refine a_icmp_ne (pc := 300) (tgt := 358) ok dL_moves_300 (by decide) (by first | assumption | exact rg_w _ | exact rg_tw (by unfold rg; omega) (by unfold rg; omega) | (unfold rg; omega) | omega | exact bz_rg _ | grind [rg]) (by first | assumption | exact rg_w _ | exact rg_tw (by unfold rg; omega) (by unfold rg; omega) | (unfold rg; omega) | omega | exact bz_rg _ | grind [rg]) (fun c300 => ?_) (fun c300 => ?_)
                                    · exfalso; have hb := hbb (mU A x - mV x) (mB A x - mU A x) (by omega) (by omega) (by omega) (by omega); omega
                                    · refine a_iload (pc := 303) ok dL_moves_303 rfl ?_
                                      refine a_iload (pc := 305) ok dL_moves_305 rfl ?_
                                      refine a_icmp_gt (pc := 307) (tgt := 324) ok dL_moves_307 (by decide) (by first | assumption | exact rg_w _ | exact rg_tw (by unfold rg; omega) (by unfold rg; omega) | (unfold rg; omega) | omega | exact bz_rg _ | grind [rg]) (by first | assumption | exact rg_w _ | exact rg_tw (by unfold rg; omega) (by unfold rg; omega) | (unfold rg; omega) | omega | exact bz_rg _ | grind [rg]) (fun c307 => ?_) (fun c307 => ?_)
                                      · refine AW.widen (kc2 := 20) (ks2 := 120) (Nat.le_of_ble_eq_true rfl) (Nat.le_of_ble_eq_true rfl) ?_
                                        exact mv_t hl hN gk ex hA hB hWo hWq hx hn hk
                                      · refine a_iload (pc := 310) ok dL_moves_310 rfl ?_
                                        refine a_iload (pc := 312) ok dL_moves_312 rfl ?_
                                        refine a_icmp_ne (pc := 314) (tgt := 358) ok dL_moves_314 (by decide) (by first | assumption | exact rg_w _ | exact rg_tw (by unfold rg; omega) (by unfold rg; omega) | (unfold rg; omega) | omega | exact bz_rg _ | grind [rg]) (by first | assumption | exact rg_w _ | exact rg_tw (by unfold rg; omega) (by unfold rg; omega) | (unfold rg; omega) | omega | exact bz_rg _ | grind [rg]) (fun c314 => ?_) (fun c314 => ?_)
                                        · exfalso; have hb := hbb (mU A x - mV x) (mB A x - mU A x) (by omega) (by omega) (by omega) (by omega); omega
                                        · refine a_iload (pc := 317) ok dL_moves_317 rfl ?_
                                          refine a_iload (pc := 319) ok dL_moves_319 rfl ?_
                                          refine a_icmp_lt (pc := 321) (tgt := 358) ok dL_moves_321 (by decide) (by first | assumption | exact rg_w _ | exact rg_tw (by unfold rg; omega) (by unfold rg; omega) | (unfold rg; omega) | omega | exact bz_rg _ | grind [rg]) (by first | assumption | exact rg_w _ | exact rg_tw (by unfold rg; omega) (by unfold rg; omega) | (unfold rg; omega) | omega | exact bz_rg _ | grind [rg]) (fun c321 => ?_) (fun c321 => ?_)
                                          · exfalso; have hb := hbb (mU A x - mV x) (mB A x - mU A x) (by omega) (by omega) (by omega) (by omega); omega
                                          · refine AW.widen (kc2 := 20) (ks2 := 120) (Nat.le_of_ble_eq_true rfl) (Nat.le_of_ble_eq_true rfl) ?_
                                            exact mv_t hl hN gk ex hA hB hWo hWq hx hn hk
                              · refine a_iload (pc := 259) ok dL_moves_259 rfl ?_
                                refine a_iload (pc := 261) ok dL_moves_261 rfl ?_
                                refine a_isub (pc := 263) ok dL_moves_263 ?_
                                refine a_goto (pc := 264) (tgt := 272) ok dL_moves_264 (by decide) ?_
                                refine a_istore (pc := 272) ok dL_moves_272 rfl (by rw [hN]; decide) ?_
                                refine a_aload_n (pc := 274) ok dL_moves_274 rfl ?_
                                refine a_iconst (pc := 275) ok dL_moves_275 ?_
                                refine a_iconst (pc := 276) ok dL_moves_276 ?_
                                refine a_iconst (pc := 277) ok dL_moves_277 ?_
                                refine a_iconst (pc := 278) ok dL_moves_278 ?_
                                refine v_oo (pc := 279) ok ex gk.1 dL_moves_279 (ug2 16 (by decide +kernel) rfl) (ug2 17 (by decide +kernel) rfl) miL_call hWo (AB4 hl hA4 hWo (u2 := 0) (u3 := 0)) ⟨by decide, by decide⟩ ⟨Nat.le_of_ble_eq_true rfl, Nat.le_of_ble_eq_true rfl⟩ rfl rfl (Nat.le_of_ble_eq_true rfl) ?_
                                intro Mo hWo
                                refine a_istore (pc := 282) ok dL_moves_282 rfl (by rw [hN]; decide) ?_
                                refine a_iload (pc := 284) ok dL_moves_284 rfl ?_
                                refine a_if_eq (pc := 286) (tgt := 358) ok dL_moves_286 (by decide) (by first | assumption | exact rg_w _ | exact rg_tw (by unfold rg; omega) (by unfold rg; omega) | (unfold rg; omega) | omega | exact bz_rg _ | grind [rg]) (fun c286 => ?_) (fun c286 => ?_)
                                · exfalso; have hb := hbb (mU A x - mV x) (mU A x - mB A x) (by omega) (by omega) (by omega) (by omega); omega
                                · refine a_iload (pc := 289) ok dL_moves_289 rfl ?_
                                  refine a_iload (pc := 291) ok dL_moves_291 rfl ?_
                                  refine a_icmp_gt (pc := 293) (tgt := 324) ok dL_moves_293 (by decide) (by first | assumption | exact rg_w _ | exact rg_tw (by unfold rg; omega) (by unfold rg; omega) | (unfold rg; omega) | omega | exact bz_rg _ | grind [rg]) (by first | assumption | exact rg_w _ | exact rg_tw (by unfold rg; omega) (by unfold rg; omega) | (unfold rg; omega) | omega | exact bz_rg _ | grind [rg]) (fun c293 => ?_) (fun c293 => ?_)
                                  · refine AW.widen (kc2 := 20) (ks2 := 120) (Nat.le_of_ble_eq_true rfl) (Nat.le_of_ble_eq_true rfl) ?_
                                    exact mv_t hl hN gk ex hA hB hWo hWq hx hn hk
                                  · refine a_iload (pc := 296) ok dL_moves_296 rfl ?_
                                    refine a_iload (pc := 298) ok dL_moves_298 rfl ?_
                                    refine a_icmp_ne (pc := 300) (tgt := 358) ok dL_moves_300 (by decide) (by first | assumption | exact rg_w _ | exact rg_tw (by unfold rg; omega) (by unfold rg; omega) | (unfold rg; omega) | omega | exact bz_rg _ | grind [rg]) (by first | assumption | exact rg_w _ | exact rg_tw (by unfold rg; omega) (by unfold rg; omega) | (unfold rg; omega) | omega | exact bz_rg _ | grind [rg]) (fun c300 => ?_) (fun c300 => ?_)
                                    · exfalso; have hb := hbb (mU A x - mV x) (mU A x - mB A x) (by omega) (by omega) (by omega) (by omega); omega
                                    · refine a_iload (pc := 303) ok dL_moves_303 rfl ?_
                                      refine a_iload (pc := 305) ok dL_moves_305 rfl ?_
                                      refine a_icmp_gt (pc := 307) (tgt := 324) ok dL_moves_307 (by decide) (by first | assumption | exact rg_w _ | exact rg_tw (by unfold rg; omega) (by unfold rg; omega) | (unfold rg; omega) | omega | exact bz_rg _ | grind [rg]) (by first | assumption | exact rg_w _ | exact rg_tw (by unfold rg; omega) (by unfold rg; omega) | (unfold rg; omega) | omega | exact bz_rg _ | grind [rg]) (fun c307 => ?_) (fun c307 => ?_)
                                      · refine AW.widen (kc2 := 20) (ks2 := 120) (Nat.le_of_ble_eq_true rfl) (Nat.le_of_ble_eq_true rfl) ?_
                                        exact mv_t hl hN gk ex hA hB hWo hWq hx hn hk
                                      · refine a_iload (pc := 310) ok dL_moves_310 rfl ?_
                                        refine a_iload (pc := 312) ok dL_moves_312 rfl ?_
                                        refine a_icmp_ne (pc := 314) (tgt := 358) ok dL_moves_314 (by decide) (by first | assumption | exact rg_w _ | exact rg_tw (by unfold rg; omega) (by unfold rg; omega) | (unfold rg; omega) | omega | exact bz_rg _ | grind [rg]) (by first | assumption | exact rg_w _ | exact rg_tw (by unfold rg; omega) (by unfold rg; omega) | (unfold rg; omega) | omega | exact bz_rg _ | grind [rg]) (fun c314 => ?_) (fun c314 => ?_)
                                        · exfalso; have hb := hbb (mU A x - mV x) (mU A x - mB A x) (by omega) (by omega) (by omega) (by omega); omega
                                        · refine a_iload (pc := 317) ok dL_moves_317 rfl ?_
                                          refine a_iload (pc := 319) ok dL_moves_319 rfl ?_
                                          refine a_icmp_lt (pc := 321) (tgt := 358) ok dL_moves_321 (by decide) (by first | assumption | exact rg_w _ | exact rg_tw (by unfold rg; omega) (by unfold rg; omega) | (unfold rg; omega) | omega | exact bz_rg _ | grind [rg]) (by first | assumption | exact rg_w _ | exact rg_tw (by unfold rg; omega) (by unfold rg; omega) | (unfold rg; omega) | omega | exact bz_rg _ | grind [rg]) (fun c321 => ?_) (fun c321 => ?_)
                                          · exfalso; have hb := hbb (mU A x - mV x) (mU A x - mB A x) (by omega) (by omega) (by omega) (by omega); omega
                                          · refine AW.widen (kc2 := 20) (ks2 := 120) (Nat.le_of_ble_eq_true rfl) (Nat.le_of_ble_eq_true rfl) ?_
                                            exact mv_t hl hN gk ex hA hB hWo hWq hx hn hk
  · exfalso; first | omega | grind
theorem kPt_02 {S : St} {v b : Int} (hv : 1 ≤ v ∧ v ≤ 99) : kPart S v b = 0 ∨ kPart S v b = 2 := by
  unfold kPart
  rw [if_neg (fun z => z hv)]
  split
  · exact Or.inl rfl
  · exact Or.inr rfl
theorem H_moves (hA : VA A) (hB : VB A) {x : Int} (hx : 0 ≤ x ∧ x < 2147483648) : ∃ A' : Ob, VA A' ∧ VB A' ∧ ∀ {l : Launch} {Mo Mq : List va_E}, l.stackTraces = false → WO A Mo → WO A Mq → CtV l yL_moves cL_moves 14 (some .boolean) rgL_moves [.ref 0, .ref 103, iv x] (W2 103 Mo Mq) (po2 1 A' A') := by
  by_cases hn : sN (jS A) = 0
  · exact ⟨A, hA, hB, fun hl hWo hWq => mv_0 hl hA hWo hWq hn⟩
  · obtain ⟨⟨k1, u1, b1⟩, t1, t2, hA1, hA2, hA3, e3, ⟨n1, n2⟩, e6, ⟨c3, c4, c5⟩, hB3⟩ := mv_all hA hB hx hn
    rcases kPt_02 (S := jS (mA3 A x)) (v := mV x) (b := 1) (by show 1 ≤ 1 + x / 5 % 99 ∧ 1 + x / 5 % 99 ≤ 99; omega) with hk | hk
    · obtain ⟨hA4, hA5, e7, e4, n4, ⟨c6, c7, c8⟩, hB5, hbb⟩ := mv_more hA hB hx hn hk
      exact ⟨_, VA_undo hA5 (by omega), VB_undo hB5, fun hl hWo hWq => mv_a hl hA hB hWo hWq hx hn hk⟩
    · exact ⟨_, VA_undo hA3 (by omega), VB_undo hB3, fun hl hWo hWq => mv_b hl hA hB hWo hWq hx hn hk⟩
end TWO7
