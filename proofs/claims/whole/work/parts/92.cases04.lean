/-! THE LAW: its cases. Printed by wip/whole/gen/mk91.py. -/
section LC103
variable {kn : Int} {nk : Int} {sz : Int} {tx : Int → Int} {S : St} {cnt : Int} {nx : Int} {σ : Nat → St} {sv : Int → Int} {c0 : Int} {r0 : Int} {m0 : Int} {ct : Int} {B : Int → Int} {F : Int → Int} {Z : Int → Int} {Br : Int → Int} {Q : Int → Int} {Fo : Int → Int} {No : Int → Int} {Ho : Int → Int} {Mo : Int → Int} {In : Int → Int} {Sn : Int → Int} {Qn : Int → Int} {S2 : St} {c1 : Int} {r1 : Int} {m1 : Int} {ct1 : Int} {B1 : Int → Int} {F1 : Int → Int} {Z1 : Int → Int} {Br1 : Int → Int} {Q1 : Int → Int} {Fo1 : Int → Int} {No1 : Int → Int} {sd : Int} {rt : Int} {lf : Int} {wy : Int} {gb : Int → Int} {P0 : St} {P1 : St} {rf : Int} {S3 : St} {S4 : St} {ac : Int} {Bm : Int → Int} {Im : Int → Int} {mm : Int} {Fi : Int → Int} {Co : Int → Int} {Bq : Int → Int} {Wt : Int → Int} {mk : Int → Int} {gy : Int → Int} {di : Int → Int} {ke : Int → Int} {ik : Int → Int} {ea : Int → Int} {sd2 : Int} {rt2 : Int} {lf2 : Int} {wy2 : Int} {sp : Int} {ou : Int} {fo : Int → Int}
theorem cs_thresholdAt {X : Cx} {b L : Nat} {xs : Nat → Int32} {i : Int} {kc ks : Nat} (ok : OKL X) (pre : PRE X b L xs i kc ks) (hcn : CN S kn nk c0 r0 m0 ct B F Z Fo No Ho Mo In) (hr : rwI B1 F1 Z1) (hB : ∀ i, 0 ≤ Bm i ∧ Bm i ≤ 5) (hI : ∀ i, rg (Im i)) (t : TW S S3) (hm : RM cnt nx σ ac di) (hk9 : RK P0 P1 sv ik ke) (ht9 : REt sz tx) (k : ∀ M, INV M → AW X (kc + 1) (ks + 6) 2245 [some (.ref 4095), some (.ref 0), some (.ref 103), some (.ref 119), some (iv i), none, none] [] M) :
    AW X kc ks 454 [some (.ref 4095), some (.ref 0), some (.ref 103), some (.ref 119), some (iv i), none, none] [] (lwW kn nk sz tx S (ringP 7) cnt nx σ (slotP 95) sv c0 r0 m0 ct B F Z Br Q Fo No Ho Mo In Sn Qn S2 c1 r1 m1 ct1 B1 F1 Z1 Br1 Q1 Fo1 No1 sd rt lf wy gb P0 P1 rf S3 S4 ac Bm Im mm Fi Co Bq Wt mk gy di ke ik ea sd2 rt2 lf2 wy2 sp ou fo) := by
  obtain ⟨ex, hN, sc, hi, hL, hl, hkc, hks⟩ := pre
  have hc9 : 0 ≤ ac ∧ ac ≤ 14 := by rw [hm.2.2.1]; exact hm.1
  have eK : kIn (xv xs (i + 1)) 0 (sN S3 - 1) = kIn (xv xs (i + 1)) 0 (sN S - 1) := kThr_E t.2.2 _
  have eA : kIn (xv xs (i + 1)) 0 (sN S - 1) = 0 → sT S3 (xv xs (i + 1)) = sT S (xv xs (i + 1)) := fun z => aThr_E t.2.2 z
  have hKr : rg (kIn (xv xs (i + 1)) 0 (sN S - 1)) := by
    unfold kIn rg
    repeat' split
    all_goals omega
  refine a_aload_n (pc := 454) ok dL_law_454 rfl ?_
  refine a_aload_n (pc := 455) ok dL_law_455 rfl ?_
  refine a_iload (pc := 456) ok dL_law_456 rfl ?_
  refine a_iconst (pc := 458) ok dL_law_458 ?_
  refine a_iadd (pc := 459) ok dL_law_459 ?_
  refine a_sld (pc := 460) ok sc dL_law_460 (by omega) hL ?_
  refine a_aload_n (pc := 461) ok dL_law_461 rfl ?_
  refine l_callS (pc := 462) ok ex πL_T 6 dL_law_462 (ug3 235 (by decide +kernel) rfl) (ug3 236 (by decide +kernel) rfl) miL_thresholdAt (W_thresholdAt (k := (xv xs (i + 1))) hl t.1 (xv_rg _ _)) ⟨by decide, by decide, rfl, rfl⟩ ⟨hkc, hks⟩ rfl rfl (Nat.le_of_ble_eq_true rfl) rfl rfl nd_T (fun _ _ h => by obtain ⟨_, _, _, M9, rfl, rfl⟩ := h; rfl) ?_
  rintro _ M8 ⟨rfl, fo', hfo, M9, hp, rfl⟩
  subst hp
  refine AW.cast (st2 := [iv (kIn (xv xs (i + 1)) 0 (sN S - 1))]) (M2 := (lwW kn nk sz tx S (ringP 7) cnt nx σ (slotP 95) sv c0 r0 m0 ct B F Z Br Q Fo No Ho Mo In Sn Qn S2 c1 r1 m1 ct1 B1 F1 Z1 Br1 Q1 Fo1 No1 sd rt lf wy gb P0 P1 rf S3 S4 ac Bm Im mm Fi Co Bq Wt mk gy di ke ik ea sd2 rt2 lf2 wy2 sp ou (fo'))) ?_ rfl rfl rfl
  refine a_istore (pc := 465) ok dL_law_465 rfl (by rw [hN]; decide) ?_
  refine a_aload_n (pc := 467) ok dL_law_467 rfl ?_
  refine a_aload_n (pc := 468) ok dL_law_468 rfl ?_
  refine a_iload (pc := 469) ok dL_law_469 rfl ?_
  refine a_iconst (pc := 471) ok dL_law_471 ?_
  refine a_iadd (pc := 472) ok dL_law_472 ?_
  refine a_sld (pc := 473) ok sc dL_law_473 (by omega) hL ?_
  refine a_callV (pc := 474) ok [103, 105, 110, 111, 112, 113, 114, 115, 116, 117, 106, 104, 107, 108, 109, 118] dL_law_474 mvL_145 miX7_thresholdAt (c_mthresholdAt t.2.1 hB hI (xv_rg _ _)) ⟨by decide, by decide, rfl, rfl, (by show _ ≤ 601024; omega), (by show _ ≤ 7293034; omega)⟩ rfl rfl (Nat.le_of_ble_eq_true rfl) rfl (by decide) rfl rfl (fun _ _ h => WM_len h.2) ?_
  rintro _ M' ⟨rfl, hwm⟩
  obtain ⟨Bm', Im', mm', Fi', Co', Bq', Wt', mk', gy', S4', ea', sd2', rt2', lf2', wy2', sp', ou', rfl, hB', hI'⟩ := hwm
  refine AW.cast (st2 := [iv (w32 (if kIn (xv xs (i + 1)) 0 (sN S3 - 1) = 0 then sT S3 (xv xs (i + 1)) else 0))]) (M2 := (lwW kn nk sz tx S (ringP 7) cnt nx σ (slotP 95) sv c0 r0 m0 ct B F Z Br Q Fo No Ho Mo In Sn Qn S2 c1 r1 m1 ct1 B1 F1 Z1 Br1 Q1 Fo1 No1 sd rt lf wy gb P0 P1 (kIn (xv xs (i + 1)) 0 (sN S3 - 1)) S3 (S4') ac (Bm') (Im') (mm') (Fi') (Co') (Bq') (Wt') (mk') (gy') di ke ik (ea') (sd2') (rt2') (lf2') (wy2') (sp') (ou') (fo'))) ?_ rfl (congrArg (fun v : Value => [v]) (iv_w _)) rfl
  have hInv : INV (lwW kn nk sz tx S (ringP 7) cnt nx σ (slotP 95) sv c0 r0 m0 ct B F Z Br Q Fo No Ho Mo In Sn Qn S2 c1 r1 m1 ct1 B1 F1 Z1 Br1 Q1 Fo1 No1 sd rt lf wy gb P0 P1 (kIn (xv xs (i + 1)) 0 (sN S3 - 1)) S3 (S4') ac (Bm') (Im') (mm') (Fi') (Co') (Bq') (Wt') (mk') (gy') di ke ik (ea') (sd2') (rt2') (lf2') (wy2') (sp') (ou') (fo')) := ⟨_, _, _, _, _, _, _, _, _, _, _, _, _, _, _, _, _, _, _, _, _, _, _, _, _, _, _, _, _, _, _, _, _, _, _, _, _, _, _, _, _, _, _, _, _, _, _, _, _, _, _, _, _, _, _, _, _, _, _, _, _, _, _, _, _, _, _, _, rfl, hcn, hr, hB', hI', t, hm, hk9, ht9⟩
  refine a_istore (pc := 477) ok dL_law_477 rfl (by rw [hN]; decide) ?_
  refine a_aload_n (pc := 479) ok dL_law_479 rfl ?_
  refine x_callVp (pc := 480) ok [103, 104, 105, 106, 107, 108, 109, 110, 111, 112, 113, 114, 115, 116, 117, 118] 1 dL_law_480 mvL_121 miX7_thrown (c_thrown) ⟨by decide, by decide, rfl, rfl, (by show _ ≤ 601024; omega), (by show _ ≤ 7293034; omega)⟩ rfl rfl (Nat.le_of_ble_eq_true rfl) rfl rfl (by decide) rfl rfl ?_
  refine a_iload (pc := 483) ok dL_law_483 rfl ?_
  refine a_icmp_eq (pc := 485) (tgt := 490) ok dL_law_485 (by decide) (by first | exact hKr | (rw [eK]; exact hKr)) (by first | exact hKr | (rw [eK]; exact hKr)) (fun c485 => ?_) (fun c485 => ?_)
  · refine a_iload (pc := 490) ok dL_law_490 rfl ?_
    refine a_if_ne (pc := 492) (tgt := 507) ok dL_law_492 (by decide) (by exact hKr) (fun c492 => ?_) (fun c492 => ?_)
    · refine a_goto (pc := 507) (tgt := 2245) ok dL_law_507 (by decide) ?_
      exact AW.forget (k _ hInv) (by repeat' (first | exact trivial | refine ⟨rfl, ?_⟩))
    · have h0 : kIn (xv xs (i + 1)) 0 (sN S - 1) = 0 := by first | exact c492 | omega
      have e1 := hfo h0
      have e2 : w32 (if kIn (xv xs (i + 1)) 0 (sN S3 - 1) = 0 then sT S3 (xv xs (i + 1)) else 0) = w32 (sT S (xv xs (i + 1))) := by have q := eK.trans h0; have q2 := eA h0; rw [if_pos q, q2]
      refine a_aload_n (pc := 495) ok dL_law_495 rfl ?_
      refine a_iconst (pc := 496) ok dL_law_496 ?_
      refine a_lald (pc := 497) ok dL_law_497 (rfl) (by decide) (by omega) ?_
      refine a_iload (pc := 498) ok dL_law_498 rfl ?_
      refine a_i2l (pc := 500) ok dL_law_500 (by exact rg_w _) ?_
      refine a_lcmp (pc := 501) ok dL_law_501 (by first | (rw [e1]; exact rgL_w9 _) | exact rgL_w9 _) (by first | (rw [e1]; exact rgL_w9 _) | exact rgL_w9 _) (fun c501 => ?_) (fun c501 => ?_) (fun c501 => ?_)
      · exfalso; rw [e1, e2] at c501; exact absurd c501 (Int.lt_irrefl _)
      · refine a_if_eq (pc := 502) (tgt := 507) ok dL_law_502 (by decide) (by first | omega | (unfold rg; omega) | (simp only [rg] at *; omega) | exact bz_rg _ | grind [rg]) (fun c502 => ?_) (fun c502 => ?_)
        · refine a_goto (pc := 507) (tgt := 2245) ok dL_law_507 (by decide) ?_
          exact AW.forget (k _ hInv) (by repeat' (first | exact trivial | refine ⟨rfl, ?_⟩))
        · exact absurd rfl c502
      · exfalso; rw [e1, e2] at c501; exact absurd c501 (Int.lt_irrefl _)
  · exact absurd eK c485
theorem cs_island {X : Cx} {b L : Nat} {xs : Nat → Int32} {i : Int} {kc ks : Nat} (ok : OKL X) (pre : PRE X b L xs i kc ks) (hcn : CN S kn nk c0 r0 m0 ct B F Z Fo No Ho Mo In) (hr : rwI B1 F1 Z1) (hB : ∀ i, 0 ≤ Bm i ∧ Bm i ≤ 5) (hI : ∀ i, rg (Im i)) (t : TW S S3) (hm : RM cnt nx σ ac di) (hk9 : RK P0 P1 sv ik ke) (ht9 : REt sz tx) (k : ∀ M, INV M → AW X (kc + 1) (ks + 6) 2245 [some (.ref 4095), some (.ref 0), some (.ref 103), some (.ref 119), some (iv i), none, none] [] M) :
    AW X kc ks 510 [some (.ref 4095), some (.ref 0), some (.ref 103), some (.ref 119), some (iv i), none, none] [] (lwW kn nk sz tx S (ringP 7) cnt nx σ (slotP 95) sv c0 r0 m0 ct B F Z Br Q Fo No Ho Mo In Sn Qn S2 c1 r1 m1 ct1 B1 F1 Z1 Br1 Q1 Fo1 No1 sd rt lf wy gb P0 P1 rf S3 S4 ac Bm Im mm Fi Co Bq Wt mk gy di ke ik ea sd2 rt2 lf2 wy2 sp ou fo) := by
  obtain ⟨ex, hN, sc, hi, hL, hl, hkc, hks⟩ := pre
  have hc9 : 0 ≤ ac ∧ ac ≤ 14 := by rw [hm.2.2.1]; exact hm.1
  have eK : kIsle S3 (xv xs (i + 1)) (xv xs (i + 2)) 8 = kIsle S (xv xs (i + 1)) (xv xs (i + 2)) 8 := kIsle_E t.2.2 _ _ _
  have eA : kIsle S (xv xs (i + 1)) (xv xs (i + 2)) 8 = 0 → aIsland S3 (xv xs (i + 1)) (xv xs (i + 2)) = aIsland S (xv xs (i + 1)) (xv xs (i + 2)) := fun _ => aIsland_E t.2.2 _ _
  have hKr : rg (kIsle S (xv xs (i + 1)) (xv xs (i + 2)) 8) := by
    unfold kIsle rg
    repeat' split
    all_goals omega
  refine a_aload_n (pc := 510) ok dL_law_510 rfl ?_
  refine a_aload_n (pc := 511) ok dL_law_511 rfl ?_
  refine a_iload (pc := 512) ok dL_law_512 rfl ?_
  refine a_iconst (pc := 514) ok dL_law_514 ?_
  refine a_iadd (pc := 515) ok dL_law_515 ?_
  refine a_sld (pc := 516) ok sc dL_law_516 (by omega) hL ?_
  refine a_aload_n (pc := 517) ok dL_law_517 rfl ?_
  refine a_iload (pc := 518) ok dL_law_518 rfl ?_
  refine a_iconst (pc := 520) ok dL_law_520 ?_
  refine a_iadd (pc := 521) ok dL_law_521 ?_
  refine a_sld (pc := 522) ok sc dL_law_522 (by omega) hL ?_
  refine a_aload_n (pc := 523) ok dL_law_523 rfl ?_
  refine l_callS (pc := 524) ok ex πL_B 20 dL_law_524 (ug4 6 (by decide +kernel) rfl) (ug4 7 (by decide +kernel) rfl) miL_island (W_island (i := (xv xs (i + 1))) (w := (xv xs (i + 2))) hl t.1 hcn (xv_rg _ _) (xv_rg _ _)) ⟨by decide, by decide, rfl, rfl⟩ ⟨hkc, hks⟩ rfl rfl (Nat.le_of_ble_eq_true rfl) rfl rfl nd_B (fun _ _ h => by obtain ⟨_, _, _, M9, hp, rfl⟩ := h; rw [wr_len (RB_len hp)]; rfl) ?_
  rintro _ M8 ⟨rfl, fo', hfo, M9, hp, rfl⟩
  obtain ⟨kn', nk', c0', r0', m0', ct', B', F', Z', Br', Q', Fo', No', Ho', Mo', In', Sn', Qn', rfl, hcn'⟩ := hp
  refine AW.cast (st2 := [iv (kIsle S (xv xs (i + 1)) (xv xs (i + 2)) 8)]) (M2 := (lwW (kn') (nk') sz tx S (ringP 7) cnt nx σ (slotP 95) sv (c0') (r0') (m0') (ct') (B') (F') (Z') (Br') (Q') (Fo') (No') (Ho') (Mo') (In') (Sn') (Qn') S2 c1 r1 m1 ct1 B1 F1 Z1 Br1 Q1 Fo1 No1 sd rt lf wy gb P0 P1 rf S3 S4 ac Bm Im mm Fi Co Bq Wt mk gy di ke ik ea sd2 rt2 lf2 wy2 sp ou (fo'))) ?_ rfl rfl rfl
  refine a_istore (pc := 527) ok dL_law_527 rfl (by rw [hN]; decide) ?_
  refine a_aload_n (pc := 529) ok dL_law_529 rfl ?_
  refine a_aload_n (pc := 530) ok dL_law_530 rfl ?_
  refine a_iload (pc := 531) ok dL_law_531 rfl ?_
  refine a_iconst (pc := 533) ok dL_law_533 ?_
  refine a_iadd (pc := 534) ok dL_law_534 ?_
  refine a_sld (pc := 535) ok sc dL_law_535 (by omega) hL ?_
  refine a_aload_n (pc := 536) ok dL_law_536 rfl ?_
  refine a_iload (pc := 537) ok dL_law_537 rfl ?_
  refine a_iconst (pc := 539) ok dL_law_539 ?_
  refine a_iadd (pc := 540) ok dL_law_540 ?_
  refine a_sld (pc := 541) ok sc dL_law_541 (by omega) hL ?_
  refine a_callV (pc := 542) ok [103, 105, 110, 111, 112, 113, 114, 115, 116, 117, 106, 104, 107, 108, 109, 118] dL_law_542 mvL_149 miX7_island (c_misland t.2.1 hB hI (xv_rg _ _) (xv_rg _ _)) ⟨by decide, by decide, rfl, rfl, (by show _ ≤ 601024; omega), (by show _ ≤ 7293034; omega)⟩ rfl rfl (Nat.le_of_ble_eq_true rfl) rfl (by decide) rfl rfl (fun _ _ h => WM_len h.2) ?_
  rintro _ M' ⟨rfl, hwm⟩
  obtain ⟨Bm', Im', mm', Fi', Co', Bq', Wt', mk', gy', S4', ea', sd2', rt2', lf2', wy2', sp', ou', rfl, hB', hI'⟩ := hwm
  refine AW.cast (st2 := [iv (w32 (if kIsle S3 (xv xs (i + 1)) (xv xs (i + 2)) 8 = 0 then aIsland S3 (xv xs (i + 1)) (xv xs (i + 2)) else 0))]) (M2 := (lwW (kn') (nk') sz tx S (ringP 7) cnt nx σ (slotP 95) sv (c0') (r0') (m0') (ct') (B') (F') (Z') (Br') (Q') (Fo') (No') (Ho') (Mo') (In') (Sn') (Qn') S2 c1 r1 m1 ct1 B1 F1 Z1 Br1 Q1 Fo1 No1 sd rt lf wy gb P0 P1 (kIsle S3 (xv xs (i + 1)) (xv xs (i + 2)) 8) S3 (S4') ac (Bm') (Im') (mm') (Fi') (Co') (Bq') (Wt') (mk') (gy') di ke ik (ea') (sd2') (rt2') (lf2') (wy2') (sp') (ou') (fo'))) ?_ rfl (congrArg (fun v : Value => [v]) (iv_w _)) rfl
  have hInv : INV (lwW (kn') (nk') sz tx S (ringP 7) cnt nx σ (slotP 95) sv (c0') (r0') (m0') (ct') (B') (F') (Z') (Br') (Q') (Fo') (No') (Ho') (Mo') (In') (Sn') (Qn') S2 c1 r1 m1 ct1 B1 F1 Z1 Br1 Q1 Fo1 No1 sd rt lf wy gb P0 P1 (kIsle S3 (xv xs (i + 1)) (xv xs (i + 2)) 8) S3 (S4') ac (Bm') (Im') (mm') (Fi') (Co') (Bq') (Wt') (mk') (gy') di ke ik (ea') (sd2') (rt2') (lf2') (wy2') (sp') (ou') (fo')) := ⟨_, _, _, _, _, _, _, _, _, _, _, _, _, _, _, _, _, _, _, _, _, _, _, _, _, _, _, _, _, _, _, _, _, _, _, _, _, _, _, _, _, _, _, _, _, _, _, _, _, _, _, _, _, _, _, _, _, _, _, _, _, _, _, _, _, _, _, _, rfl, hcn', hr, hB', hI', t, hm, hk9, ht9⟩
  refine a_istore (pc := 545) ok dL_law_545 rfl (by rw [hN]; decide) ?_
  refine a_aload_n (pc := 547) ok dL_law_547 rfl ?_
  refine x_callVp (pc := 548) ok [103, 104, 105, 106, 107, 108, 109, 110, 111, 112, 113, 114, 115, 116, 117, 118] 1 dL_law_548 mvL_121 miX7_thrown (c_thrown) ⟨by decide, by decide, rfl, rfl, (by show _ ≤ 601024; omega), (by show _ ≤ 7293034; omega)⟩ rfl rfl (Nat.le_of_ble_eq_true rfl) rfl rfl (by decide) rfl rfl ?_
  refine a_iload (pc := 551) ok dL_law_551 rfl ?_
  refine a_icmp_eq (pc := 553) (tgt := 558) ok dL_law_553 (by decide) (by first | exact hKr | (rw [eK]; exact hKr)) (by first | exact hKr | (rw [eK]; exact hKr)) (fun c553 => ?_) (fun c553 => ?_)
  · refine a_iload (pc := 558) ok dL_law_558 rfl ?_
    refine a_if_ne (pc := 560) (tgt := 575) ok dL_law_560 (by decide) (by exact hKr) (fun c560 => ?_) (fun c560 => ?_)
    · refine a_goto (pc := 575) (tgt := 2245) ok dL_law_575 (by decide) ?_
      exact AW.forget (k _ hInv) (by repeat' (first | exact trivial | refine ⟨rfl, ?_⟩))
    · have h0 : kIsle S (xv xs (i + 1)) (xv xs (i + 2)) 8 = 0 := by first | exact c560 | omega
      have e1 := hfo h0
      have e2 : w32 (if kIsle S3 (xv xs (i + 1)) (xv xs (i + 2)) 8 = 0 then aIsland S3 (xv xs (i + 1)) (xv xs (i + 2)) else 0) = w32 (aIsland S (xv xs (i + 1)) (xv xs (i + 2))) := by have q := eK.trans h0; have q2 := eA h0; rw [if_pos q, q2]
      refine a_aload_n (pc := 563) ok dL_law_563 rfl ?_
      refine a_iconst (pc := 564) ok dL_law_564 ?_
      refine a_lald (pc := 565) ok dL_law_565 (rfl) (by decide) (by omega) ?_
      refine a_iload (pc := 566) ok dL_law_566 rfl ?_
      refine a_i2l (pc := 568) ok dL_law_568 (by exact rg_w _) ?_
      refine a_lcmp (pc := 569) ok dL_law_569 (by first | (rw [e1]; exact rgL_w9 _) | exact rgL_w9 _) (by first | (rw [e1]; exact rgL_w9 _) | exact rgL_w9 _) (fun c569 => ?_) (fun c569 => ?_) (fun c569 => ?_)
      · exfalso; rw [e1, e2] at c569; exact absurd c569 (Int.lt_irrefl _)
      · refine a_if_eq (pc := 570) (tgt := 575) ok dL_law_570 (by decide) (by first | omega | (unfold rg; omega) | (simp only [rg] at *; omega) | exact bz_rg _ | grind [rg]) (fun c570 => ?_) (fun c570 => ?_)
        · refine a_goto (pc := 575) (tgt := 2245) ok dL_law_575 (by decide) ?_
          exact AW.forget (k _ hInv) (by repeat' (first | exact trivial | refine ⟨rfl, ?_⟩))
        · exact absurd rfl c570
      · exfalso; rw [e1, e2] at c569; exact absurd c569 (Int.lt_irrefl _)
  · exact absurd eK c553
end LC103
