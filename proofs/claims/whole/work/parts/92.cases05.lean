/-! THE LAW: its cases. Printed by wip/whole/gen/mk91.py. -/
section LC104
variable {kn : Int} {nk : Int} {sz : Int} {tx : Int → Int} {S : St} {cnt : Int} {nx : Int} {σ : Nat → St} {sv : Int → Int} {c0 : Int} {r0 : Int} {m0 : Int} {ct : Int} {B : Int → Int} {F : Int → Int} {Z : Int → Int} {Br : Int → Int} {Q : Int → Int} {Fo : Int → Int} {No : Int → Int} {Ho : Int → Int} {Mo : Int → Int} {In : Int → Int} {Sn : Int → Int} {Qn : Int → Int} {S2 : St} {c1 : Int} {r1 : Int} {m1 : Int} {ct1 : Int} {B1 : Int → Int} {F1 : Int → Int} {Z1 : Int → Int} {Br1 : Int → Int} {Q1 : Int → Int} {Fo1 : Int → Int} {No1 : Int → Int} {sd : Int} {rt : Int} {lf : Int} {wy : Int} {gb : Int → Int} {P0 : St} {P1 : St} {rf : Int} {S3 : St} {S4 : St} {ac : Int} {Bm : Int → Int} {Im : Int → Int} {mm : Int} {Fi : Int → Int} {Co : Int → Int} {Bq : Int → Int} {Wt : Int → Int} {mk : Int → Int} {gy : Int → Int} {di : Int → Int} {ke : Int → Int} {ik : Int → Int} {ea : Int → Int} {sd2 : Int} {rt2 : Int} {lf2 : Int} {wy2 : Int} {sp : Int} {ou : Int} {fo : Int → Int}
theorem cs_border {X : Cx} {b L : Nat} {xs : Nat → Int32} {i : Int} {kc ks : Nat} (ok : OKL X) (pre : PRE X b L xs i kc ks) (hcn : CN S kn nk c0 r0 m0 ct B F Z Fo No Ho Mo In) (hr : rwI B1 F1 Z1) (hB : ∀ i, 0 ≤ Bm i ∧ Bm i ≤ 5) (hI : ∀ i, rg (Im i)) (t : TW S S3) (hm : RM cnt nx σ ac di) (hk9 : RK P0 P1 sv ik ke) (ht9 : REt sz tx) (k : ∀ M, INV M → AW X (kc + 1) (ks + 6) 2245 [some (.ref 4095), some (.ref 0), some (.ref 103), some (.ref 119), some (iv i), none, none] [] M) :
    AW X kc ks 578 [some (.ref 4095), some (.ref 0), some (.ref 103), some (.ref 119), some (iv i), none, none] [] (lwW kn nk sz tx S (ringP 7) cnt nx σ (slotP 95) sv c0 r0 m0 ct B F Z Br Q Fo No Ho Mo In Sn Qn S2 c1 r1 m1 ct1 B1 F1 Z1 Br1 Q1 Fo1 No1 sd rt lf wy gb P0 P1 rf S3 S4 ac Bm Im mm Fi Co Bq Wt mk gy di ke ik ea sd2 rt2 lf2 wy2 sp ou fo) := by
  obtain ⟨ex, hN, sc, hi, hL, hl, hkc, hks⟩ := pre
  have hc9 : 0 ≤ ac ∧ ac ≤ 14 := by rw [hm.2.2.1]; exact hm.1
  have eK : kBor S3 (xv xs (i + 1)) (xv xs (i + 2)) = kBor S (xv xs (i + 1)) (xv xs (i + 2)) := kBor_E t.2.2 _ _
  have eA : kBor S (xv xs (i + 1)) (xv xs (i + 2)) = 0 → brd (sC S3) (sR S3) (bS S3) (fS S3 (xv xs (i + 1))) (fS S3 (xv xs (i + 2))) = brd (sC S) (sR S) (bS S) (fS S (xv xs (i + 1))) (fS S (xv xs (i + 2))) := fun _ => aBor_E t.2.2 _ _
  have hKr : rg (kBor S (xv xs (i + 1)) (xv xs (i + 2))) := by
    unfold kBor rg
    repeat' split
    all_goals omega
  refine a_aload_n (pc := 578) ok dL_law_578 rfl ?_
  refine a_aload_n (pc := 579) ok dL_law_579 rfl ?_
  refine a_iload (pc := 580) ok dL_law_580 rfl ?_
  refine a_iconst (pc := 582) ok dL_law_582 ?_
  refine a_iadd (pc := 583) ok dL_law_583 ?_
  refine a_sld (pc := 584) ok sc dL_law_584 (by omega) hL ?_
  refine a_aload_n (pc := 585) ok dL_law_585 rfl ?_
  refine a_iload (pc := 586) ok dL_law_586 rfl ?_
  refine a_iconst (pc := 588) ok dL_law_588 ?_
  refine a_iadd (pc := 589) ok dL_law_589 ?_
  refine a_sld (pc := 590) ok sc dL_law_590 (by omega) hL ?_
  refine a_aload_n (pc := 591) ok dL_law_591 rfl ?_
  refine l_callS (pc := 592) ok ex πL_B 20 dL_law_592 (ug4 38 (by decide +kernel) rfl) (ug4 39 (by decide +kernel) rfl) miL_border (W_border (i := (xv xs (i + 1))) (j := (xv xs (i + 2))) hl t.1 hcn (xv_rg _ _) (xv_rg _ _)) ⟨by decide, by decide, rfl, rfl⟩ ⟨hkc, hks⟩ rfl rfl (Nat.le_of_ble_eq_true rfl) rfl rfl nd_B (fun _ _ h => by obtain ⟨_, _, _, M9, hp, rfl⟩ := h; rw [wr_len (RB_len hp)]; rfl) ?_
  rintro _ M8 ⟨rfl, fo', hfo, M9, hp, rfl⟩
  obtain ⟨kn', nk', c0', r0', m0', ct', B', F', Z', Br', Q', Fo', No', Ho', Mo', In', Sn', Qn', rfl, hcn'⟩ := hp
  refine AW.cast (st2 := [iv (kBor S (xv xs (i + 1)) (xv xs (i + 2)))]) (M2 := (lwW (kn') (nk') sz tx S (ringP 7) cnt nx σ (slotP 95) sv (c0') (r0') (m0') (ct') (B') (F') (Z') (Br') (Q') (Fo') (No') (Ho') (Mo') (In') (Sn') (Qn') S2 c1 r1 m1 ct1 B1 F1 Z1 Br1 Q1 Fo1 No1 sd rt lf wy gb P0 P1 rf S3 S4 ac Bm Im mm Fi Co Bq Wt mk gy di ke ik ea sd2 rt2 lf2 wy2 sp ou (fo'))) ?_ rfl rfl rfl
  refine a_istore (pc := 595) ok dL_law_595 rfl (by rw [hN]; decide) ?_
  refine a_aload_n (pc := 597) ok dL_law_597 rfl ?_
  refine a_aload_n (pc := 598) ok dL_law_598 rfl ?_
  refine a_iload (pc := 599) ok dL_law_599 rfl ?_
  refine a_iconst (pc := 601) ok dL_law_601 ?_
  refine a_iadd (pc := 602) ok dL_law_602 ?_
  refine a_sld (pc := 603) ok sc dL_law_603 (by omega) hL ?_
  refine a_aload_n (pc := 604) ok dL_law_604 rfl ?_
  refine a_iload (pc := 605) ok dL_law_605 rfl ?_
  refine a_iconst (pc := 607) ok dL_law_607 ?_
  refine a_iadd (pc := 608) ok dL_law_608 ?_
  refine a_sld (pc := 609) ok sc dL_law_609 (by omega) hL ?_
  refine a_callV (pc := 610) ok [103, 105, 110, 111, 112, 113, 114, 115, 116, 117, 106, 104, 107, 108, 109, 118] dL_law_610 mvL_152 miX7_border (c_mborder t.2.1 hB hI (xv_rg _ _) (xv_rg _ _)) ⟨by decide, by decide, rfl, rfl, (by show _ ≤ 601024; omega), (by show _ ≤ 7293034; omega)⟩ rfl rfl (Nat.le_of_ble_eq_true rfl) rfl (by decide) rfl rfl (fun _ _ h => WM_len h.2) ?_
  rintro _ M' ⟨rfl, hwm⟩
  obtain ⟨Bm', Im', mm', Fi', Co', Bq', Wt', mk', gy', S4', ea', sd2', rt2', lf2', wy2', sp', ou', rfl, hB', hI'⟩ := hwm
  refine AW.cast (st2 := [iv (w32 (if kBor S3 (xv xs (i + 1)) (xv xs (i + 2)) = 0 then brd (sC S3) (sR S3) (bS S3) (fS S3 (xv xs (i + 1))) (fS S3 (xv xs (i + 2))) else 0))]) (M2 := (lwW (kn') (nk') sz tx S (ringP 7) cnt nx σ (slotP 95) sv (c0') (r0') (m0') (ct') (B') (F') (Z') (Br') (Q') (Fo') (No') (Ho') (Mo') (In') (Sn') (Qn') S2 c1 r1 m1 ct1 B1 F1 Z1 Br1 Q1 Fo1 No1 sd rt lf wy gb P0 P1 (kBor S3 (xv xs (i + 1)) (xv xs (i + 2))) S3 (S4') ac (Bm') (Im') (mm') (Fi') (Co') (Bq') (Wt') (mk') (gy') di ke ik (ea') (sd2') (rt2') (lf2') (wy2') (sp') (ou') (fo'))) ?_ rfl (congrArg (fun v : Value => [v]) (iv_w _)) rfl
  have hInv : INV (lwW (kn') (nk') sz tx S (ringP 7) cnt nx σ (slotP 95) sv (c0') (r0') (m0') (ct') (B') (F') (Z') (Br') (Q') (Fo') (No') (Ho') (Mo') (In') (Sn') (Qn') S2 c1 r1 m1 ct1 B1 F1 Z1 Br1 Q1 Fo1 No1 sd rt lf wy gb P0 P1 (kBor S3 (xv xs (i + 1)) (xv xs (i + 2))) S3 (S4') ac (Bm') (Im') (mm') (Fi') (Co') (Bq') (Wt') (mk') (gy') di ke ik (ea') (sd2') (rt2') (lf2') (wy2') (sp') (ou') (fo')) := ⟨_, _, _, _, _, _, _, _, _, _, _, _, _, _, _, _, _, _, _, _, _, _, _, _, _, _, _, _, _, _, _, _, _, _, _, _, _, _, _, _, _, _, _, _, _, _, _, _, _, _, _, _, _, _, _, _, _, _, _, _, _, _, _, _, _, _, _, _, rfl, hcn', hr, hB', hI', t, hm, hk9, ht9⟩
  refine a_istore (pc := 613) ok dL_law_613 rfl (by rw [hN]; decide) ?_
  refine a_aload_n (pc := 615) ok dL_law_615 rfl ?_
  refine x_callVp (pc := 616) ok [103, 104, 105, 106, 107, 108, 109, 110, 111, 112, 113, 114, 115, 116, 117, 118] 1 dL_law_616 mvL_121 miX7_thrown (c_thrown) ⟨by decide, by decide, rfl, rfl, (by show _ ≤ 601024; omega), (by show _ ≤ 7293034; omega)⟩ rfl rfl (Nat.le_of_ble_eq_true rfl) rfl rfl (by decide) rfl rfl ?_
  refine a_iload (pc := 619) ok dL_law_619 rfl ?_
  refine a_icmp_eq (pc := 621) (tgt := 626) ok dL_law_621 (by decide) (by first | exact hKr | (rw [eK]; exact hKr)) (by first | exact hKr | (rw [eK]; exact hKr)) (fun c621 => ?_) (fun c621 => ?_)
  · refine a_iload (pc := 626) ok dL_law_626 rfl ?_
    refine a_if_ne (pc := 628) (tgt := 643) ok dL_law_628 (by decide) (by exact hKr) (fun c628 => ?_) (fun c628 => ?_)
    · refine a_goto (pc := 643) (tgt := 2245) ok dL_law_643 (by decide) ?_
      exact AW.forget (k _ hInv) (by repeat' (first | exact trivial | refine ⟨rfl, ?_⟩))
    · have h0 : kBor S (xv xs (i + 1)) (xv xs (i + 2)) = 0 := by first | exact c628 | omega
      have e1 := hfo h0
      have e2 : w32 (if kBor S3 (xv xs (i + 1)) (xv xs (i + 2)) = 0 then brd (sC S3) (sR S3) (bS S3) (fS S3 (xv xs (i + 1))) (fS S3 (xv xs (i + 2))) else 0) = w32 (brd (sC S) (sR S) (bS S) (fS S (xv xs (i + 1))) (fS S (xv xs (i + 2)))) := by have q := eK.trans h0; have q2 := eA h0; rw [if_pos q, q2]
      refine a_aload_n (pc := 631) ok dL_law_631 rfl ?_
      refine a_iconst (pc := 632) ok dL_law_632 ?_
      refine a_lald (pc := 633) ok dL_law_633 (rfl) (by decide) (by omega) ?_
      refine a_iload (pc := 634) ok dL_law_634 rfl ?_
      refine a_i2l (pc := 636) ok dL_law_636 (by exact rg_w _) ?_
      refine a_lcmp (pc := 637) ok dL_law_637 (by first | (rw [e1]; exact rgL_w9 _) | exact rgL_w9 _) (by first | (rw [e1]; exact rgL_w9 _) | exact rgL_w9 _) (fun c637 => ?_) (fun c637 => ?_) (fun c637 => ?_)
      · exfalso; rw [e1, e2] at c637; exact absurd c637 (Int.lt_irrefl _)
      · refine a_if_eq (pc := 638) (tgt := 643) ok dL_law_638 (by decide) (by first | omega | (unfold rg; omega) | (simp only [rg] at *; omega) | exact bz_rg _ | grind [rg]) (fun c638 => ?_) (fun c638 => ?_)
        · refine a_goto (pc := 643) (tgt := 2245) ok dL_law_643 (by decide) ?_
          exact AW.forget (k _ hInv) (by repeat' (first | exact trivial | refine ⟨rfl, ?_⟩))
        · exact absurd rfl c638
      · exfalso; rw [e1, e2] at c637; exact absurd c637 (Int.lt_irrefl _)
  · exact absurd eK c621
theorem cs_outline {X : Cx} {b L : Nat} {xs : Nat → Int32} {i : Int} {kc ks : Nat} (ok : OKL X) (pre : PRE X b L xs i kc ks) (hcn : CN S kn nk c0 r0 m0 ct B F Z Fo No Ho Mo In) (hr : rwI B1 F1 Z1) (hB : ∀ i, 0 ≤ Bm i ∧ Bm i ≤ 5) (hI : ∀ i, rg (Im i)) (t : TW S S3) (hm : RM cnt nx σ ac di) (hk9 : RK P0 P1 sv ik ke) (ht9 : REt sz tx) (k : ∀ M, INV M → AW X (kc + 1) (ks + 6) 2245 [some (.ref 4095), some (.ref 0), some (.ref 103), some (.ref 119), some (iv i), none, none] [] M) :
    AW X kc ks 646 [some (.ref 4095), some (.ref 0), some (.ref 103), some (.ref 119), some (iv i), none, none] [] (lwW kn nk sz tx S (ringP 7) cnt nx σ (slotP 95) sv c0 r0 m0 ct B F Z Br Q Fo No Ho Mo In Sn Qn S2 c1 r1 m1 ct1 B1 F1 Z1 Br1 Q1 Fo1 No1 sd rt lf wy gb P0 P1 rf S3 S4 ac Bm Im mm Fi Co Bq Wt mk gy di ke ik ea sd2 rt2 lf2 wy2 sp ou fo) := by
  obtain ⟨ex, hN, sc, hi, hL, hl, hkc, hks⟩ := pre
  have hc9 : 0 ≤ ac ∧ ac ≤ 14 := by rw [hm.2.2.1]; exact hm.1
  have eK : kIsle S3 (xv xs (i + 1)) (xv xs (i + 2)) 2 = kIsle S (xv xs (i + 1)) (xv xs (i + 2)) 2 := kIsle_E t.2.2 _ _ _
  have eA : kIsle S (xv xs (i + 1)) (xv xs (i + 2)) 2 = 0 → aOutline S3 (xv xs (i + 1)) (xv xs (i + 2)) = aOutline S (xv xs (i + 1)) (xv xs (i + 2)) := fun _ => aOutline_E t.2.2 _ _
  have hKr : rg (kIsle S (xv xs (i + 1)) (xv xs (i + 2)) 2) := by
    unfold kIsle rg
    repeat' split
    all_goals omega
  refine a_aload_n (pc := 646) ok dL_law_646 rfl ?_
  refine a_aload_n (pc := 647) ok dL_law_647 rfl ?_
  refine a_iload (pc := 648) ok dL_law_648 rfl ?_
  refine a_iconst (pc := 650) ok dL_law_650 ?_
  refine a_iadd (pc := 651) ok dL_law_651 ?_
  refine a_sld (pc := 652) ok sc dL_law_652 (by omega) hL ?_
  refine a_aload_n (pc := 653) ok dL_law_653 rfl ?_
  refine a_iload (pc := 654) ok dL_law_654 rfl ?_
  refine a_iconst (pc := 656) ok dL_law_656 ?_
  refine a_iadd (pc := 657) ok dL_law_657 ?_
  refine a_sld (pc := 658) ok sc dL_law_658 (by omega) hL ?_
  refine a_aload_n (pc := 659) ok dL_law_659 rfl ?_
  refine l_callS (pc := 660) ok ex πL_C 21 dL_law_660 (ug4 49 (by decide +kernel) rfl) (ug4 50 (by decide +kernel) rfl) miL_outline (W_outline (i := (xv xs (i + 1))) (w := (xv xs (i + 2))) hl t.1 hcn (xv_rg _ _) (xv_rg _ _)) ⟨by decide, by decide, rfl, rfl⟩ ⟨hkc, hks⟩ rfl rfl (Nat.le_of_ble_eq_true rfl) rfl rfl nd_C (fun _ _ h => by obtain ⟨_, _, _, M9, hp, rfl⟩ := h; rw [wr_len (RC_len hp)]; rfl) ?_
  rintro _ M8 ⟨rfl, fo', hfo, M9, hp, rfl⟩
  obtain ⟨kn', nk', c0', r0', m0', ct', B', F', Z', Br', Q', Fo', No', Ho', Mo', In', Sn', Qn', sd', rt', lf', wy', rfl, hcn'⟩ := hp
  refine AW.cast (st2 := [iv (kIsle S (xv xs (i + 1)) (xv xs (i + 2)) 2)]) (M2 := (lwW (kn') (nk') sz tx S (ringP 7) cnt nx σ (slotP 95) sv (c0') (r0') (m0') (ct') (B') (F') (Z') (Br') (Q') (Fo') (No') (Ho') (Mo') (In') (Sn') (Qn') S2 c1 r1 m1 ct1 B1 F1 Z1 Br1 Q1 Fo1 No1 (sd') (rt') (lf') (wy') gb P0 P1 rf S3 S4 ac Bm Im mm Fi Co Bq Wt mk gy di ke ik ea sd2 rt2 lf2 wy2 sp ou (fo'))) ?_ rfl rfl rfl
  refine a_istore (pc := 663) ok dL_law_663 rfl (by rw [hN]; decide) ?_
  refine a_aload_n (pc := 665) ok dL_law_665 rfl ?_
  refine a_aload_n (pc := 666) ok dL_law_666 rfl ?_
  refine a_iload (pc := 667) ok dL_law_667 rfl ?_
  refine a_iconst (pc := 669) ok dL_law_669 ?_
  refine a_iadd (pc := 670) ok dL_law_670 ?_
  refine a_sld (pc := 671) ok sc dL_law_671 (by omega) hL ?_
  refine a_aload_n (pc := 672) ok dL_law_672 rfl ?_
  refine a_iload (pc := 673) ok dL_law_673 rfl ?_
  refine a_iconst (pc := 675) ok dL_law_675 ?_
  refine a_iadd (pc := 676) ok dL_law_676 ?_
  refine a_sld (pc := 677) ok sc dL_law_677 (by omega) hL ?_
  refine a_callV (pc := 678) ok [103, 105, 110, 111, 112, 113, 114, 115, 116, 117, 106, 104, 107, 108, 109, 118] dL_law_678 mvL_155 miX7_outline (c_moutline t.2.1 hB hI (xv_rg _ _) (xv_rg _ _)) ⟨by decide, by decide, rfl, rfl, (by show _ ≤ 601024; omega), (by show _ ≤ 7293034; omega)⟩ rfl rfl (Nat.le_of_ble_eq_true rfl) rfl (by decide) rfl rfl (fun _ _ h => WM_len h.2) ?_
  rintro _ M' ⟨rfl, hwm⟩
  obtain ⟨Bm', Im', mm', Fi', Co', Bq', Wt', mk', gy', S4', ea', sd2', rt2', lf2', wy2', sp', ou', rfl, hB', hI'⟩ := hwm
  refine AW.cast (st2 := [iv (w32 (if kIsle S3 (xv xs (i + 1)) (xv xs (i + 2)) 2 = 0 then aOutline S3 (xv xs (i + 1)) (xv xs (i + 2)) else 0))]) (M2 := (lwW (kn') (nk') sz tx S (ringP 7) cnt nx σ (slotP 95) sv (c0') (r0') (m0') (ct') (B') (F') (Z') (Br') (Q') (Fo') (No') (Ho') (Mo') (In') (Sn') (Qn') S2 c1 r1 m1 ct1 B1 F1 Z1 Br1 Q1 Fo1 No1 (sd') (rt') (lf') (wy') gb P0 P1 (kIsle S3 (xv xs (i + 1)) (xv xs (i + 2)) 2) S3 (S4') ac (Bm') (Im') (mm') (Fi') (Co') (Bq') (Wt') (mk') (gy') di ke ik (ea') (sd2') (rt2') (lf2') (wy2') (sp') (ou') (fo'))) ?_ rfl (congrArg (fun v : Value => [v]) (iv_w _)) rfl
  have hInv : INV (lwW (kn') (nk') sz tx S (ringP 7) cnt nx σ (slotP 95) sv (c0') (r0') (m0') (ct') (B') (F') (Z') (Br') (Q') (Fo') (No') (Ho') (Mo') (In') (Sn') (Qn') S2 c1 r1 m1 ct1 B1 F1 Z1 Br1 Q1 Fo1 No1 (sd') (rt') (lf') (wy') gb P0 P1 (kIsle S3 (xv xs (i + 1)) (xv xs (i + 2)) 2) S3 (S4') ac (Bm') (Im') (mm') (Fi') (Co') (Bq') (Wt') (mk') (gy') di ke ik (ea') (sd2') (rt2') (lf2') (wy2') (sp') (ou') (fo')) := ⟨_, _, _, _, _, _, _, _, _, _, _, _, _, _, _, _, _, _, _, _, _, _, _, _, _, _, _, _, _, _, _, _, _, _, _, _, _, _, _, _, _, _, _, _, _, _, _, _, _, _, _, _, _, _, _, _, _, _, _, _, _, _, _, _, _, _, _, _, rfl, hcn', hr, hB', hI', t, hm, hk9, ht9⟩
  refine a_istore (pc := 681) ok dL_law_681 rfl (by rw [hN]; decide) ?_
  refine a_aload_n (pc := 683) ok dL_law_683 rfl ?_
  refine x_callVp (pc := 684) ok [103, 104, 105, 106, 107, 108, 109, 110, 111, 112, 113, 114, 115, 116, 117, 118] 1 dL_law_684 mvL_121 miX7_thrown (c_thrown) ⟨by decide, by decide, rfl, rfl, (by show _ ≤ 601024; omega), (by show _ ≤ 7293034; omega)⟩ rfl rfl (Nat.le_of_ble_eq_true rfl) rfl rfl (by decide) rfl rfl ?_
  refine a_iload (pc := 687) ok dL_law_687 rfl ?_
  refine a_icmp_eq (pc := 689) (tgt := 694) ok dL_law_689 (by decide) (by first | exact hKr | (rw [eK]; exact hKr)) (by first | exact hKr | (rw [eK]; exact hKr)) (fun c689 => ?_) (fun c689 => ?_)
  · refine a_iload (pc := 694) ok dL_law_694 rfl ?_
    refine a_if_ne (pc := 696) (tgt := 711) ok dL_law_696 (by decide) (by exact hKr) (fun c696 => ?_) (fun c696 => ?_)
    · refine a_goto (pc := 711) (tgt := 2245) ok dL_law_711 (by decide) ?_
      exact AW.forget (k _ hInv) (by repeat' (first | exact trivial | refine ⟨rfl, ?_⟩))
    · have h0 : kIsle S (xv xs (i + 1)) (xv xs (i + 2)) 2 = 0 := by first | exact c696 | omega
      have e1 := hfo h0
      have e2 : w32 (if kIsle S3 (xv xs (i + 1)) (xv xs (i + 2)) 2 = 0 then aOutline S3 (xv xs (i + 1)) (xv xs (i + 2)) else 0) = w32 (aOutline S (xv xs (i + 1)) (xv xs (i + 2))) := by have q := eK.trans h0; have q2 := eA h0; rw [if_pos q, q2]
      refine a_aload_n (pc := 699) ok dL_law_699 rfl ?_
      refine a_iconst (pc := 700) ok dL_law_700 ?_
      refine a_lald (pc := 701) ok dL_law_701 (rfl) (by decide) (by omega) ?_
      refine a_iload (pc := 702) ok dL_law_702 rfl ?_
      refine a_i2l (pc := 704) ok dL_law_704 (by exact rg_w _) ?_
      refine a_lcmp (pc := 705) ok dL_law_705 (by first | (rw [e1]; exact rgL_w9 _) | exact rgL_w9 _) (by first | (rw [e1]; exact rgL_w9 _) | exact rgL_w9 _) (fun c705 => ?_) (fun c705 => ?_) (fun c705 => ?_)
      · exfalso; rw [e1, e2] at c705; exact absurd c705 (Int.lt_irrefl _)
      · refine a_if_eq (pc := 706) (tgt := 711) ok dL_law_706 (by decide) (by first | omega | (unfold rg; omega) | (simp only [rg] at *; omega) | exact bz_rg _ | grind [rg]) (fun c706 => ?_) (fun c706 => ?_)
        · refine a_goto (pc := 711) (tgt := 2245) ok dL_law_711 (by decide) ?_
          exact AW.forget (k _ hInv) (by repeat' (first | exact trivial | refine ⟨rfl, ?_⟩))
        · exact absurd rfl c706
      · exfalso; rw [e1, e2] at c705; exact absurd c705 (Int.lt_irrefl _)
  · exact absurd eK c689
end LC104
