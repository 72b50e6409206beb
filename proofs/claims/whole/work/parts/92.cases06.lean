/-! THE LAW: its cases. Printed by wip/whole/gen/mk91.py. -/
section LC105
variable {kn : Int} {nk : Int} {sz : Int} {tx : Int → Int} {S : St} {cnt : Int} {nx : Int} {σ : Nat → St} {sv : Int → Int} {c0 : Int} {r0 : Int} {m0 : Int} {ct : Int} {B : Int → Int} {F : Int → Int} {Z : Int → Int} {Br : Int → Int} {Q : Int → Int} {Fo : Int → Int} {No : Int → Int} {Ho : Int → Int} {Mo : Int → Int} {In : Int → Int} {Sn : Int → Int} {Qn : Int → Int} {S2 : St} {c1 : Int} {r1 : Int} {m1 : Int} {ct1 : Int} {B1 : Int → Int} {F1 : Int → Int} {Z1 : Int → Int} {Br1 : Int → Int} {Q1 : Int → Int} {Fo1 : Int → Int} {No1 : Int → Int} {sd : Int} {rt : Int} {lf : Int} {wy : Int} {gb : Int → Int} {P0 : St} {P1 : St} {rf : Int} {S3 : St} {S4 : St} {ac : Int} {Bm : Int → Int} {Im : Int → Int} {mm : Int} {Fi : Int → Int} {Co : Int → Int} {Bq : Int → Int} {Wt : Int → Int} {mk : Int → Int} {gy : Int → Int} {di : Int → Int} {ke : Int → Int} {ik : Int → Int} {ea : Int → Int} {sd2 : Int} {rt2 : Int} {lf2 : Int} {wy2 : Int} {sp : Int} {ou : Int} {fo : Int → Int}
theorem cs_outlineWay {X : Cx} {b L : Nat} {xs : Nat → Int32} {i : Int} {kc ks : Nat} (ok : OKL X) (pre : PRE X b L xs i kc ks) (hcn : CN S kn nk c0 r0 m0 ct B F Z Fo No Ho Mo In) (hr : rwI B1 F1 Z1) (hB : ∀ i, 0 ≤ Bm i ∧ Bm i ≤ 5) (hI : ∀ i, rg (Im i)) (t : TW S S3) (hm : RM cnt nx σ ac di) (hk9 : RK P0 P1 sv ik ke) (ht9 : REt sz tx) (k : ∀ M, INV M → AW X (kc + 1) (ks + 6) 2245 [some (.ref 4095), some (.ref 0), some (.ref 103), some (.ref 119), some (iv i), none, none] [] M) :
    AW X kc ks 714 [some (.ref 4095), some (.ref 0), some (.ref 103), some (.ref 119), some (iv i), none, none] [] (lwW kn nk sz tx S (ringP 7) cnt nx σ (slotP 95) sv c0 r0 m0 ct B F Z Br Q Fo No Ho Mo In Sn Qn S2 c1 r1 m1 ct1 B1 F1 Z1 Br1 Q1 Fo1 No1 sd rt lf wy gb P0 P1 rf S3 S4 ac Bm Im mm Fi Co Bq Wt mk gy di ke ik ea sd2 rt2 lf2 wy2 sp ou fo) := by
  obtain ⟨ex, hN, sc, hi, hL, hl, hkc, hks⟩ := pre
  have hc9 : 0 ≤ ac ∧ ac ≤ 14 := by rw [hm.2.2.1]; exact hm.1
  have eK : kWay S3 (xv xs (i + 1)) (xv xs (i + 2)) = kWay S (xv xs (i + 1)) (xv xs (i + 2)) := kWay_E t.2.2 _ _
  have eA : kWay S (xv xs (i + 1)) (xv xs (i + 2)) = 0 → wS1 S3 (xv xs (i + 1)) (xv xs (i + 2)) = wS1 S (xv xs (i + 1)) (xv xs (i + 2)) := fun _ => aWay_E t.2.2 _ _
  have hKr : rg (kWay S (xv xs (i + 1)) (xv xs (i + 2))) := by
    unfold kWay rg
    repeat' split
    all_goals omega
  refine a_aload_n (pc := 714) ok dL_law_714 rfl ?_
  refine a_aload_n (pc := 715) ok dL_law_715 rfl ?_
  refine a_iload (pc := 716) ok dL_law_716 rfl ?_
  refine a_iconst (pc := 718) ok dL_law_718 ?_
  refine a_iadd (pc := 719) ok dL_law_719 ?_
  refine a_sld (pc := 720) ok sc dL_law_720 (by omega) hL ?_
  refine a_aload_n (pc := 721) ok dL_law_721 rfl ?_
  refine a_iload (pc := 722) ok dL_law_722 rfl ?_
  refine a_iconst (pc := 724) ok dL_law_724 ?_
  refine a_iadd (pc := 725) ok dL_law_725 ?_
  refine a_sld (pc := 726) ok sc dL_law_726 (by omega) hL ?_
  refine a_aload_n (pc := 727) ok dL_law_727 rfl ?_
  refine l_callS (pc := 728) ok ex πL_C 21 dL_law_728 (ug4 76 (by decide +kernel) rfl) (ug4 77 (by decide +kernel) rfl) miL_outlineWay (W_outlineWay (i := (xv xs (i + 1))) (k := (xv xs (i + 2))) hl t.1 hcn (xv_rg _ _) (xv_rg _ _)) ⟨by decide, by decide, rfl, rfl⟩ ⟨hkc, hks⟩ rfl rfl (Nat.le_of_ble_eq_true rfl) rfl rfl nd_C (fun _ _ h => by obtain ⟨_, _, _, M9, hp, rfl⟩ := h; rw [wr_len (RC_len hp)]; rfl) ?_
  rintro _ M8 ⟨rfl, fo', hfo, M9, hp, rfl⟩
  obtain ⟨kn', nk', c0', r0', m0', ct', B', F', Z', Br', Q', Fo', No', Ho', Mo', In', Sn', Qn', sd', rt', lf', wy', rfl, hcn'⟩ := hp
  refine AW.cast (st2 := [iv (kWay S (xv xs (i + 1)) (xv xs (i + 2)))]) (M2 := (lwW (kn') (nk') sz tx S (ringP 7) cnt nx σ (slotP 95) sv (c0') (r0') (m0') (ct') (B') (F') (Z') (Br') (Q') (Fo') (No') (Ho') (Mo') (In') (Sn') (Qn') S2 c1 r1 m1 ct1 B1 F1 Z1 Br1 Q1 Fo1 No1 (sd') (rt') (lf') (wy') gb P0 P1 rf S3 S4 ac Bm Im mm Fi Co Bq Wt mk gy di ke ik ea sd2 rt2 lf2 wy2 sp ou (fo'))) ?_ rfl rfl rfl
  refine a_istore (pc := 731) ok dL_law_731 rfl (by rw [hN]; decide) ?_
  refine a_aload_n (pc := 733) ok dL_law_733 rfl ?_
  refine a_aload_n (pc := 734) ok dL_law_734 rfl ?_
  refine a_iload (pc := 735) ok dL_law_735 rfl ?_
  refine a_iconst (pc := 737) ok dL_law_737 ?_
  refine a_iadd (pc := 738) ok dL_law_738 ?_
  refine a_sld (pc := 739) ok sc dL_law_739 (by omega) hL ?_
  refine a_aload_n (pc := 740) ok dL_law_740 rfl ?_
  refine a_iload (pc := 741) ok dL_law_741 rfl ?_
  refine a_iconst (pc := 743) ok dL_law_743 ?_
  refine a_iadd (pc := 744) ok dL_law_744 ?_
  refine a_sld (pc := 745) ok sc dL_law_745 (by omega) hL ?_
  refine a_callV (pc := 746) ok [103, 105, 110, 111, 112, 113, 114, 115, 116, 117, 106, 104, 107, 108, 109, 118] dL_law_746 mvL_158 miX7_outlineWay (c_moutlineWay t.2.1 hB hI (xv_rg _ _) (xv_rg _ _)) ⟨by decide, by decide, rfl, rfl, (by show _ ≤ 601024; omega), (by show _ ≤ 7293034; omega)⟩ rfl rfl (Nat.le_of_ble_eq_true rfl) rfl (by decide) rfl rfl (fun _ _ h => WM_len h.2) ?_
  rintro _ M' ⟨rfl, hwm⟩
  obtain ⟨Bm', Im', mm', Fi', Co', Bq', Wt', mk', gy', S4', ea', sd2', rt2', lf2', wy2', sp', ou', rfl, hB', hI'⟩ := hwm
  refine AW.cast (st2 := [iv (w32 (if kWay S3 (xv xs (i + 1)) (xv xs (i + 2)) = 0 then wS1 S3 (xv xs (i + 1)) (xv xs (i + 2)) else 0))]) (M2 := (lwW (kn') (nk') sz tx S (ringP 7) cnt nx σ (slotP 95) sv (c0') (r0') (m0') (ct') (B') (F') (Z') (Br') (Q') (Fo') (No') (Ho') (Mo') (In') (Sn') (Qn') S2 c1 r1 m1 ct1 B1 F1 Z1 Br1 Q1 Fo1 No1 (sd') (rt') (lf') (wy') gb P0 P1 (kWay S3 (xv xs (i + 1)) (xv xs (i + 2))) S3 (S4') ac (Bm') (Im') (mm') (Fi') (Co') (Bq') (Wt') (mk') (gy') di ke ik (ea') (sd2') (rt2') (lf2') (wy2') (sp') (ou') (fo'))) ?_ rfl (congrArg (fun v : Value => [v]) (iv_w _)) rfl
  have hInv : INV (lwW (kn') (nk') sz tx S (ringP 7) cnt nx σ (slotP 95) sv (c0') (r0') (m0') (ct') (B') (F') (Z') (Br') (Q') (Fo') (No') (Ho') (Mo') (In') (Sn') (Qn') S2 c1 r1 m1 ct1 B1 F1 Z1 Br1 Q1 Fo1 No1 (sd') (rt') (lf') (wy') gb P0 P1 (kWay S3 (xv xs (i + 1)) (xv xs (i + 2))) S3 (S4') ac (Bm') (Im') (mm') (Fi') (Co') (Bq') (Wt') (mk') (gy') di ke ik (ea') (sd2') (rt2') (lf2') (wy2') (sp') (ou') (fo')) := ⟨_, _, _, _, _, _, _, _, _, _, _, _, _, _, _, _, _, _, _, _, _, _, _, _, _, _, _, _, _, _, _, _, _, _, _, _, _, _, _, _, _, _, _, _, _, _, _, _, _, _, _, _, _, _, _, _, _, _, _, _, _, _, _, _, _, _, _, _, rfl, hcn', hr, hB', hI', t, hm, hk9, ht9⟩
  refine a_istore (pc := 749) ok dL_law_749 rfl (by rw [hN]; decide) ?_
  refine a_aload_n (pc := 751) ok dL_law_751 rfl ?_
  refine x_callVp (pc := 752) ok [103, 104, 105, 106, 107, 108, 109, 110, 111, 112, 113, 114, 115, 116, 117, 118] 1 dL_law_752 mvL_121 miX7_thrown (c_thrown) ⟨by decide, by decide, rfl, rfl, (by show _ ≤ 601024; omega), (by show _ ≤ 7293034; omega)⟩ rfl rfl (Nat.le_of_ble_eq_true rfl) rfl rfl (by decide) rfl rfl ?_
  refine a_iload (pc := 755) ok dL_law_755 rfl ?_
  refine a_icmp_eq (pc := 757) (tgt := 762) ok dL_law_757 (by decide) (by first | exact hKr | (rw [eK]; exact hKr)) (by first | exact hKr | (rw [eK]; exact hKr)) (fun c757 => ?_) (fun c757 => ?_)
  · refine a_iload (pc := 762) ok dL_law_762 rfl ?_
    refine a_if_ne (pc := 764) (tgt := 779) ok dL_law_764 (by decide) (by exact hKr) (fun c764 => ?_) (fun c764 => ?_)
    · refine a_goto (pc := 779) (tgt := 2245) ok dL_law_779 (by decide) ?_
      exact AW.forget (k _ hInv) (by repeat' (first | exact trivial | refine ⟨rfl, ?_⟩))
    · have h0 : kWay S (xv xs (i + 1)) (xv xs (i + 2)) = 0 := by first | exact c764 | omega
      have e1 := hfo h0
      have e2 : w32 (if kWay S3 (xv xs (i + 1)) (xv xs (i + 2)) = 0 then wS1 S3 (xv xs (i + 1)) (xv xs (i + 2)) else 0) = w32 (wS1 S (xv xs (i + 1)) (xv xs (i + 2))) := by have q := eK.trans h0; have q2 := eA h0; rw [if_pos q, q2]
      refine a_aload_n (pc := 767) ok dL_law_767 rfl ?_
      refine a_iconst (pc := 768) ok dL_law_768 ?_
      refine a_lald (pc := 769) ok dL_law_769 (rfl) (by decide) (by omega) ?_
      refine a_iload (pc := 770) ok dL_law_770 rfl ?_
      refine a_i2l (pc := 772) ok dL_law_772 (by exact rg_w _) ?_
      refine a_lcmp (pc := 773) ok dL_law_773 (by first | (rw [e1]; exact rgL_w9 _) | exact rgL_w9 _) (by first | (rw [e1]; exact rgL_w9 _) | exact rgL_w9 _) (fun c773 => ?_) (fun c773 => ?_) (fun c773 => ?_)
      · exfalso; rw [e1, e2] at c773; exact absurd c773 (Int.lt_irrefl _)
      · refine a_if_eq (pc := 774) (tgt := 779) ok dL_law_774 (by decide) (by first | omega | (unfold rg; omega) | (simp only [rg] at *; omega) | exact bz_rg _ | grind [rg]) (fun c774 => ?_) (fun c774 => ?_)
        · refine a_goto (pc := 779) (tgt := 2245) ok dL_law_779 (by decide) ?_
          exact AW.forget (k _ hInv) (by repeat' (first | exact trivial | refine ⟨rfl, ?_⟩))
        · exact absurd rfl c774
      · exfalso; rw [e1, e2] at c773; exact absurd c773 (Int.lt_irrefl _)
  · exact absurd eK c757
theorem cs_band {X : Cx} {b L : Nat} {xs : Nat → Int32} {i : Int} {kc ks : Nat} (ok : OKL X) (pre : PRE X b L xs i kc ks) (hcn : CN S kn nk c0 r0 m0 ct B F Z Fo No Ho Mo In) (hr : rwI B1 F1 Z1) (hB : ∀ i, 0 ≤ Bm i ∧ Bm i ≤ 5) (hI : ∀ i, rg (Im i)) (t : TW S S3) (hm : RM cnt nx σ ac di) (hk9 : RK P0 P1 sv ik ke) (ht9 : REt sz tx) (k : ∀ M, INV M → AW X (kc + 1) (ks + 6) 2245 [some (.ref 4095), some (.ref 0), some (.ref 103), some (.ref 119), some (iv i), none, none] [] M) :
    AW X kc ks 782 [some (.ref 4095), some (.ref 0), some (.ref 103), some (.ref 119), some (iv i), none, none] [] (lwW kn nk sz tx S (ringP 7) cnt nx σ (slotP 95) sv c0 r0 m0 ct B F Z Br Q Fo No Ho Mo In Sn Qn S2 c1 r1 m1 ct1 B1 F1 Z1 Br1 Q1 Fo1 No1 sd rt lf wy gb P0 P1 rf S3 S4 ac Bm Im mm Fi Co Bq Wt mk gy di ke ik ea sd2 rt2 lf2 wy2 sp ou fo) := by
  obtain ⟨ex, hN, sc, hi, hL, hl, hkc, hks⟩ := pre
  have hc9 : 0 ≤ ac ∧ ac ≤ 14 := by rw [hm.2.2.1]; exact hm.1
  have eK : kBand S3 (xv xs (i + 1)) (xv xs (i + 2)) = kBand S (xv xs (i + 1)) (xv xs (i + 2)) := kBand_E t.2.2 _ _
  have eA : kBand S (xv xs (i + 1)) (xv xs (i + 2)) = 0 → aBand S3 (xv xs (i + 1)) (xv xs (i + 2)) = aBand S (xv xs (i + 1)) (xv xs (i + 2)) := fun _ => aBand_E t.2.2 _ _
  have hKr : rg (kBand S (xv xs (i + 1)) (xv xs (i + 2))) := by
    unfold kBand rg
    repeat' split
    all_goals omega
  refine a_aload_n (pc := 782) ok dL_law_782 rfl ?_
  refine a_aload_n (pc := 783) ok dL_law_783 rfl ?_
  refine a_iload (pc := 784) ok dL_law_784 rfl ?_
  refine a_iconst (pc := 786) ok dL_law_786 ?_
  refine a_iadd (pc := 787) ok dL_law_787 ?_
  refine a_sld (pc := 788) ok sc dL_law_788 (by omega) hL ?_
  refine a_aload_n (pc := 789) ok dL_law_789 rfl ?_
  refine a_iload (pc := 790) ok dL_law_790 rfl ?_
  refine a_iconst (pc := 792) ok dL_law_792 ?_
  refine a_iadd (pc := 793) ok dL_law_793 ?_
  refine a_sld (pc := 794) ok sc dL_law_794 (by omega) hL ?_
  refine a_aload_n (pc := 795) ok dL_law_795 rfl ?_
  refine l_callS (pc := 796) ok ex πL_B 20 dL_law_796 (ug4 83 (by decide +kernel) rfl) (ug4 84 (by decide +kernel) rfl) miL_band (W_band (x := (xv xs (i + 1))) (w := (xv xs (i + 2))) hl t.1 hcn (xv_rg _ _) (xv_rg _ _)) ⟨by decide, by decide, rfl, rfl⟩ ⟨hkc, hks⟩ rfl rfl (Nat.le_of_ble_eq_true rfl) rfl rfl nd_B (fun _ _ h => by obtain ⟨_, _, _, M9, hp, rfl⟩ := h; rw [wr_len (RB_len hp)]; rfl) ?_
  rintro _ M8 ⟨rfl, fo', hfo, M9, hp, rfl⟩
  obtain ⟨kn', nk', c0', r0', m0', ct', B', F', Z', Br', Q', Fo', No', Ho', Mo', In', Sn', Qn', rfl, hcn'⟩ := hp
  refine AW.cast (st2 := [iv (kBand S (xv xs (i + 1)) (xv xs (i + 2)))]) (M2 := (lwW (kn') (nk') sz tx S (ringP 7) cnt nx σ (slotP 95) sv (c0') (r0') (m0') (ct') (B') (F') (Z') (Br') (Q') (Fo') (No') (Ho') (Mo') (In') (Sn') (Qn') S2 c1 r1 m1 ct1 B1 F1 Z1 Br1 Q1 Fo1 No1 sd rt lf wy gb P0 P1 rf S3 S4 ac Bm Im mm Fi Co Bq Wt mk gy di ke ik ea sd2 rt2 lf2 wy2 sp ou (fo'))) ?_ rfl rfl rfl
  refine a_istore (pc := 799) ok dL_law_799 rfl (by rw [hN]; decide) ?_
  refine a_aload_n (pc := 801) ok dL_law_801 rfl ?_
  refine a_aload_n (pc := 802) ok dL_law_802 rfl ?_
  refine a_iload (pc := 803) ok dL_law_803 rfl ?_
  refine a_iconst (pc := 805) ok dL_law_805 ?_
  refine a_iadd (pc := 806) ok dL_law_806 ?_
  refine a_sld (pc := 807) ok sc dL_law_807 (by omega) hL ?_
  refine a_aload_n (pc := 808) ok dL_law_808 rfl ?_
  refine a_iload (pc := 809) ok dL_law_809 rfl ?_
  refine a_iconst (pc := 811) ok dL_law_811 ?_
  refine a_iadd (pc := 812) ok dL_law_812 ?_
  refine a_sld (pc := 813) ok sc dL_law_813 (by omega) hL ?_
  refine a_callV (pc := 814) ok [103, 105, 110, 111, 112, 113, 114, 115, 116, 117, 106, 104, 107, 108, 109, 118] dL_law_814 mvL_161 miX7_band (c_mband t.2.1 hB hI (xv_rg _ _) (xv_rg _ _)) ⟨by decide, by decide, rfl, rfl, (by show _ ≤ 601024; omega), (by show _ ≤ 7293034; omega)⟩ rfl rfl (Nat.le_of_ble_eq_true rfl) rfl (by decide) rfl rfl (fun _ _ h => WM_len h.2) ?_
  rintro _ M' ⟨rfl, hwm⟩
  obtain ⟨Bm', Im', mm', Fi', Co', Bq', Wt', mk', gy', S4', ea', sd2', rt2', lf2', wy2', sp', ou', rfl, hB', hI'⟩ := hwm
  refine AW.cast (st2 := [iv (w32 (if kBand S3 (xv xs (i + 1)) (xv xs (i + 2)) = 0 then aBand S3 (xv xs (i + 1)) (xv xs (i + 2)) else 0))]) (M2 := (lwW (kn') (nk') sz tx S (ringP 7) cnt nx σ (slotP 95) sv (c0') (r0') (m0') (ct') (B') (F') (Z') (Br') (Q') (Fo') (No') (Ho') (Mo') (In') (Sn') (Qn') S2 c1 r1 m1 ct1 B1 F1 Z1 Br1 Q1 Fo1 No1 sd rt lf wy gb P0 P1 (kBand S3 (xv xs (i + 1)) (xv xs (i + 2))) S3 (S4') ac (Bm') (Im') (mm') (Fi') (Co') (Bq') (Wt') (mk') (gy') di ke ik (ea') (sd2') (rt2') (lf2') (wy2') (sp') (ou') (fo'))) ?_ rfl (congrArg (fun v : Value => [v]) (iv_w _)) rfl
  have hInv : INV (lwW (kn') (nk') sz tx S (ringP 7) cnt nx σ (slotP 95) sv (c0') (r0') (m0') (ct') (B') (F') (Z') (Br') (Q') (Fo') (No') (Ho') (Mo') (In') (Sn') (Qn') S2 c1 r1 m1 ct1 B1 F1 Z1 Br1 Q1 Fo1 No1 sd rt lf wy gb P0 P1 (kBand S3 (xv xs (i + 1)) (xv xs (i + 2))) S3 (S4') ac (Bm') (Im') (mm') (Fi') (Co') (Bq') (Wt') (mk') (gy') di ke ik (ea') (sd2') (rt2') (lf2') (wy2') (sp') (ou') (fo')) := ⟨_, _, _, _, _, _, _, _, _, _, _, _, _, _, _, _, _, _, _, _, _, _, _, _, _, _, _, _, _, _, _, _, _, _, _, _, _, _, _, _, _, _, _, _, _, _, _, _, _, _, _, _, _, _, _, _, _, _, _, _, _, _, _, _, _, _, _, _, rfl, hcn', hr, hB', hI', t, hm, hk9, ht9⟩
  refine a_istore (pc := 817) ok dL_law_817 rfl (by rw [hN]; decide) ?_
  refine a_aload_n (pc := 819) ok dL_law_819 rfl ?_
  refine x_callVp (pc := 820) ok [103, 104, 105, 106, 107, 108, 109, 110, 111, 112, 113, 114, 115, 116, 117, 118] 1 dL_law_820 mvL_121 miX7_thrown (c_thrown) ⟨by decide, by decide, rfl, rfl, (by show _ ≤ 601024; omega), (by show _ ≤ 7293034; omega)⟩ rfl rfl (Nat.le_of_ble_eq_true rfl) rfl rfl (by decide) rfl rfl ?_
  refine a_iload (pc := 823) ok dL_law_823 rfl ?_
  refine a_icmp_eq (pc := 825) (tgt := 830) ok dL_law_825 (by decide) (by first | exact hKr | (rw [eK]; exact hKr)) (by first | exact hKr | (rw [eK]; exact hKr)) (fun c825 => ?_) (fun c825 => ?_)
  · refine a_iload (pc := 830) ok dL_law_830 rfl ?_
    refine a_if_ne (pc := 832) (tgt := 847) ok dL_law_832 (by decide) (by exact hKr) (fun c832 => ?_) (fun c832 => ?_)
    · refine a_goto (pc := 847) (tgt := 2245) ok dL_law_847 (by decide) ?_
      exact AW.forget (k _ hInv) (by repeat' (first | exact trivial | refine ⟨rfl, ?_⟩))
    · have h0 : kBand S (xv xs (i + 1)) (xv xs (i + 2)) = 0 := by first | exact c832 | omega
      have e1 := hfo h0
      have e2 : w32 (if kBand S3 (xv xs (i + 1)) (xv xs (i + 2)) = 0 then aBand S3 (xv xs (i + 1)) (xv xs (i + 2)) else 0) = w32 (aBand S (xv xs (i + 1)) (xv xs (i + 2))) := by have q := eK.trans h0; have q2 := eA h0; rw [if_pos q, q2]
      refine a_aload_n (pc := 835) ok dL_law_835 rfl ?_
      refine a_iconst (pc := 836) ok dL_law_836 ?_
      refine a_lald (pc := 837) ok dL_law_837 (rfl) (by decide) (by omega) ?_
      refine a_iload (pc := 838) ok dL_law_838 rfl ?_
      refine a_i2l (pc := 840) ok dL_law_840 (by exact rg_w _) ?_
      refine a_lcmp (pc := 841) ok dL_law_841 (by first | (rw [e1]; exact rgL_w9 _) | exact rgL_w9 _) (by first | (rw [e1]; exact rgL_w9 _) | exact rgL_w9 _) (fun c841 => ?_) (fun c841 => ?_) (fun c841 => ?_)
      · exfalso; rw [e1, e2] at c841; exact absurd c841 (Int.lt_irrefl _)
      · refine a_if_eq (pc := 842) (tgt := 847) ok dL_law_842 (by decide) (by first | omega | (unfold rg; omega) | (simp only [rg] at *; omega) | exact bz_rg _ | grind [rg]) (fun c842 => ?_) (fun c842 => ?_)
        · refine a_goto (pc := 847) (tgt := 2245) ok dL_law_847 (by decide) ?_
          exact AW.forget (k _ hInv) (by repeat' (first | exact trivial | refine ⟨rfl, ?_⟩))
        · exact absurd rfl c842
      · exfalso; rw [e1, e2] at c841; exact absurd c841 (Int.lt_irrefl _)
  · exact absurd eK c825
end LC105
