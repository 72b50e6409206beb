/-! THE LAW: its cases. Printed by wip/whole/gen/mk91.py. -/
section LC113
variable {kn : Int} {nk : Int} {sz : Int} {tx : Int → Int} {S : St} {cnt : Int} {nx : Int} {σ : Nat → St} {sv : Int → Int} {c0 : Int} {r0 : Int} {m0 : Int} {ct : Int} {B : Int → Int} {F : Int → Int} {Z : Int → Int} {Br : Int → Int} {Q : Int → Int} {Fo : Int → Int} {No : Int → Int} {Ho : Int → Int} {Mo : Int → Int} {In : Int → Int} {Sn : Int → Int} {Qn : Int → Int} {S2 : St} {c1 : Int} {r1 : Int} {m1 : Int} {ct1 : Int} {B1 : Int → Int} {F1 : Int → Int} {Z1 : Int → Int} {Br1 : Int → Int} {Q1 : Int → Int} {Fo1 : Int → Int} {No1 : Int → Int} {sd : Int} {rt : Int} {lf : Int} {wy : Int} {gb : Int → Int} {P0 : St} {P1 : St} {rf : Int} {S3 : St} {S4 : St} {ac : Int} {Bm : Int → Int} {Im : Int → Int} {mm : Int} {Fi : Int → Int} {Co : Int → Int} {Bq : Int → Int} {Wt : Int → Int} {mk : Int → Int} {gy : Int → Int} {di : Int → Int} {ke : Int → Int} {ik : Int → Int} {ea : Int → Int} {sd2 : Int} {rt2 : Int} {lf2 : Int} {wy2 : Int} {sp : Int} {ou : Int} {fo : Int → Int}
theorem cs_ifLeast {X : Cx} {b L : Nat} {xs : Nat → Int32} {i : Int} {kc ks : Nat} (ok : OKL X) (pre : PRE X b L xs i kc ks) (hcn : CN S kn nk c0 r0 m0 ct B F Z Fo No Ho Mo In) (hr : rwI B1 F1 Z1) (hB : ∀ i, 0 ≤ Bm i ∧ Bm i ≤ 5) (hI : ∀ i, rg (Im i)) (t : TW S S3) (hm : RM cnt nx σ ac di) (hk9 : RK P0 P1 sv ik ke) (ht9 : REt sz tx) (k : ∀ M, INV M → AW X (kc + 1) (ks + 6) 2245 [some (.ref 4095), some (.ref 0), some (.ref 103), some (.ref 119), some (iv i), none, none] [] M) :
    AW X kc ks 1661 [some (.ref 4095), some (.ref 0), some (.ref 103), some (.ref 119), some (iv i), none, none] [] (lwW kn nk sz tx S ((ringP 7)) cnt nx σ ((slotP 95)) sv c0 r0 m0 ct B F Z Br Q Fo No Ho Mo In Sn Qn S2 c1 r1 m1 ct1 B1 F1 Z1 Br1 Q1 Fo1 No1 sd rt lf wy gb P0 P1 rf S3 S4 ac Bm Im mm Fi Co Bq Wt mk gy di ke ik ea sd2 rt2 lf2 wy2 sp ou fo) := by
  obtain ⟨ex, hN, sc, hi, hL, hl, hkc, hks⟩ := pre
  have hc9 : 0 ≤ ac ∧ ac ≤ 14 := by rw [hm.2.2.1]; exact hm.1
  have eK : kIfL (xv xs (i + 1)) (xv xs (i + 2)) = kIfL (xv xs (i + 1)) (xv xs (i + 2)) := rfl
  have eA : kIfL (xv xs (i + 1)) (xv xs (i + 2)) = 0 → aIfL S3 (xv xs (i + 1)) (xv xs (i + 2)) = aIfL S (xv xs (i + 1)) (xv xs (i + 2)) := fun _ => aIfL_E t.2.2 _ _
  have hKr : rg (kIfL (xv xs (i + 1)) (xv xs (i + 2))) := by
    unfold kIfL rg
    repeat' split
    all_goals omega
  refine a_aload_n (pc := 1661) ok dL_law_1661 rfl ?_
  refine a_aload_n (pc := 1662) ok dL_law_1662 rfl ?_
  refine a_iload (pc := 1663) ok dL_law_1663 rfl ?_
  refine a_iconst (pc := 1665) ok dL_law_1665 ?_
  refine a_iadd (pc := 1666) ok dL_law_1666 ?_
  refine a_sld (pc := 1667) ok sc dL_law_1667 (by omega) hL ?_
  refine a_aload_n (pc := 1668) ok dL_law_1668 rfl ?_
  refine a_iload (pc := 1669) ok dL_law_1669 rfl ?_
  refine a_iconst (pc := 1671) ok dL_law_1671 ?_
  refine a_iadd (pc := 1672) ok dL_law_1672 ?_
  refine a_sld (pc := 1673) ok sc dL_law_1673 (by omega) hL ?_
  refine a_aload_n (pc := 1674) ok dL_law_1674 rfl ?_
  refine l_callS (pc := 1675) ok ex πL_U 19 dL_law_1675 (ug4 210 (by decide +kernel) rfl) (ug4 211 (by decide +kernel) rfl) miL_ifLeast (W_ifLeast (v := (xv xs (i + 1))) (w := (xv xs (i + 2))) hl t.1 hr (xv_rg _ _) (xv_rg _ _)) ⟨by decide, by decide, rfl, rfl⟩ ⟨hkc, hks⟩ rfl rfl (Nat.le_of_ble_eq_true rfl) rfl rfl nd_U (fun _ _ h => by obtain ⟨_, _, _, M9, hp, rfl⟩ := h; rw [wr_len (RU_len hp)]; rfl) ?_
  rintro _ M8 ⟨rfl, fo', hfo, M9, hp, rfl⟩
  obtain ⟨S2', c1', r1', m1', ct1', B1', F1', Z1', Br1', Q1', Fo1', No1', gb', rfl, hr'⟩ := hp
  refine AW.cast (st2 := [iv (kIfL (xv xs (i + 1)) (xv xs (i + 2)))]) (M2 := (lwW kn nk sz tx S ((ringP 7)) cnt nx σ ((slotP 95)) sv c0 r0 m0 ct B F Z Br Q Fo No Ho Mo In Sn Qn (S2') (c1') (r1') (m1') (ct1') (B1') (F1') (Z1') (Br1') (Q1') (Fo1') (No1') sd rt lf wy (gb') P0 P1 rf S3 S4 ac Bm Im mm Fi Co Bq Wt mk gy di ke ik ea sd2 rt2 lf2 wy2 sp ou (fo'))) ?_ rfl rfl rfl
  refine a_istore (pc := 1678) ok dL_law_1678 rfl (by rw [hN]; decide) ?_
  refine a_aload_n (pc := 1680) ok dL_law_1680 rfl ?_
  refine a_aload_n (pc := 1681) ok dL_law_1681 rfl ?_
  refine a_iload (pc := 1682) ok dL_law_1682 rfl ?_
  refine a_iconst (pc := 1684) ok dL_law_1684 ?_
  refine a_iadd (pc := 1685) ok dL_law_1685 ?_
  refine a_sld (pc := 1686) ok sc dL_law_1686 (by omega) hL ?_
  refine a_aload_n (pc := 1687) ok dL_law_1687 rfl ?_
  refine a_iload (pc := 1688) ok dL_law_1688 rfl ?_
  refine a_iconst (pc := 1690) ok dL_law_1690 ?_
  refine a_iadd (pc := 1691) ok dL_law_1691 ?_
  refine a_sld (pc := 1692) ok sc dL_law_1692 (by omega) hL ?_
  refine a_callV (pc := 1693) ok [103, 105, 110, 111, 112, 113, 114, 115, 116, 117, 106, 104, 107, 108, 109, 118] dL_law_1693 mvL_214 miX7_ifLeast (c_mifLeast t.2.1 hB hI (xv_rg _ _) (xv_rg _ _)) ⟨by decide, by decide, rfl, rfl, (by show _ ≤ 601024; omega), (by show _ ≤ 7293034; omega)⟩ rfl rfl (Nat.le_of_ble_eq_true rfl) rfl (by decide) rfl rfl (fun _ _ h => WM_len h.2) ?_
  rintro _ M' ⟨rfl, hwm⟩
  obtain ⟨Bm', Im', mm', Fi', Co', Bq', Wt', mk', gy', S4', ea', sd2', rt2', lf2', wy2', sp', ou', rfl, hB', hI'⟩ := hwm
  refine AW.cast (st2 := [iv (w32 (if kIfL (xv xs (i + 1)) (xv xs (i + 2)) = 0 then aIfL S3 (xv xs (i + 1)) (xv xs (i + 2)) else 0))]) (M2 := (lwW kn nk sz tx S ((ringP 7)) cnt nx σ ((slotP 95)) sv c0 r0 m0 ct B F Z Br Q Fo No Ho Mo In Sn Qn (S2') (c1') (r1') (m1') (ct1') (B1') (F1') (Z1') (Br1') (Q1') (Fo1') (No1') sd rt lf wy (gb') P0 P1 (kIfL (xv xs (i + 1)) (xv xs (i + 2))) S3 (S4') ac (Bm') (Im') (mm') (Fi') (Co') (Bq') (Wt') (mk') (gy') di ke ik (ea') (sd2') (rt2') (lf2') (wy2') (sp') (ou') (fo'))) ?_ rfl (congrArg (fun v : Value => [v]) (iv_w _)) rfl
  have hInv : INV (lwW kn nk sz tx S ((ringP 7)) cnt nx σ ((slotP 95)) sv c0 r0 m0 ct B F Z Br Q Fo No Ho Mo In Sn Qn (S2') (c1') (r1') (m1') (ct1') (B1') (F1') (Z1') (Br1') (Q1') (Fo1') (No1') sd rt lf wy (gb') P0 P1 (kIfL (xv xs (i + 1)) (xv xs (i + 2))) S3 (S4') ac (Bm') (Im') (mm') (Fi') (Co') (Bq') (Wt') (mk') (gy') di ke ik (ea') (sd2') (rt2') (lf2') (wy2') (sp') (ou') (fo')) := ⟨_, _, _, _, _, _, _, _, _, _, _, _, _, _, _, _, _, _, _, _, _, _, _, _, _, _, _, _, _, _, _, _, _, _, _, _, _, _, _, _, _, _, _, _, _, _, _, _, _, _, _, _, _, _, _, _, _, _, _, _, _, _, _, _, _, _, _, _, rfl, hcn, hr', hB', hI', t, hm, hk9, ht9⟩
  refine a_istore (pc := 1696) ok dL_law_1696 rfl (by rw [hN]; decide) ?_
  refine a_aload_n (pc := 1698) ok dL_law_1698 rfl ?_
  refine x_callVp (pc := 1699) ok [103, 104, 105, 106, 107, 108, 109, 110, 111, 112, 113, 114, 115, 116, 117, 118] 1 dL_law_1699 mvL_121 miX7_thrown (c_thrown) ⟨by decide, by decide, rfl, rfl, (by show _ ≤ 601024; omega), (by show _ ≤ 7293034; omega)⟩ rfl rfl (Nat.le_of_ble_eq_true rfl) rfl rfl (by decide) rfl rfl ?_
  refine a_iload (pc := 1702) ok dL_law_1702 rfl ?_
  refine a_icmp_eq (pc := 1704) (tgt := 1709) ok dL_law_1704 (by decide) (by first | exact hKr | (rw [eK]; exact hKr)) (by first | exact hKr | (rw [eK]; exact hKr)) (fun c1704 => ?_) (fun c1704 => ?_)
  · refine a_iload (pc := 1709) ok dL_law_1709 rfl ?_
    refine a_if_ne (pc := 1711) (tgt := 1726) ok dL_law_1711 (by decide) (by exact hKr) (fun c1711 => ?_) (fun c1711 => ?_)
    · refine a_goto (pc := 1726) (tgt := 2245) ok dL_law_1726 (by decide) ?_
      exact AW.forget (k _ hInv) (by repeat' (first | exact trivial | refine ⟨rfl, ?_⟩))
    · have h0 : kIfL (xv xs (i + 1)) (xv xs (i + 2)) = 0 := by first | exact c1711 | omega
      have e1 := hfo h0
      have e2 : w32 (if kIfL (xv xs (i + 1)) (xv xs (i + 2)) = 0 then aIfL S3 (xv xs (i + 1)) (xv xs (i + 2)) else 0) = w32 (aIfL S (xv xs (i + 1)) (xv xs (i + 2))) := by have q := eK.trans h0; have q2 := eA h0; rw [if_pos q, q2]
      refine a_aload_n (pc := 1714) ok dL_law_1714 rfl ?_
      refine a_iconst (pc := 1715) ok dL_law_1715 ?_
      refine a_lald (pc := 1716) ok dL_law_1716 (rfl) (by decide) (by omega) ?_
      refine a_iload (pc := 1717) ok dL_law_1717 rfl ?_
      refine a_i2l (pc := 1719) ok dL_law_1719 (by exact rg_w _) ?_
      refine a_lcmp (pc := 1720) ok dL_law_1720 (by first | (rw [e1]; exact rgL_w9 _) | exact rgL_w9 _) (by first | (rw [e1]; exact rgL_w9 _) | exact rgL_w9 _) (fun c1720 => ?_) (fun c1720 => ?_) (fun c1720 => ?_)
      · exfalso; rw [e1, e2] at c1720; exact absurd c1720 (Int.lt_irrefl _)
      · refine a_if_eq (pc := 1721) (tgt := 1726) ok dL_law_1721 (by decide) (by first | exact xv_rg _ _ | omega | (unfold rg; omega) | (simp only [rg] at *; omega) | exact bz_rg _ | grind [rg]) (fun c1721 => ?_) (fun c1721 => ?_)
        · refine a_goto (pc := 1726) (tgt := 2245) ok dL_law_1726 (by decide) ?_
          exact AW.forget (k _ hInv) (by repeat' (first | exact trivial | refine ⟨rfl, ?_⟩))
        · exact absurd rfl c1721
      · exfalso; rw [e1, e2] at c1720; exact absurd c1720 (Int.lt_irrefl _)
  · exact absurd eK c1704
theorem cs_leastFor {X : Cx} {b L : Nat} {xs : Nat → Int32} {i : Int} {kc ks : Nat} (ok : OKL X) (pre : PRE X b L xs i kc ks) (hcn : CN S kn nk c0 r0 m0 ct B F Z Fo No Ho Mo In) (hr : rwI B1 F1 Z1) (hB : ∀ i, 0 ≤ Bm i ∧ Bm i ≤ 5) (hI : ∀ i, rg (Im i)) (t : TW S S3) (hm : RM cnt nx σ ac di) (hk9 : RK P0 P1 sv ik ke) (ht9 : REt sz tx) (k : ∀ M, INV M → AW X (kc + 1) (ks + 6) 2245 [some (.ref 4095), some (.ref 0), some (.ref 103), some (.ref 119), some (iv i), none, none] [] M) :
    AW X kc ks 1729 [some (.ref 4095), some (.ref 0), some (.ref 103), some (.ref 119), some (iv i), none, none] [] (lwW kn nk sz tx S ((ringP 7)) cnt nx σ ((slotP 95)) sv c0 r0 m0 ct B F Z Br Q Fo No Ho Mo In Sn Qn S2 c1 r1 m1 ct1 B1 F1 Z1 Br1 Q1 Fo1 No1 sd rt lf wy gb P0 P1 rf S3 S4 ac Bm Im mm Fi Co Bq Wt mk gy di ke ik ea sd2 rt2 lf2 wy2 sp ou fo) := by
  obtain ⟨ex, hN, sc, hi, hL, hl, hkc, hks⟩ := pre
  have hc9 : 0 ≤ ac ∧ ac ≤ 14 := by rw [hm.2.2.1]; exact hm.1
  have eK : kIn (xv xs (i + 1)) 1 144 = kIn (xv xs (i + 1)) 1 144 := rfl
  have eA : kIn (xv xs (i + 1)) 1 144 = 0 → lfK S3 (xv xs (i + 1)) 30 1 = lfK S (xv xs (i + 1)) 30 1 := fun _ => lfK_E t.2.2 _ _ _
  have hKr : rg (kIn (xv xs (i + 1)) 1 144) := by
    unfold kIn rg
    repeat' split
    all_goals omega
  refine a_aload_n (pc := 1729) ok dL_law_1729 rfl ?_
  refine a_aload_n (pc := 1730) ok dL_law_1730 rfl ?_
  refine a_iload (pc := 1731) ok dL_law_1731 rfl ?_
  refine a_iconst (pc := 1733) ok dL_law_1733 ?_
  refine a_iadd (pc := 1734) ok dL_law_1734 ?_
  refine a_sld (pc := 1735) ok sc dL_law_1735 (by omega) hL ?_
  refine a_aload_n (pc := 1736) ok dL_law_1736 rfl ?_
  refine l_callS (pc := 1737) ok ex πL_U 19 dL_law_1737 (ug4 217 (by decide +kernel) rfl) (ug4 218 (by decide +kernel) rfl) miL_leastFor (W_leastFor (n := (xv xs (i + 1))) hl t.1 hr (xv_rg _ _)) ⟨by decide, by decide, rfl, rfl⟩ ⟨hkc, hks⟩ rfl rfl (Nat.le_of_ble_eq_true rfl) rfl rfl nd_U (fun _ _ h => by obtain ⟨_, _, _, M9, hp, rfl⟩ := h; rw [wr_len (RU_len hp)]; rfl) ?_
  rintro _ M8 ⟨rfl, fo', hfo, M9, hp, rfl⟩
  obtain ⟨S2', c1', r1', m1', ct1', B1', F1', Z1', Br1', Q1', Fo1', No1', gb', rfl, hr'⟩ := hp
  refine AW.cast (st2 := [iv (kIn (xv xs (i + 1)) 1 144)]) (M2 := (lwW kn nk sz tx S ((ringP 7)) cnt nx σ ((slotP 95)) sv c0 r0 m0 ct B F Z Br Q Fo No Ho Mo In Sn Qn (S2') (c1') (r1') (m1') (ct1') (B1') (F1') (Z1') (Br1') (Q1') (Fo1') (No1') sd rt lf wy (gb') P0 P1 rf S3 S4 ac Bm Im mm Fi Co Bq Wt mk gy di ke ik ea sd2 rt2 lf2 wy2 sp ou (fo'))) ?_ rfl rfl rfl
  refine a_istore (pc := 1740) ok dL_law_1740 rfl (by rw [hN]; decide) ?_
  refine a_aload_n (pc := 1742) ok dL_law_1742 rfl ?_
  refine a_aload_n (pc := 1743) ok dL_law_1743 rfl ?_
  refine a_iload (pc := 1744) ok dL_law_1744 rfl ?_
  refine a_iconst (pc := 1746) ok dL_law_1746 ?_
  refine a_iadd (pc := 1747) ok dL_law_1747 ?_
  refine a_sld (pc := 1748) ok sc dL_law_1748 (by omega) hL ?_
  refine a_callV (pc := 1749) ok [103, 105, 110, 111, 112, 113, 114, 115, 116, 117, 106, 104, 107, 108, 109, 118] dL_law_1749 mvL_217 miX7_leastFor (c_mleastFor t.2.1 hB hI (xv_rg _ _)) ⟨by decide, by decide, rfl, rfl, (by show _ ≤ 601024; omega), (by show _ ≤ 7293034; omega)⟩ rfl rfl (Nat.le_of_ble_eq_true rfl) rfl (by decide) rfl rfl (fun _ _ h => WM_len h.2) ?_
  rintro _ M' ⟨rfl, hwm⟩
  obtain ⟨Bm', Im', mm', Fi', Co', Bq', Wt', mk', gy', S4', ea', sd2', rt2', lf2', wy2', sp', ou', rfl, hB', hI'⟩ := hwm
  refine AW.cast (st2 := [iv (w32 (if kIn (xv xs (i + 1)) 1 144 = 0 then lfK S3 (xv xs (i + 1)) 30 1 else 0))]) (M2 := (lwW kn nk sz tx S ((ringP 7)) cnt nx σ ((slotP 95)) sv c0 r0 m0 ct B F Z Br Q Fo No Ho Mo In Sn Qn (S2') (c1') (r1') (m1') (ct1') (B1') (F1') (Z1') (Br1') (Q1') (Fo1') (No1') sd rt lf wy (gb') P0 P1 (kIn (xv xs (i + 1)) 1 144) S3 (S4') ac (Bm') (Im') (mm') (Fi') (Co') (Bq') (Wt') (mk') (gy') di ke ik (ea') (sd2') (rt2') (lf2') (wy2') (sp') (ou') (fo'))) ?_ rfl (congrArg (fun v : Value => [v]) (iv_w _)) rfl
  have hInv : INV (lwW kn nk sz tx S ((ringP 7)) cnt nx σ ((slotP 95)) sv c0 r0 m0 ct B F Z Br Q Fo No Ho Mo In Sn Qn (S2') (c1') (r1') (m1') (ct1') (B1') (F1') (Z1') (Br1') (Q1') (Fo1') (No1') sd rt lf wy (gb') P0 P1 (kIn (xv xs (i + 1)) 1 144) S3 (S4') ac (Bm') (Im') (mm') (Fi') (Co') (Bq') (Wt') (mk') (gy') di ke ik (ea') (sd2') (rt2') (lf2') (wy2') (sp') (ou') (fo')) := ⟨_, _, _, _, _, _, _, _, _, _, _, _, _, _, _, _, _, _, _, _, _, _, _, _, _, _, _, _, _, _, _, _, _, _, _, _, _, _, _, _, _, _, _, _, _, _, _, _, _, _, _, _, _, _, _, _, _, _, _, _, _, _, _, _, _, _, _, _, rfl, hcn, hr', hB', hI', t, hm, hk9, ht9⟩
  refine a_istore (pc := 1752) ok dL_law_1752 rfl (by rw [hN]; decide) ?_
  refine a_aload_n (pc := 1754) ok dL_law_1754 rfl ?_
  refine x_callVp (pc := 1755) ok [103, 104, 105, 106, 107, 108, 109, 110, 111, 112, 113, 114, 115, 116, 117, 118] 1 dL_law_1755 mvL_121 miX7_thrown (c_thrown) ⟨by decide, by decide, rfl, rfl, (by show _ ≤ 601024; omega), (by show _ ≤ 7293034; omega)⟩ rfl rfl (Nat.le_of_ble_eq_true rfl) rfl rfl (by decide) rfl rfl ?_
  refine a_iload (pc := 1758) ok dL_law_1758 rfl ?_
  refine a_icmp_eq (pc := 1760) (tgt := 1765) ok dL_law_1760 (by decide) (by first | exact hKr | (rw [eK]; exact hKr)) (by first | exact hKr | (rw [eK]; exact hKr)) (fun c1760 => ?_) (fun c1760 => ?_)
  · refine a_iload (pc := 1765) ok dL_law_1765 rfl ?_
    refine a_if_ne (pc := 1767) (tgt := 1782) ok dL_law_1767 (by decide) (by exact hKr) (fun c1767 => ?_) (fun c1767 => ?_)
    · refine a_goto (pc := 1782) (tgt := 2245) ok dL_law_1782 (by decide) ?_
      exact AW.forget (k _ hInv) (by repeat' (first | exact trivial | refine ⟨rfl, ?_⟩))
    · have h0 : kIn (xv xs (i + 1)) 1 144 = 0 := by first | exact c1767 | omega
      have e1 := hfo h0
      have e2 : w32 (if kIn (xv xs (i + 1)) 1 144 = 0 then lfK S3 (xv xs (i + 1)) 30 1 else 0) = w32 (lfK S (xv xs (i + 1)) 30 1) := by have q := eK.trans h0; have q2 := eA h0; rw [if_pos q, q2]
      refine a_aload_n (pc := 1770) ok dL_law_1770 rfl ?_
      refine a_iconst (pc := 1771) ok dL_law_1771 ?_
      refine a_lald (pc := 1772) ok dL_law_1772 (rfl) (by decide) (by omega) ?_
      refine a_iload (pc := 1773) ok dL_law_1773 rfl ?_
      refine a_i2l (pc := 1775) ok dL_law_1775 (by exact rg_w _) ?_
      refine a_lcmp (pc := 1776) ok dL_law_1776 (by first | (rw [e1]; exact rgL_w9 _) | exact rgL_w9 _) (by first | (rw [e1]; exact rgL_w9 _) | exact rgL_w9 _) (fun c1776 => ?_) (fun c1776 => ?_) (fun c1776 => ?_)
      · exfalso; rw [e1, e2] at c1776; exact absurd c1776 (Int.lt_irrefl _)
      · refine a_if_eq (pc := 1777) (tgt := 1782) ok dL_law_1777 (by decide) (by first | exact xv_rg _ _ | omega | (unfold rg; omega) | (simp only [rg] at *; omega) | exact bz_rg _ | grind [rg]) (fun c1777 => ?_) (fun c1777 => ?_)
        · refine a_goto (pc := 1782) (tgt := 2245) ok dL_law_1782 (by decide) ?_
          exact AW.forget (k _ hInv) (by repeat' (first | exact trivial | refine ⟨rfl, ?_⟩))
        · exact absurd rfl c1777
      · exfalso; rw [e1, e2] at c1776; exact absurd c1776 (Int.lt_irrefl _)
  · exact absurd eK c1760
end LC113
