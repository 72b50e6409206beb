/-! THE LAW: its cases. Printed by wip/whole/gen/mk91.py. -/
section LC114
variable {kn : Int} {nk : Int} {sz : Int} {tx : Int → Int} {S : St} {cnt : Int} {nx : Int} {σ : Nat → St} {sv : Int → Int} {c0 : Int} {r0 : Int} {m0 : Int} {ct : Int} {B : Int → Int} {F : Int → Int} {Z : Int → Int} {Br : Int → Int} {Q : Int → Int} {Fo : Int → Int} {No : Int → Int} {Ho : Int → Int} {Mo : Int → Int} {In : Int → Int} {Sn : Int → Int} {Qn : Int → Int} {S2 : St} {c1 : Int} {r1 : Int} {m1 : Int} {ct1 : Int} {B1 : Int → Int} {F1 : Int → Int} {Z1 : Int → Int} {Br1 : Int → Int} {Q1 : Int → Int} {Fo1 : Int → Int} {No1 : Int → Int} {sd : Int} {rt : Int} {lf : Int} {wy : Int} {gb : Int → Int} {P0 : St} {P1 : St} {rf : Int} {S3 : St} {S4 : St} {ac : Int} {Bm : Int → Int} {Im : Int → Int} {mm : Int} {Fi : Int → Int} {Co : Int → Int} {Bq : Int → Int} {Wt : Int → Int} {mk : Int → Int} {gy : Int → Int} {di : Int → Int} {ke : Int → Int} {ik : Int → Int} {ea : Int → Int} {sd2 : Int} {rt2 : Int} {lf2 : Int} {wy2 : Int} {sp : Int} {ou : Int} {fo : Int → Int}
theorem cs_bestMove {X : Cx} {b L : Nat} {xs : Nat → Int32} {i : Int} {kc ks : Nat} (ok : OKL X) (pre : PRE X b L xs i kc ks) (hcn : CN S kn nk c0 r0 m0 ct B F Z Fo No Ho Mo In) (hr : rwI B1 F1 Z1) (hB : ∀ i, 0 ≤ Bm i ∧ Bm i ≤ 5) (hI : ∀ i, rg (Im i)) (t : TW S S3) (hm : RM cnt nx σ ac di) (hk9 : RK P0 P1 sv ik ke) (ht9 : REt sz tx) (k : ∀ M, INV M → AW X (kc + 1) (ks + 6) 2245 [some (.ref 4095), some (.ref 0), some (.ref 103), some (.ref 119), some (iv i), none, none] [] M) :
    AW X kc ks 1785 [some (.ref 4095), some (.ref 0), some (.ref 103), some (.ref 119), some (iv i), none, none] [] (lwW kn nk sz tx S ((ringP 7)) cnt nx σ ((slotP 95)) sv c0 r0 m0 ct B F Z Br Q Fo No Ho Mo In Sn Qn S2 c1 r1 m1 ct1 B1 F1 Z1 Br1 Q1 Fo1 No1 sd rt lf wy gb P0 P1 rf S3 S4 ac Bm Im mm Fi Co Bq Wt mk gy di ke ik ea sd2 rt2 lf2 wy2 sp ou fo) := by
  obtain ⟨ex, hN, sc, hi, hL, hl, hkc, hks⟩ := pre
  have hc9 : 0 ≤ ac ∧ ac ≤ 14 := by rw [hm.2.2.1]; exact hm.1
  have eK : kIn (xv xs (i + 1)) 0 (sN S3 - 1) = kIn (xv xs (i + 1)) 0 (sN S - 1) := kThr_E t.2.2 _
  have eA : kIn (xv xs (i + 1)) 0 (sN S - 1) = 0 → aBest S3 (xv xs (i + 1)) = aBest S (xv xs (i + 1)) := fun z => aBest_E t.2.2 z
  have hKr : rg (kIn (xv xs (i + 1)) 0 (sN S - 1)) := by
    unfold kIn rg
    repeat' split
    all_goals omega
  refine a_aload_n (pc := 1785) ok dL_law_1785 rfl ?_
  refine a_aload_n (pc := 1786) ok dL_law_1786 rfl ?_
  refine a_iload (pc := 1787) ok dL_law_1787 rfl ?_
  refine a_iconst (pc := 1789) ok dL_law_1789 ?_
  refine a_iadd (pc := 1790) ok dL_law_1790 ?_
  refine a_sld (pc := 1791) ok sc dL_law_1791 (by omega) hL ?_
  refine a_aload_n (pc := 1792) ok dL_law_1792 rfl ?_
  refine l_callS (pc := 1793) ok ex πL_U 19 dL_law_1793 (ug4 225 (by decide +kernel) rfl) (ug4 226 (by decide +kernel) rfl) miL_bestMove (W_bestMove (k := (xv xs (i + 1))) hl t.1 hr (xv_rg _ _)) ⟨by decide, by decide, rfl, rfl⟩ ⟨hkc, hks⟩ rfl rfl (Nat.le_of_ble_eq_true rfl) rfl rfl nd_U (fun _ _ h => by obtain ⟨_, _, _, M9, hp, rfl⟩ := h; rw [wr_len (RU_len hp)]; rfl) ?_
  rintro _ M8 ⟨rfl, fo', hfo, M9, hp, rfl⟩
  obtain ⟨S2', c1', r1', m1', ct1', B1', F1', Z1', Br1', Q1', Fo1', No1', gb', rfl, hr'⟩ := hp
  refine AW.cast (st2 := [iv (kIn (xv xs (i + 1)) 0 (sN S - 1))]) (M2 := (lwW kn nk sz tx S ((ringP 7)) cnt nx σ ((slotP 95)) sv c0 r0 m0 ct B F Z Br Q Fo No Ho Mo In Sn Qn (S2') (c1') (r1') (m1') (ct1') (B1') (F1') (Z1') (Br1') (Q1') (Fo1') (No1') sd rt lf wy (gb') P0 P1 rf S3 S4 ac Bm Im mm Fi Co Bq Wt mk gy di ke ik ea sd2 rt2 lf2 wy2 sp ou (fo'))) ?_ rfl rfl rfl
  refine a_istore (pc := 1796) ok dL_law_1796 rfl (by rw [hN]; decide) ?_
  refine a_aload_n (pc := 1798) ok dL_law_1798 rfl ?_
  refine a_aload_n (pc := 1799) ok dL_law_1799 rfl ?_
  refine a_iload (pc := 1800) ok dL_law_1800 rfl ?_
  refine a_iconst (pc := 1802) ok dL_law_1802 ?_
  refine a_iadd (pc := 1803) ok dL_law_1803 ?_
  refine a_sld (pc := 1804) ok sc dL_law_1804 (by omega) hL ?_
  refine a_callV (pc := 1805) ok [103, 105, 110, 111, 112, 113, 114, 115, 116, 117, 106, 104, 107, 108, 109, 118] dL_law_1805 mvL_220 miX7_bestMove (c_mbestMove t.2.1 hB hI (xv_rg _ _)) ⟨by decide, by decide, rfl, rfl, (by show _ ≤ 601024; omega), (by show _ ≤ 7293034; omega)⟩ rfl rfl (Nat.le_of_ble_eq_true rfl) rfl (by decide) rfl rfl (fun _ _ h => WM_len h.2) ?_
  rintro _ M' ⟨rfl, hwm⟩
  obtain ⟨Bm', Im', mm', Fi', Co', Bq', Wt', mk', gy', S4', ea', sd2', rt2', lf2', wy2', sp', ou', rfl, hB', hI'⟩ := hwm
  refine AW.cast (st2 := [iv (w32 (if kIn (xv xs (i + 1)) 0 (sN S3 - 1) = 0 then aBest S3 (xv xs (i + 1)) else 0))]) (M2 := (lwW kn nk sz tx S ((ringP 7)) cnt nx σ ((slotP 95)) sv c0 r0 m0 ct B F Z Br Q Fo No Ho Mo In Sn Qn (S2') (c1') (r1') (m1') (ct1') (B1') (F1') (Z1') (Br1') (Q1') (Fo1') (No1') sd rt lf wy (gb') P0 P1 (kIn (xv xs (i + 1)) 0 (sN S3 - 1)) S3 (S4') ac (Bm') (Im') (mm') (Fi') (Co') (Bq') (Wt') (mk') (gy') di ke ik (ea') (sd2') (rt2') (lf2') (wy2') (sp') (ou') (fo'))) ?_ rfl (congrArg (fun v : Value => [v]) (iv_w _)) rfl
  have hInv : INV (lwW kn nk sz tx S ((ringP 7)) cnt nx σ ((slotP 95)) sv c0 r0 m0 ct B F Z Br Q Fo No Ho Mo In Sn Qn (S2') (c1') (r1') (m1') (ct1') (B1') (F1') (Z1') (Br1') (Q1') (Fo1') (No1') sd rt lf wy (gb') P0 P1 (kIn (xv xs (i + 1)) 0 (sN S3 - 1)) S3 (S4') ac (Bm') (Im') (mm') (Fi') (Co') (Bq') (Wt') (mk') (gy') di ke ik (ea') (sd2') (rt2') (lf2') (wy2') (sp') (ou') (fo')) := ⟨_, _, _, _, _, _, _, _, _, _, _, _, _, _, _, _, _, _, _, _, _, _, _, _, _, _, _, _, _, _, _, _, _, _, _, _, _, _, _, _, _, _, _, _, _, _, _, _, _, _, _, _, _, _, _, _, _, _, _, _, _, _, _, _, _, _, _, _, rfl, hcn, hr', hB', hI', t, hm, hk9, ht9⟩
  refine a_istore (pc := 1808) ok dL_law_1808 rfl (by rw [hN]; decide) ?_
  refine a_aload_n (pc := 1810) ok dL_law_1810 rfl ?_
  refine x_callVp (pc := 1811) ok [103, 104, 105, 106, 107, 108, 109, 110, 111, 112, 113, 114, 115, 116, 117, 118] 1 dL_law_1811 mvL_121 miX7_thrown (c_thrown) ⟨by decide, by decide, rfl, rfl, (by show _ ≤ 601024; omega), (by show _ ≤ 7293034; omega)⟩ rfl rfl (Nat.le_of_ble_eq_true rfl) rfl rfl (by decide) rfl rfl ?_
  refine a_iload (pc := 1814) ok dL_law_1814 rfl ?_
  refine a_icmp_eq (pc := 1816) (tgt := 1821) ok dL_law_1816 (by decide) (by first | exact hKr | (rw [eK]; exact hKr)) (by first | exact hKr | (rw [eK]; exact hKr)) (fun c1816 => ?_) (fun c1816 => ?_)
  · refine a_iload (pc := 1821) ok dL_law_1821 rfl ?_
    refine a_if_ne (pc := 1823) (tgt := 1838) ok dL_law_1823 (by decide) (by exact hKr) (fun c1823 => ?_) (fun c1823 => ?_)
    · refine a_goto (pc := 1838) (tgt := 2245) ok dL_law_1838 (by decide) ?_
      exact AW.forget (k _ hInv) (by repeat' (first | exact trivial | refine ⟨rfl, ?_⟩))
    · have h0 : kIn (xv xs (i + 1)) 0 (sN S - 1) = 0 := by first | exact c1823 | omega
      have e1 := hfo h0
      have e2 : w32 (if kIn (xv xs (i + 1)) 0 (sN S3 - 1) = 0 then aBest S3 (xv xs (i + 1)) else 0) = w32 (aBest S (xv xs (i + 1))) := by have q := eK.trans h0; have q2 := eA h0; rw [if_pos q, q2]
      refine a_aload_n (pc := 1826) ok dL_law_1826 rfl ?_
      refine a_iconst (pc := 1827) ok dL_law_1827 ?_
      refine a_lald (pc := 1828) ok dL_law_1828 (rfl) (by decide) (by omega) ?_
      refine a_iload (pc := 1829) ok dL_law_1829 rfl ?_
      refine a_i2l (pc := 1831) ok dL_law_1831 (by exact rg_w _) ?_
      refine a_lcmp (pc := 1832) ok dL_law_1832 (by first | (rw [e1]; exact rgL_w9 _) | exact rgL_w9 _) (by first | (rw [e1]; exact rgL_w9 _) | exact rgL_w9 _) (fun c1832 => ?_) (fun c1832 => ?_) (fun c1832 => ?_)
      · exfalso; rw [e1, e2] at c1832; exact absurd c1832 (Int.lt_irrefl _)
      · refine a_if_eq (pc := 1833) (tgt := 1838) ok dL_law_1833 (by decide) (by first | exact xv_rg _ _ | omega | (unfold rg; omega) | (simp only [rg] at *; omega) | exact bz_rg _ | grind [rg]) (fun c1833 => ?_) (fun c1833 => ?_)
        · refine a_goto (pc := 1838) (tgt := 2245) ok dL_law_1838 (by decide) ?_
          exact AW.forget (k _ hInv) (by repeat' (first | exact trivial | refine ⟨rfl, ?_⟩))
        · exact absurd rfl c1833
      · exfalso; rw [e1, e2] at c1832; exact absurd c1832 (Int.lt_irrefl _)
  · exact absurd eK c1816
theorem cs_ifCell {X : Cx} {b L : Nat} {xs : Nat → Int32} {i : Int} {kc ks : Nat} (ok : OKL X) (pre : PRE X b L xs i kc ks) (hcn : CN S kn nk c0 r0 m0 ct B F Z Fo No Ho Mo In) (hr : rwI B1 F1 Z1) (hB : ∀ i, 0 ≤ Bm i ∧ Bm i ≤ 5) (hI : ∀ i, rg (Im i)) (t : TW S S3) (hm : RM cnt nx σ ac di) (hk9 : RK P0 P1 sv ik ke) (ht9 : REt sz tx) (k : ∀ M, INV M → AW X (kc + 1) (ks + 6) 2245 [some (.ref 4095), some (.ref 0), some (.ref 103), some (.ref 119), some (iv i), none, none] [] M) :
    AW X kc ks 1841 [some (.ref 4095), some (.ref 0), some (.ref 103), some (.ref 119), some (iv i), none, none] [] (lwW kn nk sz tx S ((ringP 7)) cnt nx σ ((slotP 95)) sv c0 r0 m0 ct B F Z Br Q Fo No Ho Mo In Sn Qn S2 c1 r1 m1 ct1 B1 F1 Z1 Br1 Q1 Fo1 No1 sd rt lf wy gb P0 P1 rf S3 S4 ac Bm Im mm Fi Co Bq Wt mk gy di ke ik ea sd2 rt2 lf2 wy2 sp ou fo) := by
  obtain ⟨ex, hN, sc, hi, hL, hl, hkc, hks⟩ := pre
  have hc9 : 0 ≤ ac ∧ ac ≤ 14 := by rw [hm.2.2.1]; exact hm.1
  have eK : kIfC S3 (xv xs (i + 1)) (xv xs (i + 2)) (xv xs (i + 3)) (xv xs (i + 4)) = kIfC S (xv xs (i + 1)) (xv xs (i + 2)) (xv xs (i + 3)) (xv xs (i + 4)) := kIfC_E t.2.2 _ _ _ _
  have eA : kIfC S (xv xs (i + 1)) (xv xs (i + 2)) (xv xs (i + 3)) (xv xs (i + 4)) = 0 → aIfC S3 (gP S3 (xv xs (i + 1)) (xv xs (i + 2)) (xv xs (i + 3))) (xv xs (i + 1)) (xv xs (i + 2)) (xv xs (i + 4)) = aIfC S (gP S (xv xs (i + 1)) (xv xs (i + 2)) (xv xs (i + 3))) (xv xs (i + 1)) (xv xs (i + 2)) (xv xs (i + 4)) := fun _ => aIfC_E t.2.2 _ _ _ _
  have hKr : rg (kIfC S (xv xs (i + 1)) (xv xs (i + 2)) (xv xs (i + 3)) (xv xs (i + 4))) := by
    unfold kIfC rg
    repeat' split
    all_goals omega
  refine a_aload_n (pc := 1841) ok dL_law_1841 rfl ?_
  refine a_aload_n (pc := 1842) ok dL_law_1842 rfl ?_
  refine a_iload (pc := 1843) ok dL_law_1843 rfl ?_
  refine a_iconst (pc := 1845) ok dL_law_1845 ?_
  refine a_iadd (pc := 1846) ok dL_law_1846 ?_
  refine a_sld (pc := 1847) ok sc dL_law_1847 (by omega) hL ?_
  refine a_aload_n (pc := 1848) ok dL_law_1848 rfl ?_
  refine a_iload (pc := 1849) ok dL_law_1849 rfl ?_
  refine a_iconst (pc := 1851) ok dL_law_1851 ?_
  refine a_iadd (pc := 1852) ok dL_law_1852 ?_
  refine a_sld (pc := 1853) ok sc dL_law_1853 (by omega) hL ?_
  refine a_aload_n (pc := 1854) ok dL_law_1854 rfl ?_
  refine a_iload (pc := 1855) ok dL_law_1855 rfl ?_
  refine a_iconst (pc := 1857) ok dL_law_1857 ?_
  refine a_iadd (pc := 1858) ok dL_law_1858 ?_
  refine a_sld (pc := 1859) ok sc dL_law_1859 (by omega) hL ?_
  refine a_aload_n (pc := 1860) ok dL_law_1860 rfl ?_
  refine a_iload (pc := 1861) ok dL_law_1861 rfl ?_
  refine a_iconst (pc := 1863) ok dL_law_1863 ?_
  refine a_iadd (pc := 1864) ok dL_law_1864 ?_
  refine a_sld (pc := 1865) ok sc dL_law_1865 (by omega) hL ?_
  refine a_aload_n (pc := 1866) ok dL_law_1866 rfl ?_
  refine l_callS (pc := 1867) ok ex πL_D 34 dL_law_1867 (ug4 239 (by decide +kernel) rfl) (ug5 0 (by decide +kernel) rfl) miL_ifCell (W_ifCell (x := (xv xs (i + 1))) (y := (xv xs (i + 2))) (g := (xv xs (i + 3))) (w := (xv xs (i + 4))) hl t.1 hcn hr (xv_rg _ _) (xv_rg _ _) (xv_rg _ _) (xv_rg _ _)) ⟨by decide, by decide, rfl, rfl⟩ ⟨hkc, hks⟩ rfl rfl (Nat.le_of_ble_eq_true rfl) rfl rfl nd_D (fun _ _ h => by obtain ⟨_, _, _, M9, hp, rfl⟩ := h; rw [wr_len (RD_len hp)]; rfl) ?_
  rintro _ M8 ⟨rfl, fo', hfo, M9, hp, rfl⟩
  obtain ⟨kn', nk', c0', r0', m0', ct', B', F', Z', Br', Q', Fo', No', Ho', Mo', In', Sn', Qn', sd', rt', lf', wy', S2', c1', r1', m1', ct1', B1', F1', Z1', Br1', Q1', Fo1', No1', gb', rfl, hcn', hr'⟩ := hp
  refine AW.cast (st2 := [iv (kIfC S (xv xs (i + 1)) (xv xs (i + 2)) (xv xs (i + 3)) (xv xs (i + 4)))]) (M2 := (lwW (kn') (nk') sz tx S ((ringP 7)) cnt nx σ ((slotP 95)) sv (c0') (r0') (m0') (ct') (B') (F') (Z') (Br') (Q') (Fo') (No') (Ho') (Mo') (In') (Sn') (Qn') (S2') (c1') (r1') (m1') (ct1') (B1') (F1') (Z1') (Br1') (Q1') (Fo1') (No1') (sd') (rt') (lf') (wy') (gb') P0 P1 rf S3 S4 ac Bm Im mm Fi Co Bq Wt mk gy di ke ik ea sd2 rt2 lf2 wy2 sp ou (fo'))) ?_ rfl rfl rfl
  refine a_istore (pc := 1870) ok dL_law_1870 rfl (by rw [hN]; decide) ?_
  refine a_aload_n (pc := 1872) ok dL_law_1872 rfl ?_
  refine a_aload_n (pc := 1873) ok dL_law_1873 rfl ?_
  refine a_iload (pc := 1874) ok dL_law_1874 rfl ?_
  refine a_iconst (pc := 1876) ok dL_law_1876 ?_
  refine a_iadd (pc := 1877) ok dL_law_1877 ?_
  refine a_sld (pc := 1878) ok sc dL_law_1878 (by omega) hL ?_
  refine a_aload_n (pc := 1879) ok dL_law_1879 rfl ?_
  refine a_iload (pc := 1880) ok dL_law_1880 rfl ?_
  refine a_iconst (pc := 1882) ok dL_law_1882 ?_
  refine a_iadd (pc := 1883) ok dL_law_1883 ?_
  refine a_sld (pc := 1884) ok sc dL_law_1884 (by omega) hL ?_
  refine a_aload_n (pc := 1885) ok dL_law_1885 rfl ?_
  refine a_iload (pc := 1886) ok dL_law_1886 rfl ?_
  refine a_iconst (pc := 1888) ok dL_law_1888 ?_
  refine a_iadd (pc := 1889) ok dL_law_1889 ?_
  refine a_sld (pc := 1890) ok sc dL_law_1890 (by omega) hL ?_
  refine a_aload_n (pc := 1891) ok dL_law_1891 rfl ?_
  refine a_iload (pc := 1892) ok dL_law_1892 rfl ?_
  refine a_iconst (pc := 1894) ok dL_law_1894 ?_
  refine a_iadd (pc := 1895) ok dL_law_1895 ?_
  refine a_sld (pc := 1896) ok sc dL_law_1896 (by omega) hL ?_
  refine a_callV (pc := 1897) ok [103, 105, 110, 111, 112, 113, 114, 115, 116, 117, 106, 104, 107, 108, 109, 118] dL_law_1897 mvL_224 miX7_ifCell (c_mifCell t.2.1 hB hI (xv_rg _ _) (xv_rg _ _) (xv_rg _ _) (xv_rg _ _)) ⟨by decide, by decide, rfl, rfl, (by show _ ≤ 601024; omega), (by show _ ≤ 7293034; omega)⟩ rfl rfl (Nat.le_of_ble_eq_true rfl) rfl (by decide) rfl rfl (fun _ _ h => WM_len h.2) ?_
  rintro _ M' ⟨rfl, hwm⟩
  obtain ⟨Bm', Im', mm', Fi', Co', Bq', Wt', mk', gy', S4', ea', sd2', rt2', lf2', wy2', sp', ou', rfl, hB', hI'⟩ := hwm
  refine AW.cast (st2 := [iv (w32 (if kIfC S3 (xv xs (i + 1)) (xv xs (i + 2)) (xv xs (i + 3)) (xv xs (i + 4)) = 0 then aIfC S3 (gP S3 (xv xs (i + 1)) (xv xs (i + 2)) (xv xs (i + 3))) (xv xs (i + 1)) (xv xs (i + 2)) (xv xs (i + 4)) else 0))]) (M2 := (lwW (kn') (nk') sz tx S ((ringP 7)) cnt nx σ ((slotP 95)) sv (c0') (r0') (m0') (ct') (B') (F') (Z') (Br') (Q') (Fo') (No') (Ho') (Mo') (In') (Sn') (Qn') (S2') (c1') (r1') (m1') (ct1') (B1') (F1') (Z1') (Br1') (Q1') (Fo1') (No1') (sd') (rt') (lf') (wy') (gb') P0 P1 (kIfC S3 (xv xs (i + 1)) (xv xs (i + 2)) (xv xs (i + 3)) (xv xs (i + 4))) S3 (S4') ac (Bm') (Im') (mm') (Fi') (Co') (Bq') (Wt') (mk') (gy') di ke ik (ea') (sd2') (rt2') (lf2') (wy2') (sp') (ou') (fo'))) ?_ rfl (congrArg (fun v : Value => [v]) (iv_w _)) rfl
  have hInv : INV (lwW (kn') (nk') sz tx S ((ringP 7)) cnt nx σ ((slotP 95)) sv (c0') (r0') (m0') (ct') (B') (F') (Z') (Br') (Q') (Fo') (No') (Ho') (Mo') (In') (Sn') (Qn') (S2') (c1') (r1') (m1') (ct1') (B1') (F1') (Z1') (Br1') (Q1') (Fo1') (No1') (sd') (rt') (lf') (wy') (gb') P0 P1 (kIfC S3 (xv xs (i + 1)) (xv xs (i + 2)) (xv xs (i + 3)) (xv xs (i + 4))) S3 (S4') ac (Bm') (Im') (mm') (Fi') (Co') (Bq') (Wt') (mk') (gy') di ke ik (ea') (sd2') (rt2') (lf2') (wy2') (sp') (ou') (fo')) := ⟨_, _, _, _, _, _, _, _, _, _, _, _, _, _, _, _, _, _, _, _, _, _, _, _, _, _, _, _, _, _, _, _, _, _, _, _, _, _, _, _, _, _, _, _, _, _, _, _, _, _, _, _, _, _, _, _, _, _, _, _, _, _, _, _, _, _, _, _, rfl, hcn', hr', hB', hI', t, hm, hk9, ht9⟩
  refine a_istore (pc := 1900) ok dL_law_1900 rfl (by rw [hN]; decide) ?_
  refine a_aload_n (pc := 1902) ok dL_law_1902 rfl ?_
  refine x_callVp (pc := 1903) ok [103, 104, 105, 106, 107, 108, 109, 110, 111, 112, 113, 114, 115, 116, 117, 118] 1 dL_law_1903 mvL_121 miX7_thrown (c_thrown) ⟨by decide, by decide, rfl, rfl, (by show _ ≤ 601024; omega), (by show _ ≤ 7293034; omega)⟩ rfl rfl (Nat.le_of_ble_eq_true rfl) rfl rfl (by decide) rfl rfl ?_
  refine a_iload (pc := 1906) ok dL_law_1906 rfl ?_
  refine a_icmp_eq (pc := 1908) (tgt := 1913) ok dL_law_1908 (by decide) (by first | exact hKr | (rw [eK]; exact hKr)) (by first | exact hKr | (rw [eK]; exact hKr)) (fun c1908 => ?_) (fun c1908 => ?_)
  · refine a_iload (pc := 1913) ok dL_law_1913 rfl ?_
    refine a_if_ne (pc := 1915) (tgt := 1930) ok dL_law_1915 (by decide) (by exact hKr) (fun c1915 => ?_) (fun c1915 => ?_)
    · refine a_goto (pc := 1930) (tgt := 2245) ok dL_law_1930 (by decide) ?_
      exact AW.forget (k _ hInv) (by repeat' (first | exact trivial | refine ⟨rfl, ?_⟩))
    · have h0 : kIfC S (xv xs (i + 1)) (xv xs (i + 2)) (xv xs (i + 3)) (xv xs (i + 4)) = 0 := by first | exact c1915 | omega
      have e1 := hfo h0
      have e2 : w32 (if kIfC S3 (xv xs (i + 1)) (xv xs (i + 2)) (xv xs (i + 3)) (xv xs (i + 4)) = 0 then aIfC S3 (gP S3 (xv xs (i + 1)) (xv xs (i + 2)) (xv xs (i + 3))) (xv xs (i + 1)) (xv xs (i + 2)) (xv xs (i + 4)) else 0) = w32 (aIfC S (gP S (xv xs (i + 1)) (xv xs (i + 2)) (xv xs (i + 3))) (xv xs (i + 1)) (xv xs (i + 2)) (xv xs (i + 4))) := by have q := eK.trans h0; have q2 := eA h0; rw [if_pos q, q2]
      refine a_aload_n (pc := 1918) ok dL_law_1918 rfl ?_
      refine a_iconst (pc := 1919) ok dL_law_1919 ?_
      refine a_lald (pc := 1920) ok dL_law_1920 (rfl) (by decide) (by omega) ?_
      refine a_iload (pc := 1921) ok dL_law_1921 rfl ?_
      refine a_i2l (pc := 1923) ok dL_law_1923 (by exact rg_w _) ?_
      refine a_lcmp (pc := 1924) ok dL_law_1924 (by first | (rw [e1]; exact rgL_w9 _) | exact rgL_w9 _) (by first | (rw [e1]; exact rgL_w9 _) | exact rgL_w9 _) (fun c1924 => ?_) (fun c1924 => ?_) (fun c1924 => ?_)
      · exfalso; rw [e1, e2] at c1924; exact absurd c1924 (Int.lt_irrefl _)
      · refine a_if_eq (pc := 1925) (tgt := 1930) ok dL_law_1925 (by decide) (by first | exact xv_rg _ _ | omega | (unfold rg; omega) | (simp only [rg] at *; omega) | exact bz_rg _ | grind [rg]) (fun c1925 => ?_) (fun c1925 => ?_)
        · refine a_goto (pc := 1930) (tgt := 2245) ok dL_law_1930 (by decide) ?_
          exact AW.forget (k _ hInv) (by repeat' (first | exact trivial | refine ⟨rfl, ?_⟩))
        · exact absurd rfl c1925
      · exfalso; rw [e1, e2] at c1924; exact absurd c1924 (Int.lt_irrefl _)
  · exact absurd eK c1908
end LC114
