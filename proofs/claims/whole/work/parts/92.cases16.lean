/-! THE LAW: its cases. Printed by wip/whole/gen/mk91.py. -/
section LC115
variable {kn : Int} {nk : Int} {sz : Int} {tx : Int → Int} {S : St} {cnt : Int} {nx : Int} {σ : Nat → St} {sv : Int → Int} {c0 : Int} {r0 : Int} {m0 : Int} {ct : Int} {B : Int → Int} {F : Int → Int} {Z : Int → Int} {Br : Int → Int} {Q : Int → Int} {Fo : Int → Int} {No : Int → Int} {Ho : Int → Int} {Mo : Int → Int} {In : Int → Int} {Sn : Int → Int} {Qn : Int → Int} {S2 : St} {c1 : Int} {r1 : Int} {m1 : Int} {ct1 : Int} {B1 : Int → Int} {F1 : Int → Int} {Z1 : Int → Int} {Br1 : Int → Int} {Q1 : Int → Int} {Fo1 : Int → Int} {No1 : Int → Int} {sd : Int} {rt : Int} {lf : Int} {wy : Int} {gb : Int → Int} {P0 : St} {P1 : St} {rf : Int} {S3 : St} {S4 : St} {ac : Int} {Bm : Int → Int} {Im : Int → Int} {mm : Int} {Fi : Int → Int} {Co : Int → Int} {Bq : Int → Int} {Wt : Int → Int} {mk : Int → Int} {gy : Int → Int} {di : Int → Int} {ke : Int → Int} {ik : Int → Int} {ea : Int → Int} {sd2 : Int} {rt2 : Int} {lf2 : Int} {wy2 : Int} {sp : Int} {ou : Int} {fo : Int → Int}
theorem cs_runScript {X : Cx} {b L : Nat} {xs : Nat → Int32} {i : Int} {kc ks : Nat} (ok : OKL X) (pre : PRE X b L xs i kc ks) (hcn : CN S kn nk c0 r0 m0 ct B F Z Fo No Ho Mo In) (hr : rwI B1 F1 Z1) (hB : ∀ i, 0 ≤ Bm i ∧ Bm i ≤ 5) (hI : ∀ i, rg (Im i)) (t : TW S S3) (hm : RM cnt nx σ ac di) (hk9 : RK P0 P1 sv ik ke) (ht9 : REt sz tx) (k : ∀ M, INV M → AW X (kc + 1) (ks + 6) 2245 [some (.ref 4095), some (.ref 0), some (.ref 103), some (.ref 119), some (iv i), none, none] [] M) :
    AW X kc ks 1933 [some (.ref 4095), some (.ref 0), some (.ref 103), some (.ref 119), some (iv i), none, none] [] (lwW kn nk sz tx S ((ringP 7)) cnt nx σ ((slotP 95)) sv c0 r0 m0 ct B F Z Br Q Fo No Ho Mo In Sn Qn S2 c1 r1 m1 ct1 B1 F1 Z1 Br1 Q1 Fo1 No1 sd rt lf wy gb P0 P1 rf S3 S4 ac Bm Im mm Fi Co Bq Wt mk gy di ke ik ea sd2 rt2 lf2 wy2 sp ou fo) := by
  obtain ⟨ex, hN, sc, hi, hL, hl, hkc, hks⟩ := pre
  have hc9 : 0 ≤ ac ∧ ac ≤ 14 := by rw [hm.2.2.1]; exact hm.1
  have eK : kRun (xv xs (i + 1)) (ll (xv xs (i + 2)) (xv xs (i + 3))) = kRun (xv xs (i + 1)) (ll (xv xs (i + 2)) (xv xs (i + 3))) := rfl
  have eA : kRun (xv xs (i + 1)) (ll (xv xs (i + 2)) (xv xs (i + 3))) = 0 → aRun S3 (xv xs (i + 1)) (ll (xv xs (i + 2)) (xv xs (i + 3))) = aRun S (xv xs (i + 1)) (ll (xv xs (i + 2)) (xv xs (i + 3))) := fun _ => aRun_E t.2.2 _ _
  have hKr : rg (kRun (xv xs (i + 1)) (ll (xv xs (i + 2)) (xv xs (i + 3)))) := by
    unfold kRun rg
    repeat' split
    all_goals omega
  refine a_aload_n (pc := 1933) ok dL_law_1933 rfl ?_
  refine a_aload_n (pc := 1934) ok dL_law_1934 rfl ?_
  refine a_iload (pc := 1935) ok dL_law_1935 rfl ?_
  refine a_iconst (pc := 1937) ok dL_law_1937 ?_
  refine a_iadd (pc := 1938) ok dL_law_1938 ?_
  refine a_sld (pc := 1939) ok sc dL_law_1939 (by omega) hL ?_
  refine a_aload_n (pc := 1940) ok dL_law_1940 rfl ?_
  refine a_iload (pc := 1941) ok dL_law_1941 rfl ?_
  refine a_iconst (pc := 1943) ok dL_law_1943 ?_
  refine a_iadd (pc := 1944) ok dL_law_1944 ?_
  refine a_sld (pc := 1945) ok sc dL_law_1945 (by omega) hL ?_
  refine a_i2l (pc := 1946) ok dL_law_1946 (by first | exact xv_rg _ _ | omega | (unfold rg; omega) | (simp only [rg] at *; omega) | exact bz_rg _ | grind [rg]) ?_
  refine a_bipush (pc := 1947) ok dL_law_1947 (by decide) ?_
  refine a_lshl (pc := 1949) ok dL_law_1949 ?_
  refine a_aload_n (pc := 1950) ok dL_law_1950 rfl ?_
  refine a_iload (pc := 1951) ok dL_law_1951 rfl ?_
  refine a_iconst (pc := 1953) ok dL_law_1953 ?_
  refine a_iadd (pc := 1954) ok dL_law_1954 ?_
  refine a_sld (pc := 1955) ok sc dL_law_1955 (by omega) hL ?_
  refine a_i2l (pc := 1956) ok dL_law_1956 (by first | exact xv_rg _ _ | omega | (unfold rg; omega) | (simp only [rg] at *; omega) | exact bz_rg _ | grind [rg]) ?_
  refine a_ldc2 (pc := 1957) (z := 4294967295) (v := Int64.ofInt 4294967295) ok dL_law_1957 (ug7 66 (by decide +kernel) rfl) rfl ?_
  refine a_land (pc := 1960) ok dL_law_1960 ?_
  refine a_lor (pc := 1961) ok dL_law_1961 ?_
  refine a_aload_n (pc := 1962) ok dL_law_1962 rfl ?_
  refine l_callS (pc := 1963) ok ex πL_U 19 dL_law_1963 (ug5 10 (by decide +kernel) rfl) (ug5 11 (by decide +kernel) rfl) miL_runScript (W_runScript (n := (xv xs (i + 1))) (x := (ll (xv xs (i + 2)) (xv xs (i + 3)))) hl t.1 hr (xv_rg _ _) (rgL_t _)) ⟨by decide, by decide, rfl, rfl⟩ ⟨hkc, hks⟩ rfl rfl (Nat.le_of_ble_eq_true rfl) rfl rfl nd_U (fun _ _ h => by obtain ⟨_, _, _, M9, hp, rfl⟩ := h; rw [wr_len (RU_len hp)]; rfl) ?_
  rintro _ M8 ⟨rfl, fo', hfo, M9, hp, rfl⟩
  obtain ⟨S2', c1', r1', m1', ct1', B1', F1', Z1', Br1', Q1', Fo1', No1', gb', rfl, hr'⟩ := hp
  refine AW.cast (st2 := [iv (kRun (xv xs (i + 1)) (ll (xv xs (i + 2)) (xv xs (i + 3))))]) (M2 := (lwW kn nk sz tx S ((ringP 7)) cnt nx σ ((slotP 95)) sv c0 r0 m0 ct B F Z Br Q Fo No Ho Mo In Sn Qn (S2') (c1') (r1') (m1') (ct1') (B1') (F1') (Z1') (Br1') (Q1') (Fo1') (No1') sd rt lf wy (gb') P0 P1 rf S3 S4 ac Bm Im mm Fi Co Bq Wt mk gy di ke ik ea sd2 rt2 lf2 wy2 sp ou (fo'))) ?_ rfl rfl rfl
  refine a_istore (pc := 1966) ok dL_law_1966 rfl (by rw [hN]; decide) ?_
  refine a_aload_n (pc := 1968) ok dL_law_1968 rfl ?_
  refine a_aload_n (pc := 1969) ok dL_law_1969 rfl ?_
  refine a_iload (pc := 1970) ok dL_law_1970 rfl ?_
  refine a_iconst (pc := 1972) ok dL_law_1972 ?_
  refine a_iadd (pc := 1973) ok dL_law_1973 ?_
  refine a_sld (pc := 1974) ok sc dL_law_1974 (by omega) hL ?_
  refine a_aload_n (pc := 1975) ok dL_law_1975 rfl ?_
  refine a_iload (pc := 1976) ok dL_law_1976 rfl ?_
  refine a_iconst (pc := 1978) ok dL_law_1978 ?_
  refine a_iadd (pc := 1979) ok dL_law_1979 ?_
  refine a_sld (pc := 1980) ok sc dL_law_1980 (by omega) hL ?_
  refine a_i2l (pc := 1981) ok dL_law_1981 (by first | exact xv_rg _ _ | omega | (unfold rg; omega) | (simp only [rg] at *; omega) | exact bz_rg _ | grind [rg]) ?_
  refine a_bipush (pc := 1982) ok dL_law_1982 (by decide) ?_
  refine a_lshl (pc := 1984) ok dL_law_1984 ?_
  refine a_aload_n (pc := 1985) ok dL_law_1985 rfl ?_
  refine a_iload (pc := 1986) ok dL_law_1986 rfl ?_
  refine a_iconst (pc := 1988) ok dL_law_1988 ?_
  refine a_iadd (pc := 1989) ok dL_law_1989 ?_
  refine a_sld (pc := 1990) ok sc dL_law_1990 (by omega) hL ?_
  refine a_i2l (pc := 1991) ok dL_law_1991 (by first | exact xv_rg _ _ | omega | (unfold rg; omega) | (simp only [rg] at *; omega) | exact bz_rg _ | grind [rg]) ?_
  refine a_ldc2 (pc := 1992) (z := 4294967295) (v := Int64.ofInt 4294967295) ok dL_law_1992 (ug7 66 (by decide +kernel) rfl) rfl ?_
  refine a_land (pc := 1995) ok dL_law_1995 ?_
  refine a_lor (pc := 1996) ok dL_law_1996 ?_
  refine a_callV (pc := 1997) ok [103, 105, 110, 111, 112, 113, 114, 115, 116, 117, 106, 104, 107, 108, 109, 118] dL_law_1997 mvL_228 miX7_runScript (c_mrunScript t.2.1 hB hI (xv_rg _ _) (rgL_t _)) ⟨by decide, by decide, rfl, rfl, (by show _ ≤ 601024; omega), (by show _ ≤ 7293034; omega)⟩ rfl rfl (Nat.le_of_ble_eq_true rfl) rfl (by decide) rfl rfl (fun _ _ h => WM_len h.2) ?_
  rintro _ M' ⟨rfl, hwm⟩
  obtain ⟨Bm', Im', mm', Fi', Co', Bq', Wt', mk', gy', S4', ea', sd2', rt2', lf2', wy2', sp', ou', rfl, hB', hI'⟩ := hwm
  refine AW.cast (st2 := [iv (w32 (if kRun (xv xs (i + 1)) (ll (xv xs (i + 2)) (xv xs (i + 3))) = 0 then aRun S3 (xv xs (i + 1)) (ll (xv xs (i + 2)) (xv xs (i + 3))) else 0))]) (M2 := (lwW kn nk sz tx S ((ringP 7)) cnt nx σ ((slotP 95)) sv c0 r0 m0 ct B F Z Br Q Fo No Ho Mo In Sn Qn (S2') (c1') (r1') (m1') (ct1') (B1') (F1') (Z1') (Br1') (Q1') (Fo1') (No1') sd rt lf wy (gb') P0 P1 (kRun (xv xs (i + 1)) (ll (xv xs (i + 2)) (xv xs (i + 3)))) S3 (S4') ac (Bm') (Im') (mm') (Fi') (Co') (Bq') (Wt') (mk') (gy') di ke ik (ea') (sd2') (rt2') (lf2') (wy2') (sp') (ou') (fo'))) ?_ rfl (congrArg (fun v : Value => [v]) (iv_w _)) rfl
  have hInv : INV (lwW kn nk sz tx S ((ringP 7)) cnt nx σ ((slotP 95)) sv c0 r0 m0 ct B F Z Br Q Fo No Ho Mo In Sn Qn (S2') (c1') (r1') (m1') (ct1') (B1') (F1') (Z1') (Br1') (Q1') (Fo1') (No1') sd rt lf wy (gb') P0 P1 (kRun (xv xs (i + 1)) (ll (xv xs (i + 2)) (xv xs (i + 3)))) S3 (S4') ac (Bm') (Im') (mm') (Fi') (Co') (Bq') (Wt') (mk') (gy') di ke ik (ea') (sd2') (rt2') (lf2') (wy2') (sp') (ou') (fo')) := ⟨_, _, _, _, _, _, _, _, _, _, _, _, _, _, _, _, _, _, _, _, _, _, _, _, _, _, _, _, _, _, _, _, _, _, _, _, _, _, _, _, _, _, _, _, _, _, _, _, _, _, _, _, _, _, _, _, _, _, _, _, _, _, _, _, _, _, _, _, rfl, hcn, hr', hB', hI', t, hm, hk9, ht9⟩
  refine a_istore (pc := 2000) ok dL_law_2000 rfl (by rw [hN]; decide) ?_
  refine a_aload_n (pc := 2002) ok dL_law_2002 rfl ?_
  refine x_callVp (pc := 2003) ok [103, 104, 105, 106, 107, 108, 109, 110, 111, 112, 113, 114, 115, 116, 117, 118] 1 dL_law_2003 mvL_121 miX7_thrown (c_thrown) ⟨by decide, by decide, rfl, rfl, (by show _ ≤ 601024; omega), (by show _ ≤ 7293034; omega)⟩ rfl rfl (Nat.le_of_ble_eq_true rfl) rfl rfl (by decide) rfl rfl ?_
  refine a_iload (pc := 2006) ok dL_law_2006 rfl ?_
  refine a_icmp_eq (pc := 2008) (tgt := 2013) ok dL_law_2008 (by decide) (by first | exact hKr | (rw [eK]; exact hKr)) (by first | exact hKr | (rw [eK]; exact hKr)) (fun c2008 => ?_) (fun c2008 => ?_)
  · refine a_iload (pc := 2013) ok dL_law_2013 rfl ?_
    refine a_if_ne (pc := 2015) (tgt := 2030) ok dL_law_2015 (by decide) (by exact hKr) (fun c2015 => ?_) (fun c2015 => ?_)
    · refine a_goto (pc := 2030) (tgt := 2245) ok dL_law_2030 (by decide) ?_
      exact AW.forget (k _ hInv) (by repeat' (first | exact trivial | refine ⟨rfl, ?_⟩))
    · have h0 : kRun (xv xs (i + 1)) (ll (xv xs (i + 2)) (xv xs (i + 3))) = 0 := by first | exact c2015 | omega
      have e1 := hfo h0
      have e2 : w32 (if kRun (xv xs (i + 1)) (ll (xv xs (i + 2)) (xv xs (i + 3))) = 0 then aRun S3 (xv xs (i + 1)) (ll (xv xs (i + 2)) (xv xs (i + 3))) else 0) = w32 (aRun S (xv xs (i + 1)) (ll (xv xs (i + 2)) (xv xs (i + 3)))) := by have q := eK.trans h0; have q2 := eA h0; rw [if_pos q, q2]
      refine a_aload_n (pc := 2018) ok dL_law_2018 rfl ?_
      refine a_iconst (pc := 2019) ok dL_law_2019 ?_
      refine a_lald (pc := 2020) ok dL_law_2020 (rfl) (by decide) (by omega) ?_
      refine a_iload (pc := 2021) ok dL_law_2021 rfl ?_
      refine a_i2l (pc := 2023) ok dL_law_2023 (by exact rg_w _) ?_
      refine a_lcmp (pc := 2024) ok dL_law_2024 (by first | (rw [e1]; exact rgL_w9 _) | exact rgL_w9 _) (by first | (rw [e1]; exact rgL_w9 _) | exact rgL_w9 _) (fun c2024 => ?_) (fun c2024 => ?_) (fun c2024 => ?_)
      · exfalso; rw [e1, e2] at c2024; exact absurd c2024 (Int.lt_irrefl _)
      · refine a_if_eq (pc := 2025) (tgt := 2030) ok dL_law_2025 (by decide) (by first | exact xv_rg _ _ | omega | (unfold rg; omega) | (simp only [rg] at *; omega) | exact bz_rg _ | grind [rg]) (fun c2025 => ?_) (fun c2025 => ?_)
        · refine a_goto (pc := 2030) (tgt := 2245) ok dL_law_2030 (by decide) ?_
          exact AW.forget (k _ hInv) (by repeat' (first | exact trivial | refine ⟨rfl, ?_⟩))
        · exact absurd rfl c2025
      · exfalso; rw [e1, e2] at c2024; exact absurd c2024 (Int.lt_irrefl _)
  · exact absurd eK c2008
theorem cs_simulate {X : Cx} {b L : Nat} {xs : Nat → Int32} {i : Int} {kc ks : Nat} (ok : OKL X) (pre : PRE X b L xs i kc ks) (hcn : CN S kn nk c0 r0 m0 ct B F Z Fo No Ho Mo In) (hr : rwI B1 F1 Z1) (hB : ∀ i, 0 ≤ Bm i ∧ Bm i ≤ 5) (hI : ∀ i, rg (Im i)) (t : TW S S3) (hm : RM cnt nx σ ac di) (hk9 : RK P0 P1 sv ik ke) (ht9 : REt sz tx) (k : ∀ M, INV M → AW X (kc + 1) (ks + 6) 2245 [some (.ref 4095), some (.ref 0), some (.ref 103), some (.ref 119), some (iv i), none, none] [] M) :
    AW X kc ks 2033 [some (.ref 4095), some (.ref 0), some (.ref 103), some (.ref 119), some (iv i), none, none] [] (lwW kn nk sz tx S ((ringP 7)) cnt nx σ ((slotP 95)) sv c0 r0 m0 ct B F Z Br Q Fo No Ho Mo In Sn Qn S2 c1 r1 m1 ct1 B1 F1 Z1 Br1 Q1 Fo1 No1 sd rt lf wy gb P0 P1 rf S3 S4 ac Bm Im mm Fi Co Bq Wt mk gy di ke ik ea sd2 rt2 lf2 wy2 sp ou fo) := by
  obtain ⟨ex, hN, sc, hi, hL, hl, hkc, hks⟩ := pre
  have hc9 : 0 ≤ ac ∧ ac ≤ 14 := by rw [hm.2.2.1]; exact hm.1
  have eK : kIn (xv xs (i + 3)) 1 60 = kIn (xv xs (i + 3)) 1 60 := rfl
  have eA : kIn (xv xs (i + 3)) 1 60 = 0 → aSim (siK S3 (ll (xv xs (i + 1)) (xv xs (i + 2))) (xv xs (i + 3)).toNat) = aSim (siK S (ll (xv xs (i + 1)) (xv xs (i + 2))) (xv xs (i + 3)).toNat) := fun _ => aSim_E (StE_siK t.2.2 _ _)
  have hKr : rg (kIn (xv xs (i + 3)) 1 60) := by
    unfold kIn rg
    repeat' split
    all_goals omega
  refine a_aload_n (pc := 2033) ok dL_law_2033 rfl ?_
  refine a_aload_n (pc := 2034) ok dL_law_2034 rfl ?_
  refine a_iload (pc := 2035) ok dL_law_2035 rfl ?_
  refine a_iconst (pc := 2037) ok dL_law_2037 ?_
  refine a_iadd (pc := 2038) ok dL_law_2038 ?_
  refine a_sld (pc := 2039) ok sc dL_law_2039 (by omega) hL ?_
  refine a_i2l (pc := 2040) ok dL_law_2040 (by first | exact xv_rg _ _ | omega | (unfold rg; omega) | (simp only [rg] at *; omega) | exact bz_rg _ | grind [rg]) ?_
  refine a_bipush (pc := 2041) ok dL_law_2041 (by decide) ?_
  refine a_lshl (pc := 2043) ok dL_law_2043 ?_
  refine a_aload_n (pc := 2044) ok dL_law_2044 rfl ?_
  refine a_iload (pc := 2045) ok dL_law_2045 rfl ?_
  refine a_iconst (pc := 2047) ok dL_law_2047 ?_
  refine a_iadd (pc := 2048) ok dL_law_2048 ?_
  refine a_sld (pc := 2049) ok sc dL_law_2049 (by omega) hL ?_
  refine a_i2l (pc := 2050) ok dL_law_2050 (by first | exact xv_rg _ _ | omega | (unfold rg; omega) | (simp only [rg] at *; omega) | exact bz_rg _ | grind [rg]) ?_
  refine a_ldc2 (pc := 2051) (z := 4294967295) (v := Int64.ofInt 4294967295) ok dL_law_2051 (ug7 66 (by decide +kernel) rfl) rfl ?_
  refine a_land (pc := 2054) ok dL_law_2054 ?_
  refine a_lor (pc := 2055) ok dL_law_2055 ?_
  refine a_aload_n (pc := 2056) ok dL_law_2056 rfl ?_
  refine a_iload (pc := 2057) ok dL_law_2057 rfl ?_
  refine a_iconst (pc := 2059) ok dL_law_2059 ?_
  refine a_iadd (pc := 2060) ok dL_law_2060 ?_
  refine a_sld (pc := 2061) ok sc dL_law_2061 (by omega) hL ?_
  refine a_aload_n (pc := 2062) ok dL_law_2062 rfl ?_
  refine l_callS (pc := 2063) ok ex πL_U 19 dL_law_2063 (ug5 30 (by decide +kernel) rfl) (ug5 31 (by decide +kernel) rfl) miL_simulate (W_simulate (x := (ll (xv xs (i + 1)) (xv xs (i + 2)))) (n := (xv xs (i + 3))) hl t.1 hr (xv_rg _ _)) ⟨by decide, by decide, rfl, rfl⟩ ⟨hkc, hks⟩ rfl rfl (Nat.le_of_ble_eq_true rfl) rfl rfl nd_U (fun _ _ h => by obtain ⟨_, _, _, M9, hp, rfl⟩ := h; rw [wr_len (RU_len hp)]; rfl) ?_
  rintro _ M8 ⟨rfl, fo', hfo, M9, hp, rfl⟩
  obtain ⟨S2', c1', r1', m1', ct1', B1', F1', Z1', Br1', Q1', Fo1', No1', gb', rfl, hr'⟩ := hp
  refine AW.cast (st2 := [iv (kIn (xv xs (i + 3)) 1 60)]) (M2 := (lwW kn nk sz tx S ((ringP 7)) cnt nx σ ((slotP 95)) sv c0 r0 m0 ct B F Z Br Q Fo No Ho Mo In Sn Qn (S2') (c1') (r1') (m1') (ct1') (B1') (F1') (Z1') (Br1') (Q1') (Fo1') (No1') sd rt lf wy (gb') P0 P1 rf S3 S4 ac Bm Im mm Fi Co Bq Wt mk gy di ke ik ea sd2 rt2 lf2 wy2 sp ou (fo'))) ?_ rfl rfl rfl
  refine a_istore (pc := 2066) ok dL_law_2066 rfl (by rw [hN]; decide) ?_
  refine a_aload_n (pc := 2068) ok dL_law_2068 rfl ?_
  refine a_aload_n (pc := 2069) ok dL_law_2069 rfl ?_
  refine a_iload (pc := 2070) ok dL_law_2070 rfl ?_
  refine a_iconst (pc := 2072) ok dL_law_2072 ?_
  refine a_iadd (pc := 2073) ok dL_law_2073 ?_
  refine a_sld (pc := 2074) ok sc dL_law_2074 (by omega) hL ?_
  refine a_i2l (pc := 2075) ok dL_law_2075 (by first | exact xv_rg _ _ | omega | (unfold rg; omega) | (simp only [rg] at *; omega) | exact bz_rg _ | grind [rg]) ?_
  refine a_bipush (pc := 2076) ok dL_law_2076 (by decide) ?_
  refine a_lshl (pc := 2078) ok dL_law_2078 ?_
  refine a_aload_n (pc := 2079) ok dL_law_2079 rfl ?_
  refine a_iload (pc := 2080) ok dL_law_2080 rfl ?_
  refine a_iconst (pc := 2082) ok dL_law_2082 ?_
  refine a_iadd (pc := 2083) ok dL_law_2083 ?_
  refine a_sld (pc := 2084) ok sc dL_law_2084 (by omega) hL ?_
  refine a_i2l (pc := 2085) ok dL_law_2085 (by first | exact xv_rg _ _ | omega | (unfold rg; omega) | (simp only [rg] at *; omega) | exact bz_rg _ | grind [rg]) ?_
  refine a_ldc2 (pc := 2086) (z := 4294967295) (v := Int64.ofInt 4294967295) ok dL_law_2086 (ug7 66 (by decide +kernel) rfl) rfl ?_
  refine a_land (pc := 2089) ok dL_law_2089 ?_
  refine a_lor (pc := 2090) ok dL_law_2090 ?_
  refine a_aload_n (pc := 2091) ok dL_law_2091 rfl ?_
  refine a_iload (pc := 2092) ok dL_law_2092 rfl ?_
  refine a_iconst (pc := 2094) ok dL_law_2094 ?_
  refine a_iadd (pc := 2095) ok dL_law_2095 ?_
  refine a_sld (pc := 2096) ok sc dL_law_2096 (by omega) hL ?_
  refine a_callV (pc := 2097) ok [103, 105, 110, 111, 112, 113, 114, 115, 116, 117, 106, 104, 107, 108, 109, 118] dL_law_2097 mvL_231 miX7_simulate (c_msimulate t.2.1 hB hI (xv_rg _ _)) ⟨by decide, by decide, rfl, rfl, (by show _ ≤ 601024; omega), (by show _ ≤ 7293034; omega)⟩ rfl rfl (Nat.le_of_ble_eq_true rfl) rfl (by decide) rfl rfl (fun _ _ h => WM_len h.2) ?_
  rintro _ M' ⟨rfl, hwm⟩
  obtain ⟨Bm', Im', mm', Fi', Co', Bq', Wt', mk', gy', S4', ea', sd2', rt2', lf2', wy2', sp', ou', rfl, hB', hI'⟩ := hwm
  refine AW.cast (st2 := [iv (w32 (if kIn (xv xs (i + 3)) 1 60 = 0 then aSim (siK S3 (ll (xv xs (i + 1)) (xv xs (i + 2))) (xv xs (i + 3)).toNat) else 0))]) (M2 := (lwW kn nk sz tx S ((ringP 7)) cnt nx σ ((slotP 95)) sv c0 r0 m0 ct B F Z Br Q Fo No Ho Mo In Sn Qn (S2') (c1') (r1') (m1') (ct1') (B1') (F1') (Z1') (Br1') (Q1') (Fo1') (No1') sd rt lf wy (gb') P0 P1 (kIn (xv xs (i + 3)) 1 60) S3 (S4') ac (Bm') (Im') (mm') (Fi') (Co') (Bq') (Wt') (mk') (gy') di ke ik (ea') (sd2') (rt2') (lf2') (wy2') (sp') (ou') (fo'))) ?_ rfl (congrArg (fun v : Value => [v]) (iv_w _)) rfl
  have hInv : INV (lwW kn nk sz tx S ((ringP 7)) cnt nx σ ((slotP 95)) sv c0 r0 m0 ct B F Z Br Q Fo No Ho Mo In Sn Qn (S2') (c1') (r1') (m1') (ct1') (B1') (F1') (Z1') (Br1') (Q1') (Fo1') (No1') sd rt lf wy (gb') P0 P1 (kIn (xv xs (i + 3)) 1 60) S3 (S4') ac (Bm') (Im') (mm') (Fi') (Co') (Bq') (Wt') (mk') (gy') di ke ik (ea') (sd2') (rt2') (lf2') (wy2') (sp') (ou') (fo')) := ⟨_, _, _, _, _, _, _, _, _, _, _, _, _, _, _, _, _, _, _, _, _, _, _, _, _, _, _, _, _, _, _, _, _, _, _, _, _, _, _, _, _, _, _, _, _, _, _, _, _, _, _, _, _, _, _, _, _, _, _, _, _, _, _, _, _, _, _, _, rfl, hcn, hr', hB', hI', t, hm, hk9, ht9⟩
  refine a_istore (pc := 2100) ok dL_law_2100 rfl (by rw [hN]; decide) ?_
  refine a_aload_n (pc := 2102) ok dL_law_2102 rfl ?_
  refine x_callVp (pc := 2103) ok [103, 104, 105, 106, 107, 108, 109, 110, 111, 112, 113, 114, 115, 116, 117, 118] 1 dL_law_2103 mvL_121 miX7_thrown (c_thrown) ⟨by decide, by decide, rfl, rfl, (by show _ ≤ 601024; omega), (by show _ ≤ 7293034; omega)⟩ rfl rfl (Nat.le_of_ble_eq_true rfl) rfl rfl (by decide) rfl rfl ?_
  refine a_iload (pc := 2106) ok dL_law_2106 rfl ?_
  refine a_icmp_eq (pc := 2108) (tgt := 2113) ok dL_law_2108 (by decide) (by first | exact hKr | (rw [eK]; exact hKr)) (by first | exact hKr | (rw [eK]; exact hKr)) (fun c2108 => ?_) (fun c2108 => ?_)
  · refine a_iload (pc := 2113) ok dL_law_2113 rfl ?_
    refine a_if_ne (pc := 2115) (tgt := 2130) ok dL_law_2115 (by decide) (by exact hKr) (fun c2115 => ?_) (fun c2115 => ?_)
    · refine a_goto (pc := 2130) (tgt := 2245) ok dL_law_2130 (by decide) ?_
      exact AW.forget (k _ hInv) (by repeat' (first | exact trivial | refine ⟨rfl, ?_⟩))
    · have h0 : kIn (xv xs (i + 3)) 1 60 = 0 := by first | exact c2115 | omega
      have e1 := hfo h0
      have e2 : w32 (if kIn (xv xs (i + 3)) 1 60 = 0 then aSim (siK S3 (ll (xv xs (i + 1)) (xv xs (i + 2))) (xv xs (i + 3)).toNat) else 0) = w32 (aSim (siK S (ll (xv xs (i + 1)) (xv xs (i + 2))) (xv xs (i + 3)).toNat)) := by have q := eK.trans h0; have q2 := eA h0; rw [if_pos q, q2]
      refine a_aload_n (pc := 2118) ok dL_law_2118 rfl ?_
      refine a_iconst (pc := 2119) ok dL_law_2119 ?_
      refine a_lald (pc := 2120) ok dL_law_2120 (rfl) (by decide) (by omega) ?_
      refine a_iload (pc := 2121) ok dL_law_2121 rfl ?_
      refine a_i2l (pc := 2123) ok dL_law_2123 (by exact rg_w _) ?_
      refine a_lcmp (pc := 2124) ok dL_law_2124 (by first | (rw [e1]; exact rgL_w9 _) | exact rgL_w9 _) (by first | (rw [e1]; exact rgL_w9 _) | exact rgL_w9 _) (fun c2124 => ?_) (fun c2124 => ?_) (fun c2124 => ?_)
      · exfalso; rw [e1, e2] at c2124; exact absurd c2124 (Int.lt_irrefl _)
      · refine a_if_eq (pc := 2125) (tgt := 2130) ok dL_law_2125 (by decide) (by first | exact xv_rg _ _ | omega | (unfold rg; omega) | (simp only [rg] at *; omega) | exact bz_rg _ | grind [rg]) (fun c2125 => ?_) (fun c2125 => ?_)
        · refine a_goto (pc := 2130) (tgt := 2245) ok dL_law_2130 (by decide) ?_
          exact AW.forget (k _ hInv) (by repeat' (first | exact trivial | refine ⟨rfl, ?_⟩))
        · exact absurd rfl c2125
      · exfalso; rw [e1, e2] at c2124; exact absurd c2124 (Int.lt_irrefl _)
  · exact absurd eK c2108
end LC115
