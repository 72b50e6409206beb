/-! THE LAW: its cases. Printed by wip/whole/gen/mk91.py. -/
section LC116
variable {kn : Int} {nk : Int} {sz : Int} {tx : Int → Int} {S : St} {cnt : Int} {nx : Int} {σ : Nat → St} {sv : Int → Int} {c0 : Int} {r0 : Int} {m0 : Int} {ct : Int} {B : Int → Int} {F : Int → Int} {Z : Int → Int} {Br : Int → Int} {Q : Int → Int} {Fo : Int → Int} {No : Int → Int} {Ho : Int → Int} {Mo : Int → Int} {In : Int → Int} {Sn : Int → Int} {Qn : Int → Int} {S2 : St} {c1 : Int} {r1 : Int} {m1 : Int} {ct1 : Int} {B1 : Int → Int} {F1 : Int → Int} {Z1 : Int → Int} {Br1 : Int → Int} {Q1 : Int → Int} {Fo1 : Int → Int} {No1 : Int → Int} {sd : Int} {rt : Int} {lf : Int} {wy : Int} {gb : Int → Int} {P0 : St} {P1 : St} {rf : Int} {S3 : St} {S4 : St} {ac : Int} {Bm : Int → Int} {Im : Int → Int} {mm : Int} {Fi : Int → Int} {Co : Int → Int} {Bq : Int → Int} {Wt : Int → Int} {mk : Int → Int} {gy : Int → Int} {di : Int → Int} {ke : Int → Int} {ik : Int → Int} {ea : Int → Int} {sd2 : Int} {rt2 : Int} {lf2 : Int} {wy2 : Int} {sp : Int} {ou : Int} {fo : Int → Int}
theorem cs_save {X : Cx} {b L : Nat} {xs : Nat → Int32} {i : Int} {kc ks : Nat} (ok : OKL X) (pre : PRE X b L xs i kc ks) (hcn : CN S kn nk c0 r0 m0 ct B F Z Fo No Ho Mo In) (hr : rwI B1 F1 Z1) (hB : ∀ i, 0 ≤ Bm i ∧ Bm i ≤ 5) (hI : ∀ i, rg (Im i)) (t : TW S S3) (hm : RM cnt nx σ ac di) (hk9 : RK P0 P1 sv ik ke) (ht9 : REt sz tx) (k : ∀ M, INV M → AW X (kc + 1) (ks + 6) 2245 [some (.ref 4095), some (.ref 0), some (.ref 103), some (.ref 119), some (iv i), none, none] [] M) :
    AW X kc ks 2133 [some (.ref 4095), some (.ref 0), some (.ref 103), some (.ref 119), some (iv i), none, none] [] (lwW kn nk sz tx S ((ringP 7)) cnt nx σ ((slotP 95)) sv c0 r0 m0 ct B F Z Br Q Fo No Ho Mo In Sn Qn S2 c1 r1 m1 ct1 B1 F1 Z1 Br1 Q1 Fo1 No1 sd rt lf wy gb P0 P1 rf S3 S4 ac Bm Im mm Fi Co Bq Wt mk gy di ke ik ea sd2 rt2 lf2 wy2 sp ou fo) := by
  obtain ⟨ex, hN, sc, hi, hL, hl, hkc, hks⟩ := pre
  have hc9 : 0 ≤ ac ∧ ac ≤ 14 := by rw [hm.2.2.1]; exact hm.1
  refine AW.cast (M2 := (lwW kn nk sz tx S ((ringP 7)) cnt nx σ (ρS) sv c0 r0 m0 ct B F Z Br Q Fo No Ho Mo In Sn Qn S2 c1 r1 m1 ct1 B1 F1 Z1 Br1 Q1 Fo1 No1 sd rt lf wy gb P0 P1 rf S3 S4 ac Bm Im mm Fi Co Bq Wt mk gy di ke ik ea sd2 rt2 lf2 wy2 sp ou fo)) ?_ rfl rfl (by rw [ρS_eq])
  have eK : kIn (xv xs (i + 1)) 0 1 = kIn (xv xs (i + 1)) 0 1 := rfl
  have eA : kIn (xv xs (i + 1)) 0 1 = 0 → sumK (sG S3) (sC S3 * sR S3).toNat = sumK (sG S) (sC S * sR S).toNat := fun _ => by rw [← t.2.2.1, ← t.2.2.2.1, ← t.2.2.2.2.1]
  have hKr : rg (kIn (xv xs (i + 1)) 0 1) := by
    unfold kIn rg
    repeat' split
    all_goals omega
  refine a_aload_n (pc := 2133) ok dL_law_2133 rfl ?_
  refine a_aload_n (pc := 2134) ok dL_law_2134 rfl ?_
  refine a_iload (pc := 2135) ok dL_law_2135 rfl ?_
  refine a_iconst (pc := 2137) ok dL_law_2137 ?_
  refine a_iadd (pc := 2138) ok dL_law_2138 ?_
  refine a_sld (pc := 2139) ok sc dL_law_2139 (by omega) hL ?_
  refine a_aload_n (pc := 2140) ok dL_law_2140 rfl ?_
  refine l_callS (pc := 2141) ok ex πL_S 17 dL_law_2141 (ug5 43 (by decide +kernel) rfl) (ug5 44 (by decide +kernel) rfl) miL_save (W_save (v := (xv xs (i + 1))) hl t.1 (xv_rg _ _)) ⟨by decide, by decide, rfl, rfl⟩ ⟨hkc, hks⟩ rfl rfl (Nat.le_of_ble_eq_true rfl) rfl rfl nd_S (fun _ _ h => by obtain ⟨_, _, _, M9, rfl, rfl⟩ := h; rfl) ?_
  rintro _ M8 ⟨rfl, fo', hfo, M9, hp, rfl⟩
  subst hp
  refine AW.cast (st2 := [iv (kIn (xv xs (i + 1)) 0 1)]) (M2 := (lwW kn nk sz tx S ((ringP 7)) cnt nx σ (ρS) (if kIn (xv xs (i + 1)) 0 1 = 0 then up sv (xv xs (i + 1)) 1 else sv) c0 r0 m0 ct B F Z Br Q Fo No Ho Mo In Sn Qn S2 c1 r1 m1 ct1 B1 F1 Z1 Br1 Q1 Fo1 No1 sd rt lf wy gb (if kIn (xv xs (i + 1)) 0 1 = 0 then (if (xv xs (i + 1)) = 0 then S else P0) else P0) (if kIn (xv xs (i + 1)) 0 1 = 0 then (if (xv xs (i + 1)) = 0 then P1 else S) else P1) rf S3 S4 ac Bm Im mm Fi Co Bq Wt mk gy di ke ik ea sd2 rt2 lf2 wy2 sp ou (fo'))) ?_ rfl rfl rfl
  refine AW.cast (M2 := (lwW kn nk sz tx S ((ringP 7)) cnt nx σ ((slotP 95)) (if kIn (xv xs (i + 1)) 0 1 = 0 then up sv (xv xs (i + 1)) 1 else sv) c0 r0 m0 ct B F Z Br Q Fo No Ho Mo In Sn Qn S2 c1 r1 m1 ct1 B1 F1 Z1 Br1 Q1 Fo1 No1 sd rt lf wy gb (if kIn (xv xs (i + 1)) 0 1 = 0 then (if (xv xs (i + 1)) = 0 then S else P0) else P0) (if kIn (xv xs (i + 1)) 0 1 = 0 then (if (xv xs (i + 1)) = 0 then P1 else S) else P1) rf S3 S4 ac Bm Im mm Fi Co Bq Wt mk gy di ke ik ea sd2 rt2 lf2 wy2 sp ou (fo'))) ?_ rfl rfl (by rw [ρS_eq])
  refine a_istore (pc := 2144) ok dL_law_2144 rfl (by rw [hN]; decide) ?_
  refine a_aload_n (pc := 2146) ok dL_law_2146 rfl ?_
  refine a_aload_n (pc := 2147) ok dL_law_2147 rfl ?_
  refine a_iload (pc := 2148) ok dL_law_2148 rfl ?_
  refine a_iconst (pc := 2150) ok dL_law_2150 ?_
  refine a_iadd (pc := 2151) ok dL_law_2151 ?_
  refine a_sld (pc := 2152) ok sc dL_law_2152 (by omega) hL ?_
  refine a_callV (pc := 2153) ok [103, 105, 110, 111, 112, 113, 114, 115, 116, 117, 106, 104, 107, 108, 109, 118] dL_law_2153 mvL_234 miX7_save (c_msave t.2.1 hB hI (xv_rg _ _)) ⟨by decide, by decide, rfl, rfl, (by show _ ≤ 601024; omega), (by show _ ≤ 7293034; omega)⟩ rfl rfl (Nat.le_of_ble_eq_true rfl) rfl (by decide) rfl rfl (fun _ _ h => WM_len h.2) ?_
  rintro _ M' ⟨rfl, hwm⟩
  obtain ⟨Bm', Im', mm', Fi', Co', Bq', Wt', mk', gy', S4', ea', sd2', rt2', lf2', wy2', sp', ou', rfl, hB', hI'⟩ := hwm
  refine AW.cast (st2 := [iv (w32 (if kIn (xv xs (i + 1)) 0 1 = 0 then sumK (sG S3) (sC S3 * sR S3).toNat else 0))]) (M2 := (lwW kn nk sz tx S ((ringP 7)) cnt nx σ ((slotP 95)) (if kIn (xv xs (i + 1)) 0 1 = 0 then up sv (xv xs (i + 1)) 1 else sv) c0 r0 m0 ct B F Z Br Q Fo No Ho Mo In Sn Qn S2 c1 r1 m1 ct1 B1 F1 Z1 Br1 Q1 Fo1 No1 sd rt lf wy gb (if kIn (xv xs (i + 1)) 0 1 = 0 then (if (xv xs (i + 1)) = 0 then S else P0) else P0) (if kIn (xv xs (i + 1)) 0 1 = 0 then (if (xv xs (i + 1)) = 0 then P1 else S) else P1) (kIn (xv xs (i + 1)) 0 1) S3 (S4') ac (Bm') (Im') (mm') (Fi') (Co') (Bq') (Wt') (mk') (gy') di (if kIn (xv xs (i + 1)) 0 1 = 0 then kP2 S3 ke (xv xs (i + 1)) else ke) (if kIn (xv xs (i + 1)) 0 1 = 0 then up ik (xv xs (i + 1)) 1 else ik) (ea') (sd2') (rt2') (lf2') (wy2') (sp') (ou') (fo'))) ?_ rfl (congrArg (fun v : Value => [v]) (iv_w _)) rfl
  have hX : RK (if kIn (xv xs (i + 1)) 0 1 = 0 then (if (xv xs (i + 1)) = 0 then S else P0) else P0) (if kIn (xv xs (i + 1)) 0 1 = 0 then (if (xv xs (i + 1)) = 0 then P1 else S) else P1) (if kIn (xv xs (i + 1)) 0 1 = 0 then up sv (xv xs (i + 1)) 1 else sv) (if kIn (xv xs (i + 1)) 0 1 = 0 then up ik (xv xs (i + 1)) 1 else ik) (if kIn (xv xs (i + 1)) 0 1 = 0 then kP2 S3 ke (xv xs (i + 1)) else ke) := by
    by_cases z : kIn (xv xs (i + 1)) 0 1 = 0
    · simp only [if_pos z]
      exact RK_save hk9 t (kIn_0 z)
    · simp only [if_neg z]
      exact hk9
  have hInv : INV (lwW kn nk sz tx S ((ringP 7)) cnt nx σ ((slotP 95)) (if kIn (xv xs (i + 1)) 0 1 = 0 then up sv (xv xs (i + 1)) 1 else sv) c0 r0 m0 ct B F Z Br Q Fo No Ho Mo In Sn Qn S2 c1 r1 m1 ct1 B1 F1 Z1 Br1 Q1 Fo1 No1 sd rt lf wy gb (if kIn (xv xs (i + 1)) 0 1 = 0 then (if (xv xs (i + 1)) = 0 then S else P0) else P0) (if kIn (xv xs (i + 1)) 0 1 = 0 then (if (xv xs (i + 1)) = 0 then P1 else S) else P1) (kIn (xv xs (i + 1)) 0 1) S3 (S4') ac (Bm') (Im') (mm') (Fi') (Co') (Bq') (Wt') (mk') (gy') di (if kIn (xv xs (i + 1)) 0 1 = 0 then kP2 S3 ke (xv xs (i + 1)) else ke) (if kIn (xv xs (i + 1)) 0 1 = 0 then up ik (xv xs (i + 1)) 1 else ik) (ea') (sd2') (rt2') (lf2') (wy2') (sp') (ou') (fo')) := ⟨_, _, _, _, _, _, _, _, _, _, _, _, _, _, _, _, _, _, _, _, _, _, _, _, _, _, _, _, _, _, _, _, _, _, _, _, _, _, _, _, _, _, _, _, _, _, _, _, _, _, _, _, _, _, _, _, _, _, _, _, _, _, _, _, _, _, _, _, rfl, hcn, hr, hB', hI', t, hm, hX, ht9⟩
  refine a_istore (pc := 2156) ok dL_law_2156 rfl (by rw [hN]; decide) ?_
  refine a_aload_n (pc := 2158) ok dL_law_2158 rfl ?_
  refine x_callVp (pc := 2159) ok [103, 104, 105, 106, 107, 108, 109, 110, 111, 112, 113, 114, 115, 116, 117, 118] 1 dL_law_2159 mvL_121 miX7_thrown (c_thrown) ⟨by decide, by decide, rfl, rfl, (by show _ ≤ 601024; omega), (by show _ ≤ 7293034; omega)⟩ rfl rfl (Nat.le_of_ble_eq_true rfl) rfl rfl (by decide) rfl rfl ?_
  refine a_iload (pc := 2162) ok dL_law_2162 rfl ?_
  refine a_icmp_eq (pc := 2164) (tgt := 2169) ok dL_law_2164 (by decide) (by first | exact hKr | (rw [eK]; exact hKr)) (by first | exact hKr | (rw [eK]; exact hKr)) (fun c2164 => ?_) (fun c2164 => ?_)
  · refine a_iload (pc := 2169) ok dL_law_2169 rfl ?_
    refine a_if_ne (pc := 2171) (tgt := 2186) ok dL_law_2171 (by decide) (by exact hKr) (fun c2171 => ?_) (fun c2171 => ?_)
    · refine a_goto (pc := 2186) (tgt := 2245) ok dL_law_2186 (by decide) ?_
      exact AW.forget (k _ hInv) (by repeat' (first | exact trivial | refine ⟨rfl, ?_⟩))
    · have h0 : kIn (xv xs (i + 1)) 0 1 = 0 := by first | exact c2171 | omega
      have e1 := hfo h0
      have e2 : w32 (if kIn (xv xs (i + 1)) 0 1 = 0 then sumK (sG S3) (sC S3 * sR S3).toNat else 0) = w32 (sumK (sG S) (sC S * sR S).toNat) := by have q := eK.trans h0; have q2 := eA h0; rw [if_pos q, q2]
      refine a_aload_n (pc := 2174) ok dL_law_2174 rfl ?_
      refine a_iconst (pc := 2175) ok dL_law_2175 ?_
      refine a_lald (pc := 2176) ok dL_law_2176 (rfl) (by decide) (by omega) ?_
      refine a_iload (pc := 2177) ok dL_law_2177 rfl ?_
      refine a_i2l (pc := 2179) ok dL_law_2179 (by exact rg_w _) ?_
      refine a_lcmp (pc := 2180) ok dL_law_2180 (by first | (rw [e1]; exact rgL_w9 _) | exact rgL_w9 _) (by first | (rw [e1]; exact rgL_w9 _) | exact rgL_w9 _) (fun c2180 => ?_) (fun c2180 => ?_) (fun c2180 => ?_)
      · exfalso; rw [e1, e2] at c2180; exact absurd c2180 (Int.lt_irrefl _)
      · refine a_if_eq (pc := 2181) (tgt := 2186) ok dL_law_2181 (by decide) (by first | exact xv_rg _ _ | omega | (unfold rg; omega) | (simp only [rg] at *; omega) | exact bz_rg _ | grind [rg]) (fun c2181 => ?_) (fun c2181 => ?_)
        · refine a_goto (pc := 2186) (tgt := 2245) ok dL_law_2186 (by decide) ?_
          exact AW.forget (k _ hInv) (by repeat' (first | exact trivial | refine ⟨rfl, ?_⟩))
        · exact absurd rfl c2181
      · exfalso; rw [e1, e2] at c2180; exact absurd c2180 (Int.lt_irrefl _)
  · exact absurd eK c2164
theorem cs_restore {X : Cx} {b L : Nat} {xs : Nat → Int32} {i : Int} {kc ks : Nat} (ok : OKL X) (pre : PRE X b L xs i kc ks) (hcn : CN S kn nk c0 r0 m0 ct B F Z Fo No Ho Mo In) (hr : rwI B1 F1 Z1) (hB : ∀ i, 0 ≤ Bm i ∧ Bm i ≤ 5) (hI : ∀ i, rg (Im i)) (t : TW S S3) (hm : RM cnt nx σ ac di) (hk9 : RK P0 P1 sv ik ke) (ht9 : REt sz tx) (k : ∀ M, INV M → AW X (kc + 1) (ks + 6) 2245 [some (.ref 4095), some (.ref 0), some (.ref 103), some (.ref 119), some (iv i), none, none] [] M) :
    AW X kc ks 2189 [some (.ref 4095), some (.ref 0), some (.ref 103), some (.ref 119), some (iv i), none, none] [] (lwW kn nk sz tx S ((ringP 7)) cnt nx σ ((slotP 95)) sv c0 r0 m0 ct B F Z Br Q Fo No Ho Mo In Sn Qn S2 c1 r1 m1 ct1 B1 F1 Z1 Br1 Q1 Fo1 No1 sd rt lf wy gb P0 P1 rf S3 S4 ac Bm Im mm Fi Co Bq Wt mk gy di ke ik ea sd2 rt2 lf2 wy2 sp ou fo) := by
  obtain ⟨ex, hN, sc, hi, hL, hl, hkc, hks⟩ := pre
  have hc9 : 0 ≤ ac ∧ ac ≤ 14 := by rw [hm.2.2.1]; exact hm.1
  obtain ⟨P9, hP9⟩ : ∃ P, kRes sv (xv xs (i + 1)) = 0 → atD ke (xv xs (i + 1)) P ∧ TW (if (xv xs (i + 1)) = 0 then P0 else P1) P := by
    by_cases z : kRes sv (xv xs (i + 1)) = 0
    · have hz := kRes_0 z
      obtain ⟨P, p1, p2⟩ := hk9.2.2 (xv xs (i + 1)) hz.1 hz.2; exact ⟨P, fun _ => ⟨p1, p2⟩⟩
    · exact ⟨S, fun h => absurd h z⟩
  refine AW.cast (M2 := (lwW kn nk sz tx S ((ringP 7)) cnt nx σ (ρS) sv c0 r0 m0 ct B F Z Br Q Fo No Ho Mo In Sn Qn S2 c1 r1 m1 ct1 B1 F1 Z1 Br1 Q1 Fo1 No1 sd rt lf wy gb P0 P1 rf S3 S4 ac Bm Im mm Fi Co Bq Wt mk gy di ke ik ea sd2 rt2 lf2 wy2 sp ou fo)) ?_ rfl rfl (by rw [ρS_eq])
  have eK : kRes ik (xv xs (i + 1)) = kRes sv (xv xs (i + 1)) := (by rw [hk9.1])
  have eA : kRes sv (xv xs (i + 1)) = 0 → sumK (sG P9) (sC P9 * sR P9).toNat = sumK (sG (if (xv xs (i + 1)) = 0 then P0 else P1)) (sC (if (xv xs (i + 1)) = 0 then P0 else P1) * sR (if (xv xs (i + 1)) = 0 then P0 else P1)).toNat := fun z => by rw [← (hP9 z).2.2.2.1, ← (hP9 z).2.2.2.2.1, ← (hP9 z).2.2.2.2.2.1]
  have hKr : rg (kRes sv (xv xs (i + 1))) := by
    unfold kRes rg
    repeat' split
    all_goals omega
  refine a_aload_n (pc := 2189) ok dL_law_2189 rfl ?_
  refine a_aload_n (pc := 2190) ok dL_law_2190 rfl ?_
  refine a_iload (pc := 2191) ok dL_law_2191 rfl ?_
  refine a_iconst (pc := 2193) ok dL_law_2193 ?_
  refine a_iadd (pc := 2194) ok dL_law_2194 ?_
  refine a_sld (pc := 2195) ok sc dL_law_2195 (by omega) hL ?_
  refine a_aload_n (pc := 2196) ok dL_law_2196 rfl ?_
  refine l_callS (pc := 2197) ok ex πL_S 17 dL_law_2197 (ug5 50 (by decide +kernel) rfl) (ug5 51 (by decide +kernel) rfl) miL_restore (W_restore (v := (xv xs (i + 1))) hl (fun z => (hP9 z).2.1) (xv_rg _ _) hk9.2.1) ⟨by decide, by decide, rfl, rfl⟩ ⟨hkc, hks⟩ rfl rfl (Nat.le_of_ble_eq_true rfl) rfl rfl nd_S (fun _ _ h => by obtain ⟨_, _, _, M9, rfl, rfl⟩ := h; rfl) ?_
  rintro _ M8 ⟨rfl, fo', hfo, M9, hp, rfl⟩
  subst hp
  refine AW.cast (st2 := [iv (kRes sv (xv xs (i + 1)))]) (M2 := (lwW (if kRes sv (xv xs (i + 1)) = 0 then 0 else kn) (if kRes sv (xv xs (i + 1)) = 0 then 0 else nk) sz tx (if kRes sv (xv xs (i + 1)) = 0 then (if (xv xs (i + 1)) = 0 then P0 else P1) else S) ((ringP 7)) (if kRes sv (xv xs (i + 1)) = 0 then 0 else cnt) nx σ (ρS) sv c0 r0 m0 ct B F Z Br Q Fo No Ho Mo In Sn Qn S2 c1 r1 m1 ct1 B1 F1 Z1 Br1 Q1 Fo1 No1 sd rt lf wy gb P0 P1 rf S3 S4 ac Bm Im mm Fi Co Bq Wt mk gy di ke ik ea sd2 rt2 lf2 wy2 sp ou (fo'))) ?_ rfl rfl rfl
  refine AW.cast (M2 := (lwW (if kRes sv (xv xs (i + 1)) = 0 then 0 else kn) (if kRes sv (xv xs (i + 1)) = 0 then 0 else nk) sz tx (if kRes sv (xv xs (i + 1)) = 0 then (if (xv xs (i + 1)) = 0 then P0 else P1) else S) ((ringP 7)) (if kRes sv (xv xs (i + 1)) = 0 then 0 else cnt) nx σ ((slotP 95)) sv c0 r0 m0 ct B F Z Br Q Fo No Ho Mo In Sn Qn S2 c1 r1 m1 ct1 B1 F1 Z1 Br1 Q1 Fo1 No1 sd rt lf wy gb P0 P1 rf S3 S4 ac Bm Im mm Fi Co Bq Wt mk gy di ke ik ea sd2 rt2 lf2 wy2 sp ou (fo'))) ?_ rfl rfl (by rw [ρS_eq])
  refine a_istore (pc := 2200) ok dL_law_2200 rfl (by rw [hN]; decide) ?_
  refine a_aload_n (pc := 2202) ok dL_law_2202 rfl ?_
  refine a_aload_n (pc := 2203) ok dL_law_2203 rfl ?_
  refine a_iload (pc := 2204) ok dL_law_2204 rfl ?_
  refine a_iconst (pc := 2206) ok dL_law_2206 ?_
  refine a_iadd (pc := 2207) ok dL_law_2207 ?_
  refine a_sld (pc := 2208) ok sc dL_law_2208 (by omega) hL ?_
  refine a_callV (pc := 2209) ok [103, 105, 110, 111, 112, 113, 114, 115, 116, 117, 106, 104, 107, 108, 109, 118] dL_law_2209 mvL_237 miX7_restore (c_mrestore (P := P9) hB hI (xv_rg _ _) (fun i => by rw [hk9.1]; exact hk9.2.1 i) (fun z => by rw [hk9.1] at z; exact ⟨(hP9 z).1, (hP9 z).2.2.1⟩)) ⟨by decide, by decide, rfl, rfl, (by show _ ≤ 601024; omega), (by show _ ≤ 7293034; omega)⟩ rfl rfl (Nat.le_of_ble_eq_true rfl) rfl (by decide) rfl rfl (fun _ _ h => WM_len h.2) ?_
  rintro _ M' ⟨rfl, hwm⟩
  obtain ⟨Bm', Im', mm', Fi', Co', Bq', Wt', mk', gy', S4', ea', sd2', rt2', lf2', wy2', sp', ou', rfl, hB', hI'⟩ := hwm
  refine AW.cast (st2 := [iv (w32 (if kRes ik (xv xs (i + 1)) = 0 then sumK (sG P9) (sC P9 * sR P9).toNat else 0))]) (M2 := (lwW (if kRes sv (xv xs (i + 1)) = 0 then 0 else kn) (if kRes sv (xv xs (i + 1)) = 0 then 0 else nk) sz tx (if kRes sv (xv xs (i + 1)) = 0 then (if (xv xs (i + 1)) = 0 then P0 else P1) else S) ((ringP 7)) (if kRes sv (xv xs (i + 1)) = 0 then 0 else cnt) nx σ ((slotP 95)) sv c0 r0 m0 ct B F Z Br Q Fo No Ho Mo In Sn Qn S2 c1 r1 m1 ct1 B1 F1 Z1 Br1 Q1 Fo1 No1 sd rt lf wy gb P0 P1 (kRes ik (xv xs (i + 1))) (if kRes ik (xv xs (i + 1)) = 0 then P9 else S3) (S4') (if kRes ik (xv xs (i + 1)) = 0 then 0 else ac) (Bm') (Im') (mm') (Fi') (Co') (Bq') (Wt') (mk') (gy') di ke ik (ea') (sd2') (rt2') (lf2') (wy2') (sp') (ou') (fo'))) ?_ rfl (congrArg (fun v : Value => [v]) (iv_w _)) rfl
  have hX : TW (if kRes sv (xv xs (i + 1)) = 0 then (if (xv xs (i + 1)) = 0 then P0 else P1) else S) (if kRes ik (xv xs (i + 1)) = 0 then P9 else S3) ∧ RM (if kRes sv (xv xs (i + 1)) = 0 then 0 else cnt) nx σ (if kRes ik (xv xs (i + 1)) = 0 then 0 else ac) di := by
    rw [eK]
    by_cases z : kRes sv (xv xs (i + 1)) = 0
    · simp only [if_pos z]
      exact ⟨(hP9 z).2, RM_0 hm⟩
    · simp only [if_neg z]
      exact ⟨t, hm⟩
  have hInv : INV (lwW (if kRes sv (xv xs (i + 1)) = 0 then 0 else kn) (if kRes sv (xv xs (i + 1)) = 0 then 0 else nk) sz tx (if kRes sv (xv xs (i + 1)) = 0 then (if (xv xs (i + 1)) = 0 then P0 else P1) else S) ((ringP 7)) (if kRes sv (xv xs (i + 1)) = 0 then 0 else cnt) nx σ ((slotP 95)) sv c0 r0 m0 ct B F Z Br Q Fo No Ho Mo In Sn Qn S2 c1 r1 m1 ct1 B1 F1 Z1 Br1 Q1 Fo1 No1 sd rt lf wy gb P0 P1 (kRes ik (xv xs (i + 1))) (if kRes ik (xv xs (i + 1)) = 0 then P9 else S3) (S4') (if kRes ik (xv xs (i + 1)) = 0 then 0 else ac) (Bm') (Im') (mm') (Fi') (Co') (Bq') (Wt') (mk') (gy') di ke ik (ea') (sd2') (rt2') (lf2') (wy2') (sp') (ou') (fo')) := ⟨_, _, _, _, _, _, _, _, _, _, _, _, _, _, _, _, _, _, _, _, _, _, _, _, _, _, _, _, _, _, _, _, _, _, _, _, _, _, _, _, _, _, _, _, _, _, _, _, _, _, _, _, _, _, _, _, _, _, _, _, _, _, _, _, _, _, _, _, rfl, CN_if hcn, hr, hB', hI', hX.1, hX.2, hk9, ht9⟩
  refine a_istore (pc := 2212) ok dL_law_2212 rfl (by rw [hN]; decide) ?_
  refine a_aload_n (pc := 2214) ok dL_law_2214 rfl ?_
  refine x_callVp (pc := 2215) ok [103, 104, 105, 106, 107, 108, 109, 110, 111, 112, 113, 114, 115, 116, 117, 118] 1 dL_law_2215 mvL_121 miX7_thrown (c_thrown) ⟨by decide, by decide, rfl, rfl, (by show _ ≤ 601024; omega), (by show _ ≤ 7293034; omega)⟩ rfl rfl (Nat.le_of_ble_eq_true rfl) rfl rfl (by decide) rfl rfl ?_
  refine a_iload (pc := 2218) ok dL_law_2218 rfl ?_
  refine a_icmp_eq (pc := 2220) (tgt := 2225) ok dL_law_2220 (by decide) (by first | exact hKr | (rw [eK]; exact hKr)) (by first | exact hKr | (rw [eK]; exact hKr)) (fun c2220 => ?_) (fun c2220 => ?_)
  · refine a_iload (pc := 2225) ok dL_law_2225 rfl ?_
    refine a_if_ne (pc := 2227) (tgt := 2242) ok dL_law_2227 (by decide) (by exact hKr) (fun c2227 => ?_) (fun c2227 => ?_)
    · refine a_goto (pc := 2242) (tgt := 2245) ok dL_law_2242 (by decide) ?_
      exact AW.forget (k _ hInv) (by repeat' (first | exact trivial | refine ⟨rfl, ?_⟩))
    · have h0 : kRes sv (xv xs (i + 1)) = 0 := by first | exact c2227 | omega
      have e1 := hfo h0
      have e2 : w32 (if kRes ik (xv xs (i + 1)) = 0 then sumK (sG P9) (sC P9 * sR P9).toNat else 0) = w32 (sumK (sG (if (xv xs (i + 1)) = 0 then P0 else P1)) (sC (if (xv xs (i + 1)) = 0 then P0 else P1) * sR (if (xv xs (i + 1)) = 0 then P0 else P1)).toNat) := by have q := eK.trans h0; have q2 := eA h0; rw [if_pos q, q2]
      refine a_aload_n (pc := 2230) ok dL_law_2230 rfl ?_
      refine a_iconst (pc := 2231) ok dL_law_2231 ?_
      refine a_lald (pc := 2232) ok dL_law_2232 (rfl) (by decide) (by omega) ?_
      refine a_iload (pc := 2233) ok dL_law_2233 rfl ?_
      refine a_i2l (pc := 2235) ok dL_law_2235 (by exact rg_w _) ?_
      refine a_lcmp (pc := 2236) ok dL_law_2236 (by first | (rw [e1]; exact rgL_w9 _) | exact rgL_w9 _) (by first | (rw [e1]; exact rgL_w9 _) | exact rgL_w9 _) (fun c2236 => ?_) (fun c2236 => ?_) (fun c2236 => ?_)
      · exfalso; rw [e1, e2] at c2236; exact absurd c2236 (Int.lt_irrefl _)
      · refine a_if_eq (pc := 2237) (tgt := 2242) ok dL_law_2237 (by decide) (by first | exact xv_rg _ _ | omega | (unfold rg; omega) | (simp only [rg] at *; omega) | exact bz_rg _ | grind [rg]) (fun c2237 => ?_) (fun c2237 => ?_)
        · refine a_goto (pc := 2242) (tgt := 2245) ok dL_law_2242 (by decide) ?_
          exact AW.forget (k _ hInv) (by repeat' (first | exact trivial | refine ⟨rfl, ?_⟩))
        · exact absurd rfl c2237
      · exfalso; rw [e1, e2] at c2236; exact absurd c2236 (Int.lt_irrefl _)
  · exact absurd eK c2220
end LC116
