/-! THE LAW: its cases. Printed by wip/whole/gen/mk91.py. -/
section LC109
variable {kn : Int} {nk : Int} {sz : Int} {tx : Int → Int} {S : St} {cnt : Int} {nx : Int} {σ : Nat → St} {sv : Int → Int} {c0 : Int} {r0 : Int} {m0 : Int} {ct : Int} {B : Int → Int} {F : Int → Int} {Z : Int → Int} {Br : Int → Int} {Q : Int → Int} {Fo : Int → Int} {No : Int → Int} {Ho : Int → Int} {Mo : Int → Int} {In : Int → Int} {Sn : Int → Int} {Qn : Int → Int} {S2 : St} {c1 : Int} {r1 : Int} {m1 : Int} {ct1 : Int} {B1 : Int → Int} {F1 : Int → Int} {Z1 : Int → Int} {Br1 : Int → Int} {Q1 : Int → Int} {Fo1 : Int → Int} {No1 : Int → Int} {sd : Int} {rt : Int} {lf : Int} {wy : Int} {gb : Int → Int} {P0 : St} {P1 : St} {rf : Int} {S3 : St} {S4 : St} {ac : Int} {Bm : Int → Int} {Im : Int → Int} {mm : Int} {Fi : Int → Int} {Co : Int → Int} {Bq : Int → Int} {Wt : Int → Int} {mk : Int → Int} {gy : Int → Int} {di : Int → Int} {ke : Int → Int} {ik : Int → Int} {ea : Int → Int} {sd2 : Int} {rt2 : Int} {lf2 : Int} {wy2 : Int} {sp : Int} {ou : Int} {fo : Int → Int}
theorem cs_least {X : Cx} {b L : Nat} {xs : Nat → Int32} {i : Int} {kc ks : Nat} (ok : OKL X) (pre : PRE X b L xs i kc ks) (hcn : CN S kn nk c0 r0 m0 ct B F Z Fo No Ho Mo In) (hr : rwI B1 F1 Z1) (hB : ∀ i, 0 ≤ Bm i ∧ Bm i ≤ 5) (hI : ∀ i, rg (Im i)) (t : TW S S3) (hm : RM cnt nx σ ac di) (hk9 : RK P0 P1 sv ik ke) (ht9 : REt sz tx) (k : ∀ M, INV M → AW X (kc + 1) (ks + 6) 2245 [some (.ref 4095), some (.ref 0), some (.ref 103), some (.ref 119), some (iv i), none, none] [] M) :
    AW X kc ks 1255 [some (.ref 4095), some (.ref 0), some (.ref 103), some (.ref 119), some (iv i), none, none] [] (lwW kn nk sz tx S (ringP 7) cnt nx σ (slotP 95) sv c0 r0 m0 ct B F Z Br Q Fo No Ho Mo In Sn Qn S2 c1 r1 m1 ct1 B1 F1 Z1 Br1 Q1 Fo1 No1 sd rt lf wy gb P0 P1 rf S3 S4 ac Bm Im mm Fi Co Bq Wt mk gy di ke ik ea sd2 rt2 lf2 wy2 sp ou fo) := by
  obtain ⟨ex, hN, sc, hi, hL, hl, hkc, hks⟩ := pre
  have hc9 : 0 ≤ ac ∧ ac ≤ 14 := by rw [hm.2.2.1]; exact hm.1
  refine AW.cast (M2 := (lwW kn nk sz tx S (ρM) cnt nx σ (slotP 95) sv c0 r0 m0 ct B F Z Br Q Fo No Ho Mo In Sn Qn S2 c1 r1 m1 ct1 B1 F1 Z1 Br1 Q1 Fo1 No1 sd rt lf wy gb P0 P1 rf S3 S4 ac Bm Im mm Fi Co Bq Wt mk gy di ke ik ea sd2 rt2 lf2 wy2 sp ou fo)) ?_ rfl rfl (by rw [ρM_eq])
  have eK : kIn (xv xs (i + 1)) 1 30 = kIn (xv xs (i + 1)) 1 30 := rfl
  have eA : kIn (xv xs (i + 1)) 1 30 = 0 → sE S3 = sE S := fun _ => t.2.2.2.2.2.2.1.symm
  have hKr : rg (kIn (xv xs (i + 1)) 1 30) := by
    unfold kIn rg
    repeat' split
    all_goals omega
  refine a_aload_n (pc := 1255) ok dL_law_1255 rfl ?_
  refine a_aload_n (pc := 1256) ok dL_law_1256 rfl ?_
  refine a_iload (pc := 1257) ok dL_law_1257 rfl ?_
  refine a_iconst (pc := 1259) ok dL_law_1259 ?_
  refine a_iadd (pc := 1260) ok dL_law_1260 ?_
  refine a_sld (pc := 1261) ok sc dL_law_1261 (by omega) hL ?_
  refine a_aload_n (pc := 1262) ok dL_law_1262 rfl ?_
  refine l_callS (pc := 1263) ok ex πL_M 65 dL_law_1263 (ug4 154 (by decide +kernel) rfl) (ug4 155 (by decide +kernel) rfl) miL_least (W_least (v := (xv xs (i + 1))) hl t.1 hm.1 hm.2.1 (xv_rg _ _)) ⟨by decide, by decide, rfl, rfl⟩ ⟨hkc, hks⟩ rfl rfl (Nat.le_of_ble_eq_true rfl) rfl rfl nd_M (fun _ _ h => by obtain ⟨_, _, _, M9, rfl, rfl⟩ := h; rfl) ?_
  rintro _ M8 ⟨rfl, fo', hfo, M9, hp, rfl⟩
  subst hp
  refine AW.cast (st2 := [iv (kIn (xv xs (i + 1)) 1 30)]) (M2 := (lwW (if kIn (xv xs (i + 1)) 1 30 = 0 then 0 else kn) (if kIn (xv xs (i + 1)) 1 30 = 0 then 0 else nk) sz tx (if kIn (xv xs (i + 1)) 1 30 = 0 then setE S (xv xs (i + 1)) else S) (ρM) (if kIn (xv xs (i + 1)) 1 30 = 0 then min (cnt + 1) 14 else cnt) (if kIn (xv xs (i + 1)) 1 30 = 0 then (nx + 1) % 14 else nx) (if kIn (xv xs (i + 1)) 1 30 = 0 then σP S nx σ else σ) (slotP 95) sv c0 r0 m0 ct B F Z Br Q Fo No Ho Mo In Sn Qn S2 c1 r1 m1 ct1 B1 F1 Z1 Br1 Q1 Fo1 No1 sd rt lf wy gb P0 P1 rf S3 S4 ac Bm Im mm Fi Co Bq Wt mk gy di ke ik ea sd2 rt2 lf2 wy2 sp ou (fo'))) ?_ rfl rfl rfl
  refine AW.cast (M2 := (lwW (if kIn (xv xs (i + 1)) 1 30 = 0 then 0 else kn) (if kIn (xv xs (i + 1)) 1 30 = 0 then 0 else nk) sz tx (if kIn (xv xs (i + 1)) 1 30 = 0 then setE S (xv xs (i + 1)) else S) (ringP 7) (if kIn (xv xs (i + 1)) 1 30 = 0 then min (cnt + 1) 14 else cnt) (if kIn (xv xs (i + 1)) 1 30 = 0 then (nx + 1) % 14 else nx) (if kIn (xv xs (i + 1)) 1 30 = 0 then σP S nx σ else σ) (slotP 95) sv c0 r0 m0 ct B F Z Br Q Fo No Ho Mo In Sn Qn S2 c1 r1 m1 ct1 B1 F1 Z1 Br1 Q1 Fo1 No1 sd rt lf wy gb P0 P1 rf S3 S4 ac Bm Im mm Fi Co Bq Wt mk gy di ke ik ea sd2 rt2 lf2 wy2 sp ou (fo'))) ?_ rfl rfl (by rw [ρM_eq])
  refine a_istore (pc := 1266) ok dL_law_1266 rfl (by rw [hN]; decide) ?_
  refine a_aload_n (pc := 1268) ok dL_law_1268 rfl ?_
  refine a_aload_n (pc := 1269) ok dL_law_1269 rfl ?_
  refine a_iload (pc := 1270) ok dL_law_1270 rfl ?_
  refine a_iconst (pc := 1272) ok dL_law_1272 ?_
  refine a_iadd (pc := 1273) ok dL_law_1273 ?_
  refine a_sld (pc := 1274) ok sc dL_law_1274 (by omega) hL ?_
  refine a_callV (pc := 1275) ok [103, 105, 110, 111, 112, 113, 114, 115, 116, 117, 106, 104, 107, 108, 109, 118] dL_law_1275 mvL_185 miX7_least (c_mleast t.2.1 hB hI hc9 (xv_rg _ _)) ⟨by decide, by decide, rfl, rfl, (by show _ ≤ 601024; omega), (by show _ ≤ 7293034; omega)⟩ rfl rfl (Nat.le_of_ble_eq_true rfl) rfl (by decide) rfl rfl (fun _ _ h => WM_len h.2) ?_
  rintro _ M' ⟨rfl, hwm⟩
  obtain ⟨Bm', Im', mm', Fi', Co', Bq', Wt', mk', gy', S4', ea', sd2', rt2', lf2', wy2', sp', ou', rfl, hB', hI'⟩ := hwm
  refine AW.cast (st2 := [iv (w32 (if kIn (xv xs (i + 1)) 1 30 = 0 then sE S3 else 0))]) (M2 := (lwW (if kIn (xv xs (i + 1)) 1 30 = 0 then 0 else kn) (if kIn (xv xs (i + 1)) 1 30 = 0 then 0 else nk) sz tx (if kIn (xv xs (i + 1)) 1 30 = 0 then setE S (xv xs (i + 1)) else S) (ringP 7) (if kIn (xv xs (i + 1)) 1 30 = 0 then min (cnt + 1) 14 else cnt) (if kIn (xv xs (i + 1)) 1 30 = 0 then (nx + 1) % 14 else nx) (if kIn (xv xs (i + 1)) 1 30 = 0 then σP S nx σ else σ) (slotP 95) sv c0 r0 m0 ct B F Z Br Q Fo No Ho Mo In Sn Qn S2 c1 r1 m1 ct1 B1 F1 Z1 Br1 Q1 Fo1 No1 sd rt lf wy gb P0 P1 (kIn (xv xs (i + 1)) 1 30) (if kIn (xv xs (i + 1)) 1 30 = 0 then setE S3 (xv xs (i + 1)) else S3) (S4') (if kIn (xv xs (i + 1)) 1 30 = 0 then aP ac else ac) (Bm') (Im') (mm') (Fi') (Co') (Bq') (Wt') (mk') (gy') (if kIn (xv xs (i + 1)) 1 30 = 0 then dP S3 ac di else di) ke ik (ea') (sd2') (rt2') (lf2') (wy2') (sp') (ou') (fo'))) ?_ rfl (congrArg (fun v : Value => [v]) (iv_w _)) rfl
  have hInv : INV (lwW (if kIn (xv xs (i + 1)) 1 30 = 0 then 0 else kn) (if kIn (xv xs (i + 1)) 1 30 = 0 then 0 else nk) sz tx (if kIn (xv xs (i + 1)) 1 30 = 0 then setE S (xv xs (i + 1)) else S) (ringP 7) (if kIn (xv xs (i + 1)) 1 30 = 0 then min (cnt + 1) 14 else cnt) (if kIn (xv xs (i + 1)) 1 30 = 0 then (nx + 1) % 14 else nx) (if kIn (xv xs (i + 1)) 1 30 = 0 then σP S nx σ else σ) (slotP 95) sv c0 r0 m0 ct B F Z Br Q Fo No Ho Mo In Sn Qn S2 c1 r1 m1 ct1 B1 F1 Z1 Br1 Q1 Fo1 No1 sd rt lf wy gb P0 P1 (kIn (xv xs (i + 1)) 1 30) (if kIn (xv xs (i + 1)) 1 30 = 0 then setE S3 (xv xs (i + 1)) else S3) (S4') (if kIn (xv xs (i + 1)) 1 30 = 0 then aP ac else ac) (Bm') (Im') (mm') (Fi') (Co') (Bq') (Wt') (mk') (gy') (if kIn (xv xs (i + 1)) 1 30 = 0 then dP S3 ac di else di) ke ik (ea') (sd2') (rt2') (lf2') (wy2') (sp') (ou') (fo')) := ⟨_, _, _, _, _, _, _, _, _, _, _, _, _, _, _, _, _, _, _, _, _, _, _, _, _, _, _, _, _, _, _, _, _, _, _, _, _, _, _, _, _, _, _, _, _, _, _, _, _, _, _, _, _, _, _, _, _, _, _, _, _, _, _, _, _, _, _, _, rfl, CN_if hcn, hr, hB', hI', TW_if eK t (fun z => ⟨SV_setE t.1 (kIn_0 z), SV_setE t.2.1 (kIn_0 z), StE_setE t.2.2 _⟩), RM_if eK hm t, hk9, ht9⟩
  refine a_istore (pc := 1278) ok dL_law_1278 rfl (by rw [hN]; decide) ?_
  refine a_aload_n (pc := 1280) ok dL_law_1280 rfl ?_
  refine x_callVp (pc := 1281) ok [103, 104, 105, 106, 107, 108, 109, 110, 111, 112, 113, 114, 115, 116, 117, 118] 1 dL_law_1281 mvL_121 miX7_thrown (c_thrown) ⟨by decide, by decide, rfl, rfl, (by show _ ≤ 601024; omega), (by show _ ≤ 7293034; omega)⟩ rfl rfl (Nat.le_of_ble_eq_true rfl) rfl rfl (by decide) rfl rfl ?_
  refine a_iload (pc := 1284) ok dL_law_1284 rfl ?_
  refine a_icmp_eq (pc := 1286) (tgt := 1291) ok dL_law_1286 (by decide) (by first | exact hKr | (rw [eK]; exact hKr)) (by first | exact hKr | (rw [eK]; exact hKr)) (fun c1286 => ?_) (fun c1286 => ?_)
  · refine a_iload (pc := 1291) ok dL_law_1291 rfl ?_
    refine a_if_ne (pc := 1293) (tgt := 1308) ok dL_law_1293 (by decide) (by exact hKr) (fun c1293 => ?_) (fun c1293 => ?_)
    · refine a_goto (pc := 1308) (tgt := 2245) ok dL_law_1308 (by decide) ?_
      exact AW.forget (k _ hInv) (by repeat' (first | exact trivial | refine ⟨rfl, ?_⟩))
    · have h0 : kIn (xv xs (i + 1)) 1 30 = 0 := by first | exact c1293 | omega
      have e1 := hfo h0
      have e2 : w32 (if kIn (xv xs (i + 1)) 1 30 = 0 then sE S3 else 0) = w32 (sE S) := by have q := eK.trans h0; have q2 := eA h0; rw [if_pos q, q2]
      refine a_aload_n (pc := 1296) ok dL_law_1296 rfl ?_
      refine a_iconst (pc := 1297) ok dL_law_1297 ?_
      refine a_lald (pc := 1298) ok dL_law_1298 (rfl) (by decide) (by omega) ?_
      refine a_iload (pc := 1299) ok dL_law_1299 rfl ?_
      refine a_i2l (pc := 1301) ok dL_law_1301 (by exact rg_w _) ?_
      refine a_lcmp (pc := 1302) ok dL_law_1302 (by first | (rw [e1]; exact rgL_w9 _) | exact rgL_w9 _) (by first | (rw [e1]; exact rgL_w9 _) | exact rgL_w9 _) (fun c1302 => ?_) (fun c1302 => ?_) (fun c1302 => ?_)
      · exfalso; rw [e1, e2] at c1302; exact absurd c1302 (Int.lt_irrefl _)
      · refine a_if_eq (pc := 1303) (tgt := 1308) ok dL_law_1303 (by decide) (by first | omega | (unfold rg; omega) | (simp only [rg] at *; omega) | exact bz_rg _ | grind [rg]) (fun c1303 => ?_) (fun c1303 => ?_)
        · refine a_goto (pc := 1308) (tgt := 2245) ok dL_law_1308 (by decide) ?_
          exact AW.forget (k _ hInv) (by repeat' (first | exact trivial | refine ⟨rfl, ?_⟩))
        · exact absurd rfl c1303
      · exfalso; rw [e1, e2] at c1302; exact absurd c1302 (Int.lt_irrefl _)
  · exact absurd eK c1286
theorem cs_hatch {X : Cx} {b L : Nat} {xs : Nat → Int32} {i : Int} {kc ks : Nat} (ok : OKL X) (pre : PRE X b L xs i kc ks) (hcn : CN S kn nk c0 r0 m0 ct B F Z Fo No Ho Mo In) (hr : rwI B1 F1 Z1) (hB : ∀ i, 0 ≤ Bm i ∧ Bm i ≤ 5) (hI : ∀ i, rg (Im i)) (t : TW S S3) (hm : RM cnt nx σ ac di) (hk9 : RK P0 P1 sv ik ke) (ht9 : REt sz tx) (k : ∀ M, INV M → AW X (kc + 1) (ks + 6) 2245 [some (.ref 4095), some (.ref 0), some (.ref 103), some (.ref 119), some (iv i), none, none] [] M) :
    AW X kc ks 1311 [some (.ref 4095), some (.ref 0), some (.ref 103), some (.ref 119), some (iv i), none, none] [] (lwW kn nk sz tx S (ringP 7) cnt nx σ (slotP 95) sv c0 r0 m0 ct B F Z Br Q Fo No Ho Mo In Sn Qn S2 c1 r1 m1 ct1 B1 F1 Z1 Br1 Q1 Fo1 No1 sd rt lf wy gb P0 P1 rf S3 S4 ac Bm Im mm Fi Co Bq Wt mk gy di ke ik ea sd2 rt2 lf2 wy2 sp ou fo) := by
  obtain ⟨ex, hN, sc, hi, hL, hl, hkc, hks⟩ := pre
  have hc9 : 0 ≤ ac ∧ ac ≤ 14 := by rw [hm.2.2.1]; exact hm.1
  refine AW.cast (M2 := (lwW kn nk sz tx S (ρM) cnt nx σ (slotP 95) sv c0 r0 m0 ct B F Z Br Q Fo No Ho Mo In Sn Qn S2 c1 r1 m1 ct1 B1 F1 Z1 Br1 Q1 Fo1 No1 sd rt lf wy gb P0 P1 rf S3 S4 ac Bm Im mm Fi Co Bq Wt mk gy di ke ik ea sd2 rt2 lf2 wy2 sp ou fo)) ?_ rfl rfl (by rw [ρM_eq])
  have eK : kHatch (xv xs (i + 1)) (xv xs (i + 2)) = kHatch (xv xs (i + 1)) (xv xs (i + 2)) := rfl
  have eA : kHatch (xv xs (i + 1)) (xv xs (i + 2)) = 0 → sH S3 (xv xs (i + 1)) = sH S (xv xs (i + 1)) := fun _ => by rw [← t.2.2.2.2.2.2.2.1]
  have hKr : rg (kHatch (xv xs (i + 1)) (xv xs (i + 2))) := by
    unfold kHatch rg
    repeat' split
    all_goals omega
  refine a_aload_n (pc := 1311) ok dL_law_1311 rfl ?_
  refine a_aload_n (pc := 1312) ok dL_law_1312 rfl ?_
  refine a_iload (pc := 1313) ok dL_law_1313 rfl ?_
  refine a_iconst (pc := 1315) ok dL_law_1315 ?_
  refine a_iadd (pc := 1316) ok dL_law_1316 ?_
  refine a_sld (pc := 1317) ok sc dL_law_1317 (by omega) hL ?_
  refine a_aload_n (pc := 1318) ok dL_law_1318 rfl ?_
  refine a_iload (pc := 1319) ok dL_law_1319 rfl ?_
  refine a_iconst (pc := 1321) ok dL_law_1321 ?_
  refine a_iadd (pc := 1322) ok dL_law_1322 ?_
  refine a_sld (pc := 1323) ok sc dL_law_1323 (by omega) hL ?_
  refine a_aload_n (pc := 1324) ok dL_law_1324 rfl ?_
  refine l_callS (pc := 1325) ok ex πL_M 65 dL_law_1325 (ug4 161 (by decide +kernel) rfl) (ug4 162 (by decide +kernel) rfl) miL_hatch (W_hatch (b := (xv xs (i + 1))) (v := (xv xs (i + 2))) hl t.1 hm.1 hm.2.1 (xv_rg _ _) (xv_rg _ _)) ⟨by decide, by decide, rfl, rfl⟩ ⟨hkc, hks⟩ rfl rfl (Nat.le_of_ble_eq_true rfl) rfl rfl nd_M (fun _ _ h => by obtain ⟨_, _, _, M9, rfl, rfl⟩ := h; rfl) ?_
  rintro _ M8 ⟨rfl, fo', hfo, M9, hp, rfl⟩
  subst hp
  refine AW.cast (st2 := [iv (kHatch (xv xs (i + 1)) (xv xs (i + 2)))]) (M2 := (lwW (if kHatch (xv xs (i + 1)) (xv xs (i + 2)) = 0 then 0 else kn) (if kHatch (xv xs (i + 1)) (xv xs (i + 2)) = 0 then 0 else nk) sz tx (if kHatch (xv xs (i + 1)) (xv xs (i + 2)) = 0 then setH S (xv xs (i + 1)) (xv xs (i + 2)) else S) (ρM) (if kHatch (xv xs (i + 1)) (xv xs (i + 2)) = 0 then min (cnt + 1) 14 else cnt) (if kHatch (xv xs (i + 1)) (xv xs (i + 2)) = 0 then (nx + 1) % 14 else nx) (if kHatch (xv xs (i + 1)) (xv xs (i + 2)) = 0 then σP S nx σ else σ) (slotP 95) sv c0 r0 m0 ct B F Z Br Q Fo No Ho Mo In Sn Qn S2 c1 r1 m1 ct1 B1 F1 Z1 Br1 Q1 Fo1 No1 sd rt lf wy gb P0 P1 rf S3 S4 ac Bm Im mm Fi Co Bq Wt mk gy di ke ik ea sd2 rt2 lf2 wy2 sp ou (fo'))) ?_ rfl rfl rfl
  refine AW.cast (M2 := (lwW (if kHatch (xv xs (i + 1)) (xv xs (i + 2)) = 0 then 0 else kn) (if kHatch (xv xs (i + 1)) (xv xs (i + 2)) = 0 then 0 else nk) sz tx (if kHatch (xv xs (i + 1)) (xv xs (i + 2)) = 0 then setH S (xv xs (i + 1)) (xv xs (i + 2)) else S) (ringP 7) (if kHatch (xv xs (i + 1)) (xv xs (i + 2)) = 0 then min (cnt + 1) 14 else cnt) (if kHatch (xv xs (i + 1)) (xv xs (i + 2)) = 0 then (nx + 1) % 14 else nx) (if kHatch (xv xs (i + 1)) (xv xs (i + 2)) = 0 then σP S nx σ else σ) (slotP 95) sv c0 r0 m0 ct B F Z Br Q Fo No Ho Mo In Sn Qn S2 c1 r1 m1 ct1 B1 F1 Z1 Br1 Q1 Fo1 No1 sd rt lf wy gb P0 P1 rf S3 S4 ac Bm Im mm Fi Co Bq Wt mk gy di ke ik ea sd2 rt2 lf2 wy2 sp ou (fo'))) ?_ rfl rfl (by rw [ρM_eq])
  refine a_istore (pc := 1328) ok dL_law_1328 rfl (by rw [hN]; decide) ?_
  refine a_aload_n (pc := 1330) ok dL_law_1330 rfl ?_
  refine a_aload_n (pc := 1331) ok dL_law_1331 rfl ?_
  refine a_iload (pc := 1332) ok dL_law_1332 rfl ?_
  refine a_iconst (pc := 1334) ok dL_law_1334 ?_
  refine a_iadd (pc := 1335) ok dL_law_1335 ?_
  refine a_sld (pc := 1336) ok sc dL_law_1336 (by omega) hL ?_
  refine a_aload_n (pc := 1337) ok dL_law_1337 rfl ?_
  refine a_iload (pc := 1338) ok dL_law_1338 rfl ?_
  refine a_iconst (pc := 1340) ok dL_law_1340 ?_
  refine a_iadd (pc := 1341) ok dL_law_1341 ?_
  refine a_sld (pc := 1342) ok sc dL_law_1342 (by omega) hL ?_
  refine a_callV (pc := 1343) ok [103, 105, 110, 111, 112, 113, 114, 115, 116, 117, 106, 104, 107, 108, 109, 118] dL_law_1343 mvL_188 miX7_hatch (c_mhatch t.2.1 hB hI hc9 (xv_rg _ _) (xv_rg _ _)) ⟨by decide, by decide, rfl, rfl, (by show _ ≤ 601024; omega), (by show _ ≤ 7293034; omega)⟩ rfl rfl (Nat.le_of_ble_eq_true rfl) rfl (by decide) rfl rfl (fun _ _ h => WM_len h.2) ?_
  rintro _ M' ⟨rfl, hwm⟩
  obtain ⟨Bm', Im', mm', Fi', Co', Bq', Wt', mk', gy', S4', ea', sd2', rt2', lf2', wy2', sp', ou', rfl, hB', hI'⟩ := hwm
  refine AW.cast (st2 := [iv (w32 (if kHatch (xv xs (i + 1)) (xv xs (i + 2)) = 0 then sH S3 (xv xs (i + 1)) else 0))]) (M2 := (lwW (if kHatch (xv xs (i + 1)) (xv xs (i + 2)) = 0 then 0 else kn) (if kHatch (xv xs (i + 1)) (xv xs (i + 2)) = 0 then 0 else nk) sz tx (if kHatch (xv xs (i + 1)) (xv xs (i + 2)) = 0 then setH S (xv xs (i + 1)) (xv xs (i + 2)) else S) (ringP 7) (if kHatch (xv xs (i + 1)) (xv xs (i + 2)) = 0 then min (cnt + 1) 14 else cnt) (if kHatch (xv xs (i + 1)) (xv xs (i + 2)) = 0 then (nx + 1) % 14 else nx) (if kHatch (xv xs (i + 1)) (xv xs (i + 2)) = 0 then σP S nx σ else σ) (slotP 95) sv c0 r0 m0 ct B F Z Br Q Fo No Ho Mo In Sn Qn S2 c1 r1 m1 ct1 B1 F1 Z1 Br1 Q1 Fo1 No1 sd rt lf wy gb P0 P1 (kHatch (xv xs (i + 1)) (xv xs (i + 2))) (if kHatch (xv xs (i + 1)) (xv xs (i + 2)) = 0 then setH S3 (xv xs (i + 1)) (xv xs (i + 2)) else S3) (S4') (if kHatch (xv xs (i + 1)) (xv xs (i + 2)) = 0 then aP ac else ac) (Bm') (Im') (mm') (Fi') (Co') (Bq') (Wt') (mk') (gy') (if kHatch (xv xs (i + 1)) (xv xs (i + 2)) = 0 then dP S3 ac di else di) ke ik (ea') (sd2') (rt2') (lf2') (wy2') (sp') (ou') (fo'))) ?_ rfl (congrArg (fun v : Value => [v]) (iv_w _)) rfl
  have hInv : INV (lwW (if kHatch (xv xs (i + 1)) (xv xs (i + 2)) = 0 then 0 else kn) (if kHatch (xv xs (i + 1)) (xv xs (i + 2)) = 0 then 0 else nk) sz tx (if kHatch (xv xs (i + 1)) (xv xs (i + 2)) = 0 then setH S (xv xs (i + 1)) (xv xs (i + 2)) else S) (ringP 7) (if kHatch (xv xs (i + 1)) (xv xs (i + 2)) = 0 then min (cnt + 1) 14 else cnt) (if kHatch (xv xs (i + 1)) (xv xs (i + 2)) = 0 then (nx + 1) % 14 else nx) (if kHatch (xv xs (i + 1)) (xv xs (i + 2)) = 0 then σP S nx σ else σ) (slotP 95) sv c0 r0 m0 ct B F Z Br Q Fo No Ho Mo In Sn Qn S2 c1 r1 m1 ct1 B1 F1 Z1 Br1 Q1 Fo1 No1 sd rt lf wy gb P0 P1 (kHatch (xv xs (i + 1)) (xv xs (i + 2))) (if kHatch (xv xs (i + 1)) (xv xs (i + 2)) = 0 then setH S3 (xv xs (i + 1)) (xv xs (i + 2)) else S3) (S4') (if kHatch (xv xs (i + 1)) (xv xs (i + 2)) = 0 then aP ac else ac) (Bm') (Im') (mm') (Fi') (Co') (Bq') (Wt') (mk') (gy') (if kHatch (xv xs (i + 1)) (xv xs (i + 2)) = 0 then dP S3 ac di else di) ke ik (ea') (sd2') (rt2') (lf2') (wy2') (sp') (ou') (fo')) := ⟨_, _, _, _, _, _, _, _, _, _, _, _, _, _, _, _, _, _, _, _, _, _, _, _, _, _, _, _, _, _, _, _, _, _, _, _, _, _, _, _, _, _, _, _, _, _, _, _, _, _, _, _, _, _, _, _, _, _, _, _, _, _, _, _, _, _, _, _, rfl, CN_if hcn, hr, hB', hI', TW_if eK t (fun z => ⟨SV_setH t.1, SV_setH t.2.1, StE_setH t.2.2 _ _⟩), RM_if eK hm t, hk9, ht9⟩
  refine a_istore (pc := 1346) ok dL_law_1346 rfl (by rw [hN]; decide) ?_
  refine a_aload_n (pc := 1348) ok dL_law_1348 rfl ?_
  refine x_callVp (pc := 1349) ok [103, 104, 105, 106, 107, 108, 109, 110, 111, 112, 113, 114, 115, 116, 117, 118] 1 dL_law_1349 mvL_121 miX7_thrown (c_thrown) ⟨by decide, by decide, rfl, rfl, (by show _ ≤ 601024; omega), (by show _ ≤ 7293034; omega)⟩ rfl rfl (Nat.le_of_ble_eq_true rfl) rfl rfl (by decide) rfl rfl ?_
  refine a_iload (pc := 1352) ok dL_law_1352 rfl ?_
  refine a_icmp_eq (pc := 1354) (tgt := 1359) ok dL_law_1354 (by decide) (by first | exact hKr | (rw [eK]; exact hKr)) (by first | exact hKr | (rw [eK]; exact hKr)) (fun c1354 => ?_) (fun c1354 => ?_)
  · refine a_iload (pc := 1359) ok dL_law_1359 rfl ?_
    refine a_if_ne (pc := 1361) (tgt := 1376) ok dL_law_1361 (by decide) (by exact hKr) (fun c1361 => ?_) (fun c1361 => ?_)
    · refine a_goto (pc := 1376) (tgt := 2245) ok dL_law_1376 (by decide) ?_
      exact AW.forget (k _ hInv) (by repeat' (first | exact trivial | refine ⟨rfl, ?_⟩))
    · have h0 : kHatch (xv xs (i + 1)) (xv xs (i + 2)) = 0 := by first | exact c1361 | omega
      have e1 := hfo h0
      have e2 : w32 (if kHatch (xv xs (i + 1)) (xv xs (i + 2)) = 0 then sH S3 (xv xs (i + 1)) else 0) = w32 (sH S (xv xs (i + 1))) := by have q := eK.trans h0; have q2 := eA h0; rw [if_pos q, q2]
      refine a_aload_n (pc := 1364) ok dL_law_1364 rfl ?_
      refine a_iconst (pc := 1365) ok dL_law_1365 ?_
      refine a_lald (pc := 1366) ok dL_law_1366 (rfl) (by decide) (by omega) ?_
      refine a_iload (pc := 1367) ok dL_law_1367 rfl ?_
      refine a_i2l (pc := 1369) ok dL_law_1369 (by exact rg_w _) ?_
      refine a_lcmp (pc := 1370) ok dL_law_1370 (by first | (rw [e1]; exact rgL_w9 _) | exact rgL_w9 _) (by first | (rw [e1]; exact rgL_w9 _) | exact rgL_w9 _) (fun c1370 => ?_) (fun c1370 => ?_) (fun c1370 => ?_)
      · exfalso; rw [e1, e2] at c1370; exact absurd c1370 (Int.lt_irrefl _)
      · refine a_if_eq (pc := 1371) (tgt := 1376) ok dL_law_1371 (by decide) (by first | omega | (unfold rg; omega) | (simp only [rg] at *; omega) | exact bz_rg _ | grind [rg]) (fun c1371 => ?_) (fun c1371 => ?_)
        · refine a_goto (pc := 1376) (tgt := 2245) ok dL_law_1376 (by decide) ?_
          exact AW.forget (k _ hInv) (by repeat' (first | exact trivial | refine ⟨rfl, ?_⟩))
        · exact absurd rfl c1371
      · exfalso; rw [e1, e2] at c1370; exact absurd c1370 (Int.lt_irrefl _)
  · exact absurd eK c1354
end LC109
