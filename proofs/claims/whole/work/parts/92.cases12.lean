/-! THE LAW: its cases. Printed by wip/whole/gen/mk91.py. -/
section LC111
variable {kn : Int} {nk : Int} {sz : Int} {tx : Int → Int} {S : St} {cnt : Int} {nx : Int} {σ : Nat → St} {sv : Int → Int} {c0 : Int} {r0 : Int} {m0 : Int} {ct : Int} {B : Int → Int} {F : Int → Int} {Z : Int → Int} {Br : Int → Int} {Q : Int → Int} {Fo : Int → Int} {No : Int → Int} {Ho : Int → Int} {Mo : Int → Int} {In : Int → Int} {Sn : Int → Int} {Qn : Int → Int} {S2 : St} {c1 : Int} {r1 : Int} {m1 : Int} {ct1 : Int} {B1 : Int → Int} {F1 : Int → Int} {Z1 : Int → Int} {Br1 : Int → Int} {Q1 : Int → Int} {Fo1 : Int → Int} {No1 : Int → Int} {sd : Int} {rt : Int} {lf : Int} {wy : Int} {gb : Int → Int} {P0 : St} {P1 : St} {rf : Int} {S3 : St} {S4 : St} {ac : Int} {Bm : Int → Int} {Im : Int → Int} {mm : Int} {Fi : Int → Int} {Co : Int → Int} {Bq : Int → Int} {Wt : Int → Int} {mk : Int → Int} {gy : Int → Int} {di : Int → Int} {ke : Int → Int} {ik : Int → Int} {ea : Int → Int} {sd2 : Int} {rt2 : Int} {lf2 : Int} {wy2 : Int} {sp : Int} {ou : Int} {fo : Int → Int}
theorem cs_invert {X : Cx} {b L : Nat} {xs : Nat → Int32} {i : Int} {kc ks : Nat} (ok : OKL X) (pre : PRE X b L xs i kc ks) (hcn : CN S kn nk c0 r0 m0 ct B F Z Fo No Ho Mo In) (hr : rwI B1 F1 Z1) (hB : ∀ i, 0 ≤ Bm i ∧ Bm i ≤ 5) (hI : ∀ i, rg (Im i)) (t : TW S S3) (hm : RM cnt nx σ ac di) (hk9 : RK P0 P1 sv ik ke) (ht9 : REt sz tx) (k : ∀ M, INV M → AW X (kc + 1) (ks + 6) 2245 [some (.ref 4095), some (.ref 0), some (.ref 103), some (.ref 119), some (iv i), none, none] [] M) :
    AW X kc ks 1448 [some (.ref 4095), some (.ref 0), some (.ref 103), some (.ref 119), some (iv i), none, none] [] (lwW kn nk sz tx S ((ringP 7)) cnt nx σ ((slotP 95)) sv c0 r0 m0 ct B F Z Br Q Fo No Ho Mo In Sn Qn S2 c1 r1 m1 ct1 B1 F1 Z1 Br1 Q1 Fo1 No1 sd rt lf wy gb P0 P1 rf S3 S4 ac Bm Im mm Fi Co Bq Wt mk gy di ke ik ea sd2 rt2 lf2 wy2 sp ou fo) := by
  obtain ⟨ex, hN, sc, hi, hL, hl, hkc, hks⟩ := pre
  have hc9 : 0 ≤ ac ∧ ac ≤ 14 := by rw [hm.2.2.1]; exact hm.1
  refine AW.cast (M2 := (lwW kn nk sz tx S (ρD) cnt nx σ ((slotP 95)) sv c0 r0 m0 ct B F Z Br Q Fo No Ho Mo In Sn Qn S2 c1 r1 m1 ct1 B1 F1 Z1 Br1 Q1 Fo1 No1 sd rt lf wy gb P0 P1 rf S3 S4 ac Bm Im mm Fi Co Bq Wt mk gy di ke ik ea sd2 rt2 lf2 wy2 sp ou fo)) ?_ rfl rfl (by rw [ρD_eq])
  have eA : sumK (mapK (fun j => 99 - sG S3 j) (sC S3 * sR S3) (sG S3)) (sC S3 * sR S3).toNat = sumK (sG (gI S)) (sC S * sR S).toNat := (by rw [← t.2.2.1, ← t.2.2.2.1, ← t.2.2.2.2.1])
  refine a_aload_n (pc := 1448) ok dL_law_1448 rfl ?_
  refine x_callV (pc := 1449) ok [0, 3, 4, 5, 6, 94, 7, 8, 9, 10, 11, 12, 13, 14, 15, 16, 17, 18, 19, 20, 21, 22, 23, 24, 25, 26, 27, 28, 29, 30, 31, 32, 33, 34, 35, 36, 37, 38, 39, 40, 41, 42, 43, 44, 45, 46, 47, 48, 49, 50, 51, 52, 53, 54, 55, 56, 57, 58, 59, 60, 61, 62, 63, 64, 1, 65, 66, 67, 75, 81, 85, 93] 64 dL_law_1449 mvL_196 miX6_invert (c_ainvert t.1 hm.1 hm.2.1) ⟨by decide, by decide, rfl, rfl, (by show _ ≤ 601024; omega), (by show _ ≤ 7293034; omega)⟩ rfl rfl (Nat.le_of_ble_eq_true rfl) rfl rfl (by decide) rfl rfl (fun _ _ h => by obtain ⟨_, rfl⟩ := h; rfl) ?_
  rintro _ _ ⟨rfl, rfl⟩
  refine AW.cast (st2 := [iv (w32 (sumK (sG (gI S)) (sC S * sR S).toNat))]) (M2 := (lwW (0) (0) sz tx (gI S) (ρD) (min (cnt + 1) 14) ((nx + 1) % 14) (σP S nx σ) ((slotP 95)) sv c0 r0 m0 ct B F Z Br Q Fo No Ho Mo In Sn Qn S2 c1 r1 m1 ct1 B1 F1 Z1 Br1 Q1 Fo1 No1 sd rt lf wy gb P0 P1 rf S3 S4 ac Bm Im mm Fi Co Bq Wt mk gy di ke ik ea sd2 rt2 lf2 wy2 sp ou fo)) ?_ rfl (congrArg (fun v : Value => [v]) (iv_w _)) rfl
  refine AW.cast (M2 := (lwW (0) (0) sz tx (gI S) ((ringP 7)) (min (cnt + 1) 14) ((nx + 1) % 14) (σP S nx σ) ((slotP 95)) sv c0 r0 m0 ct B F Z Br Q Fo No Ho Mo In Sn Qn S2 c1 r1 m1 ct1 B1 F1 Z1 Br1 Q1 Fo1 No1 sd rt lf wy gb P0 P1 rf S3 S4 ac Bm Im mm Fi Co Bq Wt mk gy di ke ik ea sd2 rt2 lf2 wy2 sp ou fo)) ?_ rfl rfl (by rw [ρD_eq])
  refine a_aload_n (pc := 1452) ok dL_law_1452 rfl ?_
  refine a_callV (pc := 1453) ok [103, 105, 110, 111, 112, 113, 114, 115, 116, 117, 106, 104, 107, 108, 109, 118] dL_law_1453 mvL_199 miX7_invert (c_minvert t.2.1 hB hI hc9) ⟨by decide, by decide, rfl, rfl, (by show _ ≤ 601024; omega), (by show _ ≤ 7293034; omega)⟩ rfl rfl (Nat.le_of_ble_eq_true rfl) rfl (by decide) rfl rfl (fun _ _ h => WM_len h.2) ?_
  rintro _ M' ⟨rfl, hwm⟩
  obtain ⟨Bm', Im', mm', Fi', Co', Bq', Wt', mk', gy', S4', ea', sd2', rt2', lf2', wy2', sp', ou', rfl, hB', hI'⟩ := hwm
  refine AW.cast (st2 := [iv (w32 (sumK (mapK (fun j => 99 - sG S3 j) (sC S3 * sR S3) (sG S3)) (sC S3 * sR S3).toNat)), iv (w32 (sumK (sG (gI S)) (sC S * sR S).toNat))]) (M2 := (lwW (0) (0) sz tx (gI S) ((ringP 7)) (min (cnt + 1) 14) ((nx + 1) % 14) (σP S nx σ) ((slotP 95)) sv c0 r0 m0 ct B F Z Br Q Fo No Ho Mo In Sn Qn S2 c1 r1 m1 ct1 B1 F1 Z1 Br1 Q1 Fo1 No1 sd rt lf wy gb P0 P1 (0) (gI S3) (S4') (aP ac) (Bm') (Im') (mm') (Fi') (Co') (Bq') (Wt') (mk') (gy') (dP S3 ac di) ke ik (ea') (sd2') (rt2') (lf2') (wy2') (sp') (ou') fo)) ?_ rfl (congrArg (fun v : Value => [v, iv (w32 (sumK (sG (gI S)) (sC S * sR S).toNat))]) (iv_w _)) rfl
  have hInv : INV (lwW (0) (0) sz tx (gI S) ((ringP 7)) (min (cnt + 1) 14) ((nx + 1) % 14) (σP S nx σ) ((slotP 95)) sv c0 r0 m0 ct B F Z Br Q Fo No Ho Mo In Sn Qn S2 c1 r1 m1 ct1 B1 F1 Z1 Br1 Q1 Fo1 No1 sd rt lf wy gb P0 P1 (0) (gI S3) (S4') (aP ac) (Bm') (Im') (mm') (Fi') (Co') (Bq') (Wt') (mk') (gy') (dP S3 ac di) ke ik (ea') (sd2') (rt2') (lf2') (wy2') (sp') (ou') fo) := ⟨_, _, _, _, _, _, _, _, _, _, _, _, _, _, _, _, _, _, _, _, _, _, _, _, _, _, _, _, _, _, _, _, _, _, _, _, _, _, _, _, _, _, _, _, _, _, _, _, _, _, _, _, _, _, _, _, _, _, _, _, _, _, _, _, _, _, _, _, rfl, CN_z hcn, hr, hB', hI', ⟨SV_gI t.1, SV_gI t.2.1, StE_gI t.2.2⟩, RM_act hm t, hk9, ht9⟩
  refine a_icmp_eq (pc := 1456) (tgt := 2245) ok dL_law_1456 (by decide) (by exact rg_w _) (by exact rg_w _) (fun c1456 => ?_) (fun c1456 => ?_)
  · exact AW.widen (Nat.le_succ _) (Nat.le_add_right _ _) (k _ hInv)
  · exact absurd (congrArg w32 eA.symm) c1456
theorem cs_spread {X : Cx} {b L : Nat} {xs : Nat → Int32} {i : Int} {kc ks : Nat} (ok : OKL X) (pre : PRE X b L xs i kc ks) (hcn : CN S kn nk c0 r0 m0 ct B F Z Fo No Ho Mo In) (hr : rwI B1 F1 Z1) (hB : ∀ i, 0 ≤ Bm i ∧ Bm i ≤ 5) (hI : ∀ i, rg (Im i)) (t : TW S S3) (hm : RM cnt nx σ ac di) (hk9 : RK P0 P1 sv ik ke) (ht9 : REt sz tx) (k : ∀ M, INV M → AW X (kc + 1) (ks + 6) 2245 [some (.ref 4095), some (.ref 0), some (.ref 103), some (.ref 119), some (iv i), none, none] [] M) :
    AW X kc ks 1461 [some (.ref 4095), some (.ref 0), some (.ref 103), some (.ref 119), some (iv i), none, none] [] (lwW kn nk sz tx S ((ringP 7)) cnt nx σ ((slotP 95)) sv c0 r0 m0 ct B F Z Br Q Fo No Ho Mo In Sn Qn S2 c1 r1 m1 ct1 B1 F1 Z1 Br1 Q1 Fo1 No1 sd rt lf wy gb P0 P1 rf S3 S4 ac Bm Im mm Fi Co Bq Wt mk gy di ke ik ea sd2 rt2 lf2 wy2 sp ou fo) := by
  obtain ⟨ex, hN, sc, hi, hL, hl, hkc, hks⟩ := pre
  have hc9 : 0 ≤ ac ∧ ac ≤ 14 := by rw [hm.2.2.1]; exact hm.1
  refine AW.cast (M2 := (lwW kn nk sz tx S (ρM) cnt nx σ ((slotP 95)) sv c0 r0 m0 ct B F Z Br Q Fo No Ho Mo In Sn Qn S2 c1 r1 m1 ct1 B1 F1 Z1 Br1 Q1 Fo1 No1 sd rt lf wy gb P0 P1 rf S3 S4 ac Bm Im mm Fi Co Bq Wt mk gy di ke ik ea sd2 rt2 lf2 wy2 sp ou fo)) ?_ rfl rfl (by rw [ρM_eq])
  have eK : kIn (xv xs (i + 1)) 1 49 = kIn (xv xs (i + 1)) 1 49 := rfl
  have eA : kIn (xv xs (i + 1)) 1 49 = 0 → cntK (fun j => decide (spF (xv xs (i + 1)) (sG S3 j) ≠ sG S3 j)) (sC S3 * sR S3).toNat = cntK (fun j => decide (spF (xv xs (i + 1)) (sG S j) ≠ sG S j)) (sC S * sR S).toNat := fun _ => by rw [← t.2.2.1, ← t.2.2.2.1, ← t.2.2.2.2.1]
  have hKr : rg (kIn (xv xs (i + 1)) 1 49) := by
    unfold kIn rg
    repeat' split
    all_goals omega
  refine a_aload_n (pc := 1461) ok dL_law_1461 rfl ?_
  refine a_aload_n (pc := 1462) ok dL_law_1462 rfl ?_
  refine a_iload (pc := 1463) ok dL_law_1463 rfl ?_
  refine a_iconst (pc := 1465) ok dL_law_1465 ?_
  refine a_iadd (pc := 1466) ok dL_law_1466 ?_
  refine a_sld (pc := 1467) ok sc dL_law_1467 (by omega) hL ?_
  refine a_aload_n (pc := 1468) ok dL_law_1468 rfl ?_
  refine l_callS (pc := 1469) ok ex πL_M 65 dL_law_1469 (ug4 175 (by decide +kernel) rfl) (ug4 176 (by decide +kernel) rfl) miL_spread (W_spread (v := (xv xs (i + 1))) hl t.1 hm.1 hm.2.1 (xv_rg _ _)) ⟨by decide, by decide, rfl, rfl⟩ ⟨hkc, hks⟩ rfl rfl (Nat.le_of_ble_eq_true rfl) rfl rfl nd_M (fun _ _ h => by obtain ⟨_, _, _, M9, rfl, rfl⟩ := h; rfl) ?_
  rintro _ M8 ⟨rfl, fo', hfo, M9, hp, rfl⟩
  subst hp
  refine AW.cast (st2 := [iv (kIn (xv xs (i + 1)) 1 49)]) (M2 := (lwW (if kIn (xv xs (i + 1)) 1 49 = 0 then 0 else kn) (if kIn (xv xs (i + 1)) 1 49 = 0 then 0 else nk) sz tx (if kIn (xv xs (i + 1)) 1 49 = 0 then gQ S (xv xs (i + 1)) else S) (ρM) (if kIn (xv xs (i + 1)) 1 49 = 0 then min (cnt + 1) 14 else cnt) (if kIn (xv xs (i + 1)) 1 49 = 0 then (nx + 1) % 14 else nx) (if kIn (xv xs (i + 1)) 1 49 = 0 then σP S nx σ else σ) ((slotP 95)) sv c0 r0 m0 ct B F Z Br Q Fo No Ho Mo In Sn Qn S2 c1 r1 m1 ct1 B1 F1 Z1 Br1 Q1 Fo1 No1 sd rt lf wy gb P0 P1 rf S3 S4 ac Bm Im mm Fi Co Bq Wt mk gy di ke ik ea sd2 rt2 lf2 wy2 sp ou (fo'))) ?_ rfl rfl rfl
  refine AW.cast (M2 := (lwW (if kIn (xv xs (i + 1)) 1 49 = 0 then 0 else kn) (if kIn (xv xs (i + 1)) 1 49 = 0 then 0 else nk) sz tx (if kIn (xv xs (i + 1)) 1 49 = 0 then gQ S (xv xs (i + 1)) else S) ((ringP 7)) (if kIn (xv xs (i + 1)) 1 49 = 0 then min (cnt + 1) 14 else cnt) (if kIn (xv xs (i + 1)) 1 49 = 0 then (nx + 1) % 14 else nx) (if kIn (xv xs (i + 1)) 1 49 = 0 then σP S nx σ else σ) ((slotP 95)) sv c0 r0 m0 ct B F Z Br Q Fo No Ho Mo In Sn Qn S2 c1 r1 m1 ct1 B1 F1 Z1 Br1 Q1 Fo1 No1 sd rt lf wy gb P0 P1 rf S3 S4 ac Bm Im mm Fi Co Bq Wt mk gy di ke ik ea sd2 rt2 lf2 wy2 sp ou (fo'))) ?_ rfl rfl (by rw [ρM_eq])
  refine a_istore (pc := 1472) ok dL_law_1472 rfl (by rw [hN]; decide) ?_
  refine a_aload_n (pc := 1474) ok dL_law_1474 rfl ?_
  refine a_aload_n (pc := 1475) ok dL_law_1475 rfl ?_
  refine a_iload (pc := 1476) ok dL_law_1476 rfl ?_
  refine a_iconst (pc := 1478) ok dL_law_1478 ?_
  refine a_iadd (pc := 1479) ok dL_law_1479 ?_
  refine a_sld (pc := 1480) ok sc dL_law_1480 (by omega) hL ?_
  refine a_callV (pc := 1481) ok [103, 105, 110, 111, 112, 113, 114, 115, 116, 117, 106, 104, 107, 108, 109, 118] dL_law_1481 mvL_202 miX7_spread (c_mspread t.2.1 hB hI hc9 (xv_rg _ _)) ⟨by decide, by decide, rfl, rfl, (by show _ ≤ 601024; omega), (by show _ ≤ 7293034; omega)⟩ rfl rfl (Nat.le_of_ble_eq_true rfl) rfl (by decide) rfl rfl (fun _ _ h => WM_len h.2) ?_
  rintro _ M' ⟨rfl, hwm⟩
  obtain ⟨Bm', Im', mm', Fi', Co', Bq', Wt', mk', gy', S4', ea', sd2', rt2', lf2', wy2', sp', ou', rfl, hB', hI'⟩ := hwm
  refine AW.cast (st2 := [iv (w32 (if kIn (xv xs (i + 1)) 1 49 = 0 then cntK (fun j => decide (spF (xv xs (i + 1)) (sG S3 j) ≠ sG S3 j)) (sC S3 * sR S3).toNat else 0))]) (M2 := (lwW (if kIn (xv xs (i + 1)) 1 49 = 0 then 0 else kn) (if kIn (xv xs (i + 1)) 1 49 = 0 then 0 else nk) sz tx (if kIn (xv xs (i + 1)) 1 49 = 0 then gQ S (xv xs (i + 1)) else S) ((ringP 7)) (if kIn (xv xs (i + 1)) 1 49 = 0 then min (cnt + 1) 14 else cnt) (if kIn (xv xs (i + 1)) 1 49 = 0 then (nx + 1) % 14 else nx) (if kIn (xv xs (i + 1)) 1 49 = 0 then σP S nx σ else σ) ((slotP 95)) sv c0 r0 m0 ct B F Z Br Q Fo No Ho Mo In Sn Qn S2 c1 r1 m1 ct1 B1 F1 Z1 Br1 Q1 Fo1 No1 sd rt lf wy gb P0 P1 (kIn (xv xs (i + 1)) 1 49) (if kIn (xv xs (i + 1)) 1 49 = 0 then gQ S3 (xv xs (i + 1)) else S3) (S4') (if kIn (xv xs (i + 1)) 1 49 = 0 then aP ac else ac) (Bm') (Im') (mm') (Fi') (Co') (Bq') (Wt') (mk') (gy') (if kIn (xv xs (i + 1)) 1 49 = 0 then dP S3 ac di else di) ke ik (ea') (sd2') (rt2') (lf2') (wy2') (sp') (ou') (fo'))) ?_ rfl (congrArg (fun v : Value => [v]) (iv_w _)) rfl
  have hInv : INV (lwW (if kIn (xv xs (i + 1)) 1 49 = 0 then 0 else kn) (if kIn (xv xs (i + 1)) 1 49 = 0 then 0 else nk) sz tx (if kIn (xv xs (i + 1)) 1 49 = 0 then gQ S (xv xs (i + 1)) else S) ((ringP 7)) (if kIn (xv xs (i + 1)) 1 49 = 0 then min (cnt + 1) 14 else cnt) (if kIn (xv xs (i + 1)) 1 49 = 0 then (nx + 1) % 14 else nx) (if kIn (xv xs (i + 1)) 1 49 = 0 then σP S nx σ else σ) ((slotP 95)) sv c0 r0 m0 ct B F Z Br Q Fo No Ho Mo In Sn Qn S2 c1 r1 m1 ct1 B1 F1 Z1 Br1 Q1 Fo1 No1 sd rt lf wy gb P0 P1 (kIn (xv xs (i + 1)) 1 49) (if kIn (xv xs (i + 1)) 1 49 = 0 then gQ S3 (xv xs (i + 1)) else S3) (S4') (if kIn (xv xs (i + 1)) 1 49 = 0 then aP ac else ac) (Bm') (Im') (mm') (Fi') (Co') (Bq') (Wt') (mk') (gy') (if kIn (xv xs (i + 1)) 1 49 = 0 then dP S3 ac di else di) ke ik (ea') (sd2') (rt2') (lf2') (wy2') (sp') (ou') (fo')) := ⟨_, _, _, _, _, _, _, _, _, _, _, _, _, _, _, _, _, _, _, _, _, _, _, _, _, _, _, _, _, _, _, _, _, _, _, _, _, _, _, _, _, _, _, _, _, _, _, _, _, _, _, _, _, _, _, _, _, _, _, _, _, _, _, _, _, _, _, _, rfl, CN_if hcn, hr, hB', hI', TW_if eK t (fun z => ⟨SV_gQ t.1 (kIn_0 z), SV_gQ t.2.1 (kIn_0 z), StE_gQ t.2.2 _⟩), RM_if eK hm t, hk9, ht9⟩
  refine a_istore (pc := 1484) ok dL_law_1484 rfl (by rw [hN]; decide) ?_
  refine a_aload_n (pc := 1486) ok dL_law_1486 rfl ?_
  refine x_callVp (pc := 1487) ok [103, 104, 105, 106, 107, 108, 109, 110, 111, 112, 113, 114, 115, 116, 117, 118] 1 dL_law_1487 mvL_121 miX7_thrown (c_thrown) ⟨by decide, by decide, rfl, rfl, (by show _ ≤ 601024; omega), (by show _ ≤ 7293034; omega)⟩ rfl rfl (Nat.le_of_ble_eq_true rfl) rfl rfl (by decide) rfl rfl ?_
  refine a_iload (pc := 1490) ok dL_law_1490 rfl ?_
  refine a_icmp_eq (pc := 1492) (tgt := 1497) ok dL_law_1492 (by decide) (by first | exact hKr | (rw [eK]; exact hKr)) (by first | exact hKr | (rw [eK]; exact hKr)) (fun c1492 => ?_) (fun c1492 => ?_)
  · refine a_iload (pc := 1497) ok dL_law_1497 rfl ?_
    refine a_if_ne (pc := 1499) (tgt := 1514) ok dL_law_1499 (by decide) (by exact hKr) (fun c1499 => ?_) (fun c1499 => ?_)
    · refine a_goto (pc := 1514) (tgt := 2245) ok dL_law_1514 (by decide) ?_
      exact AW.forget (k _ hInv) (by repeat' (first | exact trivial | refine ⟨rfl, ?_⟩))
    · have h0 : kIn (xv xs (i + 1)) 1 49 = 0 := by first | exact c1499 | omega
      have e1 := hfo h0
      have e2 : w32 (if kIn (xv xs (i + 1)) 1 49 = 0 then cntK (fun j => decide (spF (xv xs (i + 1)) (sG S3 j) ≠ sG S3 j)) (sC S3 * sR S3).toNat else 0) = w32 (cntK (fun j => decide (spF (xv xs (i + 1)) (sG S j) ≠ sG S j)) (sC S * sR S).toNat) := by have q := eK.trans h0; have q2 := eA h0; rw [if_pos q, q2]
      refine a_aload_n (pc := 1502) ok dL_law_1502 rfl ?_
      refine a_iconst (pc := 1503) ok dL_law_1503 ?_
      refine a_lald (pc := 1504) ok dL_law_1504 (rfl) (by decide) (by omega) ?_
      refine a_iload (pc := 1505) ok dL_law_1505 rfl ?_
      refine a_i2l (pc := 1507) ok dL_law_1507 (by exact rg_w _) ?_
      refine a_lcmp (pc := 1508) ok dL_law_1508 (by first | (rw [e1]; exact rgL_w9 _) | exact rgL_w9 _) (by first | (rw [e1]; exact rgL_w9 _) | exact rgL_w9 _) (fun c1508 => ?_) (fun c1508 => ?_) (fun c1508 => ?_)
      · exfalso; rw [e1, e2] at c1508; exact absurd c1508 (Int.lt_irrefl _)
      · refine a_if_eq (pc := 1509) (tgt := 1514) ok dL_law_1509 (by decide) (by first | omega | (unfold rg; omega) | (simp only [rg] at *; omega) | exact bz_rg _ | grind [rg]) (fun c1509 => ?_) (fun c1509 => ?_)
        · refine a_goto (pc := 1514) (tgt := 2245) ok dL_law_1514 (by decide) ?_
          exact AW.forget (k _ hInv) (by repeat' (first | exact trivial | refine ⟨rfl, ?_⟩))
        · exact absurd rfl c1509
      · exfalso; rw [e1, e2] at c1508; exact absurd c1508 (Int.lt_irrefl _)
  · exact absurd eK c1492
end LC111
