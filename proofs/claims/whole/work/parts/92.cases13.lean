/-! THE LAW: its cases. Printed by wip/whole/gen/mk91.py. -/
section LC112
variable {kn : Int} {nk : Int} {sz : Int} {tx : Int → Int} {S : St} {cnt : Int} {nx : Int} {σ : Nat → St} {sv : Int → Int} {c0 : Int} {r0 : Int} {m0 : Int} {ct : Int} {B : Int → Int} {F : Int → Int} {Z : Int → Int} {Br : Int → Int} {Q : Int → Int} {Fo : Int → Int} {No : Int → Int} {Ho : Int → Int} {Mo : Int → Int} {In : Int → Int} {Sn : Int → Int} {Qn : Int → Int} {S2 : St} {c1 : Int} {r1 : Int} {m1 : Int} {ct1 : Int} {B1 : Int → Int} {F1 : Int → Int} {Z1 : Int → Int} {Br1 : Int → Int} {Q1 : Int → Int} {Fo1 : Int → Int} {No1 : Int → Int} {sd : Int} {rt : Int} {lf : Int} {wy : Int} {gb : Int → Int} {P0 : St} {P1 : St} {rf : Int} {S3 : St} {S4 : St} {ac : Int} {Bm : Int → Int} {Im : Int → Int} {mm : Int} {Fi : Int → Int} {Co : Int → Int} {Bq : Int → Int} {Wt : Int → Int} {mk : Int → Int} {gy : Int → Int} {di : Int → Int} {ke : Int → Int} {ik : Int → Int} {ea : Int → Int} {sd2 : Int} {rt2 : Int} {lf2 : Int} {wy2 : Int} {sp : Int} {ou : Int} {fo : Int → Int}
theorem cs_noise {X : Cx} {b L : Nat} {xs : Nat → Int32} {i : Int} {kc ks : Nat} (ok : OKL X) (pre : PRE X b L xs i kc ks) (hcn : CN S kn nk c0 r0 m0 ct B F Z Fo No Ho Mo In) (hr : rwI B1 F1 Z1) (hB : ∀ i, 0 ≤ Bm i ∧ Bm i ≤ 5) (hI : ∀ i, rg (Im i)) (t : TW S S3) (hm : RM cnt nx σ ac di) (hk9 : RK P0 P1 sv ik ke) (ht9 : REt sz tx) (k : ∀ M, INV M → AW X (kc + 1) (ks + 6) 2245 [some (.ref 4095), some (.ref 0), some (.ref 103), some (.ref 119), some (iv i), none, none] [] M) :
    AW X kc ks 1517 [some (.ref 4095), some (.ref 0), some (.ref 103), some (.ref 119), some (iv i), none, none] [] (lwW kn nk sz tx S ((ringP 7)) cnt nx σ ((slotP 95)) sv c0 r0 m0 ct B F Z Br Q Fo No Ho Mo In Sn Qn S2 c1 r1 m1 ct1 B1 F1 Z1 Br1 Q1 Fo1 No1 sd rt lf wy gb P0 P1 rf S3 S4 ac Bm Im mm Fi Co Bq Wt mk gy di ke ik ea sd2 rt2 lf2 wy2 sp ou fo) := by
  obtain ⟨ex, hN, sc, hi, hL, hl, hkc, hks⟩ := pre
  have hc9 : 0 ≤ ac ∧ ac ≤ 14 := by rw [hm.2.2.1]; exact hm.1
  refine AW.cast (M2 := (lwW kn nk sz tx S (ρM) cnt nx σ ((slotP 95)) sv c0 r0 m0 ct B F Z Br Q Fo No Ho Mo In Sn Qn S2 c1 r1 m1 ct1 B1 F1 Z1 Br1 Q1 Fo1 No1 sd rt lf wy gb P0 P1 rf S3 S4 ac Bm Im mm Fi Co Bq Wt mk gy di ke ik ea sd2 rt2 lf2 wy2 sp ou fo)) ?_ rfl rfl (by rw [ρM_eq])
  have eK : kIn (xv xs (i + 3)) 1 50 = kIn (xv xs (i + 3)) 1 50 := rfl
  have eA : kIn (xv xs (i + 3)) 1 50 = 0 → cntK (fun j => decide (noF (sG S3) (ll (xv xs (i + 1)) (xv xs (i + 2))) (xv xs (i + 3)) j ≠ sG S3 j)) (sC S3 * sR S3).toNat = cntK (fun j => decide (noF (sG S) (ll (xv xs (i + 1)) (xv xs (i + 2))) (xv xs (i + 3)) j ≠ sG S j)) (sC S * sR S).toNat := fun _ => by rw [← t.2.2.1, ← t.2.2.2.1, ← t.2.2.2.2.1]
  have hKr : rg (kIn (xv xs (i + 3)) 1 50) := by
    unfold kIn rg
    repeat' split
    all_goals omega
  refine a_aload_n (pc := 1517) ok dL_law_1517 rfl ?_
  refine a_aload_n (pc := 1518) ok dL_law_1518 rfl ?_
  refine a_iload (pc := 1519) ok dL_law_1519 rfl ?_
  refine a_iconst (pc := 1521) ok dL_law_1521 ?_
  refine a_iadd (pc := 1522) ok dL_law_1522 ?_
  refine a_sld (pc := 1523) ok sc dL_law_1523 (by omega) hL ?_
  refine a_i2l (pc := 1524) ok dL_law_1524 (by first | exact xv_rg _ _ | omega | (unfold rg; omega) | (simp only [rg] at *; omega) | exact bz_rg _ | grind [rg]) ?_
  refine a_bipush (pc := 1525) ok dL_law_1525 (by decide) ?_
  refine a_lshl (pc := 1527) ok dL_law_1527 ?_
  refine a_aload_n (pc := 1528) ok dL_law_1528 rfl ?_
  refine a_iload (pc := 1529) ok dL_law_1529 rfl ?_
  refine a_iconst (pc := 1531) ok dL_law_1531 ?_
  refine a_iadd (pc := 1532) ok dL_law_1532 ?_
  refine a_sld (pc := 1533) ok sc dL_law_1533 (by omega) hL ?_
  refine a_i2l (pc := 1534) ok dL_law_1534 (by first | exact xv_rg _ _ | omega | (unfold rg; omega) | (simp only [rg] at *; omega) | exact bz_rg _ | grind [rg]) ?_
  refine a_ldc2 (pc := 1535) (z := 4294967295) (v := Int64.ofInt 4294967295) ok dL_law_1535 (ug7 66 (by decide +kernel) rfl) rfl ?_
  refine a_land (pc := 1538) ok dL_law_1538 ?_
  refine a_lor (pc := 1539) ok dL_law_1539 ?_
  refine a_aload_n (pc := 1540) ok dL_law_1540 rfl ?_
  refine a_iload (pc := 1541) ok dL_law_1541 rfl ?_
  refine a_iconst (pc := 1543) ok dL_law_1543 ?_
  refine a_iadd (pc := 1544) ok dL_law_1544 ?_
  refine a_sld (pc := 1545) ok sc dL_law_1545 (by omega) hL ?_
  refine a_aload_n (pc := 1546) ok dL_law_1546 rfl ?_
  refine l_callS (pc := 1547) ok ex πL_M 65 dL_law_1547 (ug4 183 (by decide +kernel) rfl) (ug4 184 (by decide +kernel) rfl) miL_noise (W_noise (x := (ll (xv xs (i + 1)) (xv xs (i + 2)))) (v := (xv xs (i + 3))) hl t.1 hm.1 hm.2.1 (xv_rg _ _)) ⟨by decide, by decide, rfl, rfl⟩ ⟨hkc, hks⟩ rfl rfl (Nat.le_of_ble_eq_true rfl) rfl rfl nd_M (fun _ _ h => by obtain ⟨_, _, _, M9, rfl, rfl⟩ := h; rfl) ?_
  rintro _ M8 ⟨rfl, fo', hfo, M9, hp, rfl⟩
  subst hp
  refine AW.cast (st2 := [iv (kIn (xv xs (i + 3)) 1 50)]) (M2 := (lwW (if kIn (xv xs (i + 3)) 1 50 = 0 then 0 else kn) (if kIn (xv xs (i + 3)) 1 50 = 0 then 0 else nk) sz tx (if kIn (xv xs (i + 3)) 1 50 = 0 then gO S (ll (xv xs (i + 1)) (xv xs (i + 2))) (xv xs (i + 3)) else S) (ρM) (if kIn (xv xs (i + 3)) 1 50 = 0 then min (cnt + 1) 14 else cnt) (if kIn (xv xs (i + 3)) 1 50 = 0 then (nx + 1) % 14 else nx) (if kIn (xv xs (i + 3)) 1 50 = 0 then σP S nx σ else σ) ((slotP 95)) sv c0 r0 m0 ct B F Z Br Q Fo No Ho Mo In Sn Qn S2 c1 r1 m1 ct1 B1 F1 Z1 Br1 Q1 Fo1 No1 sd rt lf wy gb P0 P1 rf S3 S4 ac Bm Im mm Fi Co Bq Wt mk gy di ke ik ea sd2 rt2 lf2 wy2 sp ou (fo'))) ?_ rfl rfl rfl
  refine AW.cast (M2 := (lwW (if kIn (xv xs (i + 3)) 1 50 = 0 then 0 else kn) (if kIn (xv xs (i + 3)) 1 50 = 0 then 0 else nk) sz tx (if kIn (xv xs (i + 3)) 1 50 = 0 then gO S (ll (xv xs (i + 1)) (xv xs (i + 2))) (xv xs (i + 3)) else S) ((ringP 7)) (if kIn (xv xs (i + 3)) 1 50 = 0 then min (cnt + 1) 14 else cnt) (if kIn (xv xs (i + 3)) 1 50 = 0 then (nx + 1) % 14 else nx) (if kIn (xv xs (i + 3)) 1 50 = 0 then σP S nx σ else σ) ((slotP 95)) sv c0 r0 m0 ct B F Z Br Q Fo No Ho Mo In Sn Qn S2 c1 r1 m1 ct1 B1 F1 Z1 Br1 Q1 Fo1 No1 sd rt lf wy gb P0 P1 rf S3 S4 ac Bm Im mm Fi Co Bq Wt mk gy di ke ik ea sd2 rt2 lf2 wy2 sp ou (fo'))) ?_ rfl rfl (by rw [ρM_eq])
  refine a_istore (pc := 1550) ok dL_law_1550 rfl (by rw [hN]; decide) ?_
  refine a_aload_n (pc := 1552) ok dL_law_1552 rfl ?_
  refine a_aload_n (pc := 1553) ok dL_law_1553 rfl ?_
  refine a_iload (pc := 1554) ok dL_law_1554 rfl ?_
  refine a_iconst (pc := 1556) ok dL_law_1556 ?_
  refine a_iadd (pc := 1557) ok dL_law_1557 ?_
  refine a_sld (pc := 1558) ok sc dL_law_1558 (by omega) hL ?_
  refine a_i2l (pc := 1559) ok dL_law_1559 (by first | exact xv_rg _ _ | omega | (unfold rg; omega) | (simp only [rg] at *; omega) | exact bz_rg _ | grind [rg]) ?_
  refine a_bipush (pc := 1560) ok dL_law_1560 (by decide) ?_
  refine a_lshl (pc := 1562) ok dL_law_1562 ?_
  refine a_aload_n (pc := 1563) ok dL_law_1563 rfl ?_
  refine a_iload (pc := 1564) ok dL_law_1564 rfl ?_
  refine a_iconst (pc := 1566) ok dL_law_1566 ?_
  refine a_iadd (pc := 1567) ok dL_law_1567 ?_
  refine a_sld (pc := 1568) ok sc dL_law_1568 (by omega) hL ?_
  refine a_i2l (pc := 1569) ok dL_law_1569 (by first | exact xv_rg _ _ | omega | (unfold rg; omega) | (simp only [rg] at *; omega) | exact bz_rg _ | grind [rg]) ?_
  refine a_ldc2 (pc := 1570) (z := 4294967295) (v := Int64.ofInt 4294967295) ok dL_law_1570 (ug7 66 (by decide +kernel) rfl) rfl ?_
  refine a_land (pc := 1573) ok dL_law_1573 ?_
  refine a_lor (pc := 1574) ok dL_law_1574 ?_
  refine a_aload_n (pc := 1575) ok dL_law_1575 rfl ?_
  refine a_iload (pc := 1576) ok dL_law_1576 rfl ?_
  refine a_iconst (pc := 1578) ok dL_law_1578 ?_
  refine a_iadd (pc := 1579) ok dL_law_1579 ?_
  refine a_sld (pc := 1580) ok sc dL_law_1580 (by omega) hL ?_
  refine a_callV (pc := 1581) ok [103, 105, 110, 111, 112, 113, 114, 115, 116, 117, 106, 104, 107, 108, 109, 118] dL_law_1581 mvL_208 miX7_noise (c_mnoise t.2.1 hB hI hc9 (xv_rg _ _)) ⟨by decide, by decide, rfl, rfl, (by show _ ≤ 601024; omega), (by show _ ≤ 7293034; omega)⟩ rfl rfl (Nat.le_of_ble_eq_true rfl) rfl (by decide) rfl rfl (fun _ _ h => WM_len h.2) ?_
  rintro _ M' ⟨rfl, hwm⟩
  obtain ⟨Bm', Im', mm', Fi', Co', Bq', Wt', mk', gy', S4', ea', sd2', rt2', lf2', wy2', sp', ou', rfl, hB', hI'⟩ := hwm
  refine AW.cast (st2 := [iv (w32 (if kIn (xv xs (i + 3)) 1 50 = 0 then cntK (fun j => decide (noF (sG S3) (ll (xv xs (i + 1)) (xv xs (i + 2))) (xv xs (i + 3)) j ≠ sG S3 j)) (sC S3 * sR S3).toNat else 0))]) (M2 := (lwW (if kIn (xv xs (i + 3)) 1 50 = 0 then 0 else kn) (if kIn (xv xs (i + 3)) 1 50 = 0 then 0 else nk) sz tx (if kIn (xv xs (i + 3)) 1 50 = 0 then gO S (ll (xv xs (i + 1)) (xv xs (i + 2))) (xv xs (i + 3)) else S) ((ringP 7)) (if kIn (xv xs (i + 3)) 1 50 = 0 then min (cnt + 1) 14 else cnt) (if kIn (xv xs (i + 3)) 1 50 = 0 then (nx + 1) % 14 else nx) (if kIn (xv xs (i + 3)) 1 50 = 0 then σP S nx σ else σ) ((slotP 95)) sv c0 r0 m0 ct B F Z Br Q Fo No Ho Mo In Sn Qn S2 c1 r1 m1 ct1 B1 F1 Z1 Br1 Q1 Fo1 No1 sd rt lf wy gb P0 P1 (kIn (xv xs (i + 3)) 1 50) (if kIn (xv xs (i + 3)) 1 50 = 0 then gO S3 (ll (xv xs (i + 1)) (xv xs (i + 2))) (xv xs (i + 3)) else S3) (S4') (if kIn (xv xs (i + 3)) 1 50 = 0 then aP ac else ac) (Bm') (Im') (mm') (Fi') (Co') (Bq') (Wt') (mk') (gy') (if kIn (xv xs (i + 3)) 1 50 = 0 then dP S3 ac di else di) ke ik (ea') (sd2') (rt2') (lf2') (wy2') (sp') (ou') (fo'))) ?_ rfl (congrArg (fun v : Value => [v]) (iv_w _)) rfl
  have hInv : INV (lwW (if kIn (xv xs (i + 3)) 1 50 = 0 then 0 else kn) (if kIn (xv xs (i + 3)) 1 50 = 0 then 0 else nk) sz tx (if kIn (xv xs (i + 3)) 1 50 = 0 then gO S (ll (xv xs (i + 1)) (xv xs (i + 2))) (xv xs (i + 3)) else S) ((ringP 7)) (if kIn (xv xs (i + 3)) 1 50 = 0 then min (cnt + 1) 14 else cnt) (if kIn (xv xs (i + 3)) 1 50 = 0 then (nx + 1) % 14 else nx) (if kIn (xv xs (i + 3)) 1 50 = 0 then σP S nx σ else σ) ((slotP 95)) sv c0 r0 m0 ct B F Z Br Q Fo No Ho Mo In Sn Qn S2 c1 r1 m1 ct1 B1 F1 Z1 Br1 Q1 Fo1 No1 sd rt lf wy gb P0 P1 (kIn (xv xs (i + 3)) 1 50) (if kIn (xv xs (i + 3)) 1 50 = 0 then gO S3 (ll (xv xs (i + 1)) (xv xs (i + 2))) (xv xs (i + 3)) else S3) (S4') (if kIn (xv xs (i + 3)) 1 50 = 0 then aP ac else ac) (Bm') (Im') (mm') (Fi') (Co') (Bq') (Wt') (mk') (gy') (if kIn (xv xs (i + 3)) 1 50 = 0 then dP S3 ac di else di) ke ik (ea') (sd2') (rt2') (lf2') (wy2') (sp') (ou') (fo')) := ⟨_, _, _, _, _, _, _, _, _, _, _, _, _, _, _, _, _, _, _, _, _, _, _, _, _, _, _, _, _, _, _, _, _, _, _, _, _, _, _, _, _, _, _, _, _, _, _, _, _, _, _, _, _, _, _, _, _, _, _, _, _, _, _, _, _, _, _, _, rfl, CN_if hcn, hr, hB', hI', TW_if eK t (fun z => ⟨SV_gO t.1, SV_gO t.2.1, StE_gO t.2.2 _ _⟩), RM_if eK hm t, hk9, ht9⟩
  refine a_istore (pc := 1584) ok dL_law_1584 rfl (by rw [hN]; decide) ?_
  refine a_aload_n (pc := 1586) ok dL_law_1586 rfl ?_
  refine x_callVp (pc := 1587) ok [103, 104, 105, 106, 107, 108, 109, 110, 111, 112, 113, 114, 115, 116, 117, 118] 1 dL_law_1587 mvL_121 miX7_thrown (c_thrown) ⟨by decide, by decide, rfl, rfl, (by show _ ≤ 601024; omega), (by show _ ≤ 7293034; omega)⟩ rfl rfl (Nat.le_of_ble_eq_true rfl) rfl rfl (by decide) rfl rfl ?_
  refine a_iload (pc := 1590) ok dL_law_1590 rfl ?_
  refine a_icmp_eq (pc := 1592) (tgt := 1597) ok dL_law_1592 (by decide) (by first | exact hKr | (rw [eK]; exact hKr)) (by first | exact hKr | (rw [eK]; exact hKr)) (fun c1592 => ?_) (fun c1592 => ?_)
  · refine a_iload (pc := 1597) ok dL_law_1597 rfl ?_
    refine a_if_ne (pc := 1599) (tgt := 1614) ok dL_law_1599 (by decide) (by exact hKr) (fun c1599 => ?_) (fun c1599 => ?_)
    · refine a_goto (pc := 1614) (tgt := 2245) ok dL_law_1614 (by decide) ?_
      exact AW.forget (k _ hInv) (by repeat' (first | exact trivial | refine ⟨rfl, ?_⟩))
    · have h0 : kIn (xv xs (i + 3)) 1 50 = 0 := by first | exact c1599 | omega
      have e1 := hfo h0
      have e2 : w32 (if kIn (xv xs (i + 3)) 1 50 = 0 then cntK (fun j => decide (noF (sG S3) (ll (xv xs (i + 1)) (xv xs (i + 2))) (xv xs (i + 3)) j ≠ sG S3 j)) (sC S3 * sR S3).toNat else 0) = w32 (cntK (fun j => decide (noF (sG S) (ll (xv xs (i + 1)) (xv xs (i + 2))) (xv xs (i + 3)) j ≠ sG S j)) (sC S * sR S).toNat) := by have q := eK.trans h0; have q2 := eA h0; rw [if_pos q, q2]
      refine a_aload_n (pc := 1602) ok dL_law_1602 rfl ?_
      refine a_iconst (pc := 1603) ok dL_law_1603 ?_
      refine a_lald (pc := 1604) ok dL_law_1604 (rfl) (by decide) (by omega) ?_
      refine a_iload (pc := 1605) ok dL_law_1605 rfl ?_
      refine a_i2l (pc := 1607) ok dL_law_1607 (by exact rg_w _) ?_
      refine a_lcmp (pc := 1608) ok dL_law_1608 (by first | (rw [e1]; exact rgL_w9 _) | exact rgL_w9 _) (by first | (rw [e1]; exact rgL_w9 _) | exact rgL_w9 _) (fun c1608 => ?_) (fun c1608 => ?_) (fun c1608 => ?_)
      · exfalso; rw [e1, e2] at c1608; exact absurd c1608 (Int.lt_irrefl _)
      · refine a_if_eq (pc := 1609) (tgt := 1614) ok dL_law_1609 (by decide) (by first | exact xv_rg _ _ | omega | (unfold rg; omega) | (simp only [rg] at *; omega) | exact bz_rg _ | grind [rg]) (fun c1609 => ?_) (fun c1609 => ?_)
        · refine a_goto (pc := 1614) (tgt := 2245) ok dL_law_1614 (by decide) ?_
          exact AW.forget (k _ hInv) (by repeat' (first | exact trivial | refine ⟨rfl, ?_⟩))
        · exact absurd rfl c1609
      · exfalso; rw [e1, e2] at c1608; exact absurd c1608 (Int.lt_irrefl _)
  · exact absurd eK c1592
theorem cs_undo {X : Cx} {b L : Nat} {xs : Nat → Int32} {i : Int} {kc ks : Nat} (ok : OKL X) (pre : PRE X b L xs i kc ks) (hcn : CN S kn nk c0 r0 m0 ct B F Z Fo No Ho Mo In) (hr : rwI B1 F1 Z1) (hB : ∀ i, 0 ≤ Bm i ∧ Bm i ≤ 5) (hI : ∀ i, rg (Im i)) (t : TW S S3) (hm : RM cnt nx σ ac di) (hk9 : RK P0 P1 sv ik ke) (ht9 : REt sz tx) (k : ∀ M, INV M → AW X (kc + 1) (ks + 6) 2245 [some (.ref 4095), some (.ref 0), some (.ref 103), some (.ref 119), some (iv i), none, none] [] M) :
    AW X kc ks 1617 [some (.ref 4095), some (.ref 0), some (.ref 103), some (.ref 119), some (iv i), none, none] [] (lwW kn nk sz tx S ((ringP 7)) cnt nx σ ((slotP 95)) sv c0 r0 m0 ct B F Z Br Q Fo No Ho Mo In Sn Qn S2 c1 r1 m1 ct1 B1 F1 Z1 Br1 Q1 Fo1 No1 sd rt lf wy gb P0 P1 rf S3 S4 ac Bm Im mm Fi Co Bq Wt mk gy di ke ik ea sd2 rt2 lf2 wy2 sp ou fo) := by
  obtain ⟨ex, hN, sc, hi, hL, hl, hkc, hks⟩ := pre
  have hc9 : 0 ≤ ac ∧ ac ≤ 14 := by rw [hm.2.2.1]; exact hm.1
  obtain ⟨P9, hP9⟩ : ∃ P, cnt ≠ 0 → atD di (ac - 1) P ∧ TW (σ ((nx + 13) % 14).toNat) P := by
    by_cases z : cnt = 0
    · exact ⟨S, fun h => absurd z h⟩
    · obtain ⟨P, hP⟩ := RM_top hm z; exact ⟨P, fun _ => hP⟩
  refine AW.cast (M2 := (lwW kn nk sz tx S (ρM) cnt nx σ ((slotP 95)) sv c0 r0 m0 ct B F Z Br Q Fo No Ho Mo In Sn Qn S2 c1 r1 m1 ct1 B1 F1 Z1 Br1 Q1 Fo1 No1 sd rt lf wy gb P0 P1 rf S3 S4 ac Bm Im mm Fi Co Bq Wt mk gy di ke ik ea sd2 rt2 lf2 wy2 sp ou fo)) ?_ rfl rfl (by rw [ρM_eq])
  have eK : (if ac ≠ 0 then 0 else 1) = kUndo cnt := (by rw [hm.2.2.1]; rfl)
  have eA : kUndo cnt = 0 → ac - 1 = cnt - 1 := fun _ => by rw [hm.2.2.1]
  have hKr : rg (kUndo cnt) := by
    unfold kUndo rg
    repeat' split
    all_goals omega
  refine a_aload_n (pc := 1617) ok dL_law_1617 rfl ?_
  refine a_aload_n (pc := 1618) ok dL_law_1618 rfl ?_
  refine l_callS (pc := 1619) ok ex πL_M 65 dL_law_1619 (ug4 198 (by decide +kernel) rfl) (ug4 199 (by decide +kernel) rfl) miL_undo (W_undo hl hm.1 hm.2.1) ⟨by decide, by decide, rfl, rfl⟩ ⟨hkc, hks⟩ rfl rfl (Nat.le_of_ble_eq_true rfl) rfl rfl nd_M (fun _ _ h => by obtain ⟨_, _, _, M9, rfl, rfl⟩ := h; rfl) ?_
  rintro _ M8 ⟨rfl, fo', hfo, M9, hp, rfl⟩
  subst hp
  refine AW.cast (st2 := [iv (kUndo cnt)]) (M2 := (lwW (if kUndo cnt = 0 then 0 else kn) (if kUndo cnt = 0 then 0 else nk) sz tx (if kUndo cnt = 0 then σ ((nx + 13) % 14).toNat else S) (ρM) (if kUndo cnt = 0 then cnt - 1 else cnt) (if kUndo cnt = 0 then (nx + 13) % 14 else nx) σ ((slotP 95)) sv c0 r0 m0 ct B F Z Br Q Fo No Ho Mo In Sn Qn S2 c1 r1 m1 ct1 B1 F1 Z1 Br1 Q1 Fo1 No1 sd rt lf wy gb P0 P1 rf S3 S4 ac Bm Im mm Fi Co Bq Wt mk gy di ke ik ea sd2 rt2 lf2 wy2 sp ou (fo'))) ?_ rfl rfl rfl
  refine AW.cast (M2 := (lwW (if kUndo cnt = 0 then 0 else kn) (if kUndo cnt = 0 then 0 else nk) sz tx (if kUndo cnt = 0 then σ ((nx + 13) % 14).toNat else S) ((ringP 7)) (if kUndo cnt = 0 then cnt - 1 else cnt) (if kUndo cnt = 0 then (nx + 13) % 14 else nx) σ ((slotP 95)) sv c0 r0 m0 ct B F Z Br Q Fo No Ho Mo In Sn Qn S2 c1 r1 m1 ct1 B1 F1 Z1 Br1 Q1 Fo1 No1 sd rt lf wy gb P0 P1 rf S3 S4 ac Bm Im mm Fi Co Bq Wt mk gy di ke ik ea sd2 rt2 lf2 wy2 sp ou (fo'))) ?_ rfl rfl (by rw [ρM_eq])
  refine a_istore (pc := 1622) ok dL_law_1622 rfl (by rw [hN]; decide) ?_
  refine a_aload_n (pc := 1624) ok dL_law_1624 rfl ?_
  refine a_callV (pc := 1625) ok [103, 105, 110, 111, 112, 113, 114, 115, 116, 117, 106, 104, 107, 108, 109, 118] dL_law_1625 mvL_211 miX7_undo (c_mundo (P := P9) hB hI hc9 (fun z => (hP9 (by rw [← hm.2.2.1]; exact z)).1)) ⟨by decide, by decide, rfl, rfl, (by show _ ≤ 601024; omega), (by show _ ≤ 7293034; omega)⟩ rfl rfl (Nat.le_of_ble_eq_true rfl) rfl (by decide) rfl rfl (fun _ _ h => WM_len h.2) ?_
  rintro _ M' ⟨rfl, hwm⟩
  obtain ⟨Bm', Im', mm', Fi', Co', Bq', Wt', mk', gy', S4', ea', sd2', rt2', lf2', wy2', sp', ou', rfl, hB', hI'⟩ := hwm
  refine AW.cast (st2 := [iv (w32 (if ac ≠ 0 then ac - 1 else 0))]) (M2 := (lwW (if kUndo cnt = 0 then 0 else kn) (if kUndo cnt = 0 then 0 else nk) sz tx (if kUndo cnt = 0 then σ ((nx + 13) % 14).toNat else S) ((ringP 7)) (if kUndo cnt = 0 then cnt - 1 else cnt) (if kUndo cnt = 0 then (nx + 13) % 14 else nx) σ ((slotP 95)) sv c0 r0 m0 ct B F Z Br Q Fo No Ho Mo In Sn Qn S2 c1 r1 m1 ct1 B1 F1 Z1 Br1 Q1 Fo1 No1 sd rt lf wy gb P0 P1 (if ac ≠ 0 then 0 else 1) (if ac ≠ 0 then P9 else S3) (S4') (if ac ≠ 0 then ac - 1 else ac) (Bm') (Im') (mm') (Fi') (Co') (Bq') (Wt') (mk') (gy') di ke ik (ea') (sd2') (rt2') (lf2') (wy2') (sp') (ou') (fo'))) ?_ rfl (congrArg (fun v : Value => [v]) (iv_w _)) rfl
  have hX : (CN (if kUndo cnt = 0 then σ ((nx + 13) % 14).toNat else S) (if kUndo cnt = 0 then 0 else kn) (if kUndo cnt = 0 then 0 else nk) c0 r0 m0 ct B F Z Fo No Ho Mo In) ∧ TW (if kUndo cnt = 0 then σ ((nx + 13) % 14).toNat else S) (if ac ≠ 0 then P9 else S3) ∧ RM (if kUndo cnt = 0 then cnt - 1 else cnt) (if kUndo cnt = 0 then (nx + 13) % 14 else nx) σ (if ac ≠ 0 then ac - 1 else ac) di := by
    refine ⟨CN_if hcn, ?_⟩
    by_cases z : kUndo cnt = 0
    · have z1 := kUndo_0 z
      have z2 : ac ≠ 0 := by rw [hm.2.2.1]; exact z1
      simp only [if_pos z, if_pos z2]
      exact ⟨(hP9 z1).2, RM_undo hm z1⟩
    · have z1 : ¬ (ac ≠ 0) := by rw [hm.2.2.1]; intro y; exact z (by unfold kUndo; rw [if_pos y])
      simp only [if_neg z, if_neg z1]
      exact ⟨t, hm⟩
  have hInv : INV (lwW (if kUndo cnt = 0 then 0 else kn) (if kUndo cnt = 0 then 0 else nk) sz tx (if kUndo cnt = 0 then σ ((nx + 13) % 14).toNat else S) ((ringP 7)) (if kUndo cnt = 0 then cnt - 1 else cnt) (if kUndo cnt = 0 then (nx + 13) % 14 else nx) σ ((slotP 95)) sv c0 r0 m0 ct B F Z Br Q Fo No Ho Mo In Sn Qn S2 c1 r1 m1 ct1 B1 F1 Z1 Br1 Q1 Fo1 No1 sd rt lf wy gb P0 P1 (if ac ≠ 0 then 0 else 1) (if ac ≠ 0 then P9 else S3) (S4') (if ac ≠ 0 then ac - 1 else ac) (Bm') (Im') (mm') (Fi') (Co') (Bq') (Wt') (mk') (gy') di ke ik (ea') (sd2') (rt2') (lf2') (wy2') (sp') (ou') (fo')) := ⟨_, _, _, _, _, _, _, _, _, _, _, _, _, _, _, _, _, _, _, _, _, _, _, _, _, _, _, _, _, _, _, _, _, _, _, _, _, _, _, _, _, _, _, _, _, _, _, _, _, _, _, _, _, _, _, _, _, _, _, _, _, _, _, _, _, _, _, _, rfl, hX.1, hr, hB', hI', hX.2.1, hX.2.2, hk9, ht9⟩
  refine a_istore (pc := 1628) ok dL_law_1628 rfl (by rw [hN]; decide) ?_
  refine a_aload_n (pc := 1630) ok dL_law_1630 rfl ?_
  refine x_callVp (pc := 1631) ok [103, 104, 105, 106, 107, 108, 109, 110, 111, 112, 113, 114, 115, 116, 117, 118] 1 dL_law_1631 mvL_121 miX7_thrown (c_thrown) ⟨by decide, by decide, rfl, rfl, (by show _ ≤ 601024; omega), (by show _ ≤ 7293034; omega)⟩ rfl rfl (Nat.le_of_ble_eq_true rfl) rfl rfl (by decide) rfl rfl ?_
  refine a_iload (pc := 1634) ok dL_law_1634 rfl ?_
  refine a_icmp_eq (pc := 1636) (tgt := 1641) ok dL_law_1636 (by decide) (by first | exact hKr | (rw [eK]; exact hKr)) (by first | exact hKr | (rw [eK]; exact hKr)) (fun c1636 => ?_) (fun c1636 => ?_)
  · refine a_iload (pc := 1641) ok dL_law_1641 rfl ?_
    refine a_if_ne (pc := 1643) (tgt := 1658) ok dL_law_1643 (by decide) (by exact hKr) (fun c1643 => ?_) (fun c1643 => ?_)
    · refine a_goto (pc := 1658) (tgt := 2245) ok dL_law_1658 (by decide) ?_
      exact AW.forget (k _ hInv) (by repeat' (first | exact trivial | refine ⟨rfl, ?_⟩))
    · have h0 : kUndo cnt = 0 := by first | exact c1643 | omega
      have e1 := hfo h0
      have e2 : w32 (if ac ≠ 0 then ac - 1 else 0) = w32 (cnt - 1) := by have q := eK.trans h0; have q2 := eA h0; have q3 : ac ≠ 0 := (by rw [hm.2.2.1]; exact kUndo_0 h0); rw [if_pos q3, q2]
      refine a_aload_n (pc := 1646) ok dL_law_1646 rfl ?_
      refine a_iconst (pc := 1647) ok dL_law_1647 ?_
      refine a_lald (pc := 1648) ok dL_law_1648 (rfl) (by decide) (by omega) ?_
      refine a_iload (pc := 1649) ok dL_law_1649 rfl ?_
      refine a_i2l (pc := 1651) ok dL_law_1651 (by exact rg_w _) ?_
      refine a_lcmp (pc := 1652) ok dL_law_1652 (by first | (rw [e1]; exact rgL_w9 _) | exact rgL_w9 _) (by first | (rw [e1]; exact rgL_w9 _) | exact rgL_w9 _) (fun c1652 => ?_) (fun c1652 => ?_) (fun c1652 => ?_)
      · exfalso; rw [e1, e2] at c1652; exact absurd c1652 (Int.lt_irrefl _)
      · refine a_if_eq (pc := 1653) (tgt := 1658) ok dL_law_1653 (by decide) (by first | exact xv_rg _ _ | omega | (unfold rg; omega) | (simp only [rg] at *; omega) | exact bz_rg _ | grind [rg]) (fun c1653 => ?_) (fun c1653 => ?_)
        · refine a_goto (pc := 1658) (tgt := 2245) ok dL_law_1658 (by decide) ?_
          exact AW.forget (k _ hInv) (by repeat' (first | exact trivial | refine ⟨rfl, ?_⟩))
        · exact absurd rfl c1653
      · exfalso; rw [e1, e2] at c1652; exact absurd c1652 (Int.lt_irrefl _)
  · exact absurd eK c1636
end LC112
