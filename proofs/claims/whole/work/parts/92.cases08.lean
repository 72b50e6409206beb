/-! THE LAW: its cases. Printed by wip/whole/gen/mk91.py. -/
section LC107
variable {kn : Int} {nk : Int} {sz : Int} {tx : Int → Int} {S : St} {cnt : Int} {nx : Int} {σ : Nat → St} {sv : Int → Int} {c0 : Int} {r0 : Int} {m0 : Int} {ct : Int} {B : Int → Int} {F : Int → Int} {Z : Int → Int} {Br : Int → Int} {Q : Int → Int} {Fo : Int → Int} {No : Int → Int} {Ho : Int → Int} {Mo : Int → Int} {In : Int → Int} {Sn : Int → Int} {Qn : Int → Int} {S2 : St} {c1 : Int} {r1 : Int} {m1 : Int} {ct1 : Int} {B1 : Int → Int} {F1 : Int → Int} {Z1 : Int → Int} {Br1 : Int → Int} {Q1 : Int → Int} {Fo1 : Int → Int} {No1 : Int → Int} {sd : Int} {rt : Int} {lf : Int} {wy : Int} {gb : Int → Int} {P0 : St} {P1 : St} {rf : Int} {S3 : St} {S4 : St} {ac : Int} {Bm : Int → Int} {Im : Int → Int} {mm : Int} {Fi : Int → Int} {Co : Int → Int} {Bq : Int → Int} {Wt : Int → Int} {mk : Int → Int} {gy : Int → Int} {di : Int → Int} {ke : Int → Int} {ik : Int → Int} {ea : Int → Int} {sd2 : Int} {rt2 : Int} {lf2 : Int} {wy2 : Int} {sp : Int} {ou : Int} {fo : Int → Int}
theorem cs_cell {X : Cx} {b L : Nat} {xs : Nat → Int32} {i : Int} {kc ks : Nat} (ok : OKL X) (pre : PRE X b L xs i kc ks) (hcn : CN S kn nk c0 r0 m0 ct B F Z Fo No Ho Mo In) (hr : rwI B1 F1 Z1) (hB : ∀ i, 0 ≤ Bm i ∧ Bm i ≤ 5) (hI : ∀ i, rg (Im i)) (t : TW S S3) (hm : RM cnt nx σ ac di) (hk9 : RK P0 P1 sv ik ke) (ht9 : REt sz tx) (k : ∀ M, INV M → AW X (kc + 1) (ks + 6) 2245 [some (.ref 4095), some (.ref 0), some (.ref 103), some (.ref 119), some (iv i), none, none] [] M) :
    AW X kc ks 931 [some (.ref 4095), some (.ref 0), some (.ref 103), some (.ref 119), some (iv i), none, none] [] (lwW kn nk sz tx S (ringP 7) cnt nx σ (slotP 95) sv c0 r0 m0 ct B F Z Br Q Fo No Ho Mo In Sn Qn S2 c1 r1 m1 ct1 B1 F1 Z1 Br1 Q1 Fo1 No1 sd rt lf wy gb P0 P1 rf S3 S4 ac Bm Im mm Fi Co Bq Wt mk gy di ke ik ea sd2 rt2 lf2 wy2 sp ou fo) := by
  obtain ⟨ex, hN, sc, hi, hL, hl, hkc, hks⟩ := pre
  have hc9 : 0 ≤ ac ∧ ac ≤ 14 := by rw [hm.2.2.1]; exact hm.1
  refine AW.cast (M2 := (lwW kn nk sz tx S (ρM) cnt nx σ (slotP 95) sv c0 r0 m0 ct B F Z Br Q Fo No Ho Mo In Sn Qn S2 c1 r1 m1 ct1 B1 F1 Z1 Br1 Q1 Fo1 No1 sd rt lf wy gb P0 P1 rf S3 S4 ac Bm Im mm Fi Co Bq Wt mk gy di ke ik ea sd2 rt2 lf2 wy2 sp ou fo)) ?_ rfl rfl (by rw [ρM_eq])
  have eK : kPut S3 (xv xs (i + 1)) (xv xs (i + 2)) (xv xs (i + 3)) = kPut S (xv xs (i + 1)) (xv xs (i + 2)) (xv xs (i + 3)) := kPut_E t.2.2 _ _ _
  have eA : kPut S (xv xs (i + 1)) (xv xs (i + 2)) (xv xs (i + 3)) = 0 → sG S3 ((xv xs (i + 2)) * sC S3 + (xv xs (i + 1))) = sG S ((xv xs (i + 2)) * sC S + (xv xs (i + 1))) := fun _ => by rw [← t.2.2.1, ← t.2.2.2.2.1]
  have hKr : rg (kPut S (xv xs (i + 1)) (xv xs (i + 2)) (xv xs (i + 3))) := by
    unfold kPut rg
    repeat' split
    all_goals omega
  refine a_aload_n (pc := 931) ok dL_law_931 rfl ?_
  refine a_aload_n (pc := 932) ok dL_law_932 rfl ?_
  refine a_iload (pc := 933) ok dL_law_933 rfl ?_
  refine a_iconst (pc := 935) ok dL_law_935 ?_
  refine a_iadd (pc := 936) ok dL_law_936 ?_
  refine a_sld (pc := 937) ok sc dL_law_937 (by omega) hL ?_
  refine a_aload_n (pc := 938) ok dL_law_938 rfl ?_
  refine a_iload (pc := 939) ok dL_law_939 rfl ?_
  refine a_iconst (pc := 941) ok dL_law_941 ?_
  refine a_iadd (pc := 942) ok dL_law_942 ?_
  refine a_sld (pc := 943) ok sc dL_law_943 (by omega) hL ?_
  refine a_aload_n (pc := 944) ok dL_law_944 rfl ?_
  refine a_iload (pc := 945) ok dL_law_945 rfl ?_
  refine a_iconst (pc := 947) ok dL_law_947 ?_
  refine a_iadd (pc := 948) ok dL_law_948 ?_
  refine a_sld (pc := 949) ok sc dL_law_949 (by omega) hL ?_
  refine a_aload_n (pc := 950) ok dL_law_950 rfl ?_
  refine l_callS (pc := 951) ok ex πL_M 65 dL_law_951 (ug4 108 (by decide +kernel) rfl) (ug4 109 (by decide +kernel) rfl) miL_cell (W_cell (x := (xv xs (i + 1))) (y := (xv xs (i + 2))) (g := (xv xs (i + 3))) hl t.1 hm.1 hm.2.1 (xv_rg _ _) (xv_rg _ _) (xv_rg _ _)) ⟨by decide, by decide, rfl, rfl⟩ ⟨hkc, hks⟩ rfl rfl (Nat.le_of_ble_eq_true rfl) rfl rfl nd_M (fun _ _ h => by obtain ⟨_, _, _, M9, rfl, rfl⟩ := h; rfl) ?_
  rintro _ M8 ⟨rfl, fo', hfo, M9, hp, rfl⟩
  subst hp
  refine AW.cast (st2 := [iv (kPut S (xv xs (i + 1)) (xv xs (i + 2)) (xv xs (i + 3)))]) (M2 := (lwW (if kPut S (xv xs (i + 1)) (xv xs (i + 2)) (xv xs (i + 3)) = 0 then 0 else kn) (if kPut S (xv xs (i + 1)) (xv xs (i + 2)) (xv xs (i + 3)) = 0 then 0 else nk) sz tx (if kPut S (xv xs (i + 1)) (xv xs (i + 2)) (xv xs (i + 3)) = 0 then gP S (xv xs (i + 1)) (xv xs (i + 2)) (xv xs (i + 3)) else S) (ρM) (if kPut S (xv xs (i + 1)) (xv xs (i + 2)) (xv xs (i + 3)) = 0 then min (cnt + 1) 14 else cnt) (if kPut S (xv xs (i + 1)) (xv xs (i + 2)) (xv xs (i + 3)) = 0 then (nx + 1) % 14 else nx) (if kPut S (xv xs (i + 1)) (xv xs (i + 2)) (xv xs (i + 3)) = 0 then σP S nx σ else σ) (slotP 95) sv c0 r0 m0 ct B F Z Br Q Fo No Ho Mo In Sn Qn S2 c1 r1 m1 ct1 B1 F1 Z1 Br1 Q1 Fo1 No1 sd rt lf wy gb P0 P1 rf S3 S4 ac Bm Im mm Fi Co Bq Wt mk gy di ke ik ea sd2 rt2 lf2 wy2 sp ou (fo'))) ?_ rfl rfl rfl
  refine AW.cast (M2 := (lwW (if kPut S (xv xs (i + 1)) (xv xs (i + 2)) (xv xs (i + 3)) = 0 then 0 else kn) (if kPut S (xv xs (i + 1)) (xv xs (i + 2)) (xv xs (i + 3)) = 0 then 0 else nk) sz tx (if kPut S (xv xs (i + 1)) (xv xs (i + 2)) (xv xs (i + 3)) = 0 then gP S (xv xs (i + 1)) (xv xs (i + 2)) (xv xs (i + 3)) else S) (ringP 7) (if kPut S (xv xs (i + 1)) (xv xs (i + 2)) (xv xs (i + 3)) = 0 then min (cnt + 1) 14 else cnt) (if kPut S (xv xs (i + 1)) (xv xs (i + 2)) (xv xs (i + 3)) = 0 then (nx + 1) % 14 else nx) (if kPut S (xv xs (i + 1)) (xv xs (i + 2)) (xv xs (i + 3)) = 0 then σP S nx σ else σ) (slotP 95) sv c0 r0 m0 ct B F Z Br Q Fo No Ho Mo In Sn Qn S2 c1 r1 m1 ct1 B1 F1 Z1 Br1 Q1 Fo1 No1 sd rt lf wy gb P0 P1 rf S3 S4 ac Bm Im mm Fi Co Bq Wt mk gy di ke ik ea sd2 rt2 lf2 wy2 sp ou (fo'))) ?_ rfl rfl (by rw [ρM_eq])
  refine a_istore (pc := 954) ok dL_law_954 rfl (by rw [hN]; decide) ?_
  refine a_aload_n (pc := 956) ok dL_law_956 rfl ?_
  refine a_aload_n (pc := 957) ok dL_law_957 rfl ?_
  refine a_iload (pc := 958) ok dL_law_958 rfl ?_
  refine a_iconst (pc := 960) ok dL_law_960 ?_
  refine a_iadd (pc := 961) ok dL_law_961 ?_
  refine a_sld (pc := 962) ok sc dL_law_962 (by omega) hL ?_
  refine a_aload_n (pc := 963) ok dL_law_963 rfl ?_
  refine a_iload (pc := 964) ok dL_law_964 rfl ?_
  refine a_iconst (pc := 966) ok dL_law_966 ?_
  refine a_iadd (pc := 967) ok dL_law_967 ?_
  refine a_sld (pc := 968) ok sc dL_law_968 (by omega) hL ?_
  refine a_aload_n (pc := 969) ok dL_law_969 rfl ?_
  refine a_iload (pc := 970) ok dL_law_970 rfl ?_
  refine a_iconst (pc := 972) ok dL_law_972 ?_
  refine a_iadd (pc := 973) ok dL_law_973 ?_
  refine a_sld (pc := 974) ok sc dL_law_974 (by omega) hL ?_
  refine a_callV (pc := 975) ok [103, 105, 110, 111, 112, 113, 114, 115, 116, 117, 106, 104, 107, 108, 109, 118] dL_law_975 mvL_171 miX7_cell (c_mcell t.2.1 hB hI hc9 (xv_rg _ _) (xv_rg _ _) (xv_rg _ _)) ⟨by decide, by decide, rfl, rfl, (by show _ ≤ 601024; omega), (by show _ ≤ 7293034; omega)⟩ rfl rfl (Nat.le_of_ble_eq_true rfl) rfl (by decide) rfl rfl (fun _ _ h => WM_len h.2) ?_
  rintro _ M' ⟨rfl, hwm⟩
  obtain ⟨Bm', Im', mm', Fi', Co', Bq', Wt', mk', gy', S4', ea', sd2', rt2', lf2', wy2', sp', ou', rfl, hB', hI'⟩ := hwm
  refine AW.cast (st2 := [iv (w32 (if kPut S3 (xv xs (i + 1)) (xv xs (i + 2)) (xv xs (i + 3)) = 0 then sG S3 ((xv xs (i + 2)) * sC S3 + (xv xs (i + 1))) else 0))]) (M2 := (lwW (if kPut S (xv xs (i + 1)) (xv xs (i + 2)) (xv xs (i + 3)) = 0 then 0 else kn) (if kPut S (xv xs (i + 1)) (xv xs (i + 2)) (xv xs (i + 3)) = 0 then 0 else nk) sz tx (if kPut S (xv xs (i + 1)) (xv xs (i + 2)) (xv xs (i + 3)) = 0 then gP S (xv xs (i + 1)) (xv xs (i + 2)) (xv xs (i + 3)) else S) (ringP 7) (if kPut S (xv xs (i + 1)) (xv xs (i + 2)) (xv xs (i + 3)) = 0 then min (cnt + 1) 14 else cnt) (if kPut S (xv xs (i + 1)) (xv xs (i + 2)) (xv xs (i + 3)) = 0 then (nx + 1) % 14 else nx) (if kPut S (xv xs (i + 1)) (xv xs (i + 2)) (xv xs (i + 3)) = 0 then σP S nx σ else σ) (slotP 95) sv c0 r0 m0 ct B F Z Br Q Fo No Ho Mo In Sn Qn S2 c1 r1 m1 ct1 B1 F1 Z1 Br1 Q1 Fo1 No1 sd rt lf wy gb P0 P1 (kPut S3 (xv xs (i + 1)) (xv xs (i + 2)) (xv xs (i + 3))) (if kPut S3 (xv xs (i + 1)) (xv xs (i + 2)) (xv xs (i + 3)) = 0 then gP S3 (xv xs (i + 1)) (xv xs (i + 2)) (xv xs (i + 3)) else S3) (S4') (if kPut S3 (xv xs (i + 1)) (xv xs (i + 2)) (xv xs (i + 3)) = 0 then aP ac else ac) (Bm') (Im') (mm') (Fi') (Co') (Bq') (Wt') (mk') (gy') (if kPut S3 (xv xs (i + 1)) (xv xs (i + 2)) (xv xs (i + 3)) = 0 then dP S3 ac di else di) ke ik (ea') (sd2') (rt2') (lf2') (wy2') (sp') (ou') (fo'))) ?_ rfl (congrArg (fun v : Value => [v]) (iv_w _)) rfl
  have hInv : INV (lwW (if kPut S (xv xs (i + 1)) (xv xs (i + 2)) (xv xs (i + 3)) = 0 then 0 else kn) (if kPut S (xv xs (i + 1)) (xv xs (i + 2)) (xv xs (i + 3)) = 0 then 0 else nk) sz tx (if kPut S (xv xs (i + 1)) (xv xs (i + 2)) (xv xs (i + 3)) = 0 then gP S (xv xs (i + 1)) (xv xs (i + 2)) (xv xs (i + 3)) else S) (ringP 7) (if kPut S (xv xs (i + 1)) (xv xs (i + 2)) (xv xs (i + 3)) = 0 then min (cnt + 1) 14 else cnt) (if kPut S (xv xs (i + 1)) (xv xs (i + 2)) (xv xs (i + 3)) = 0 then (nx + 1) % 14 else nx) (if kPut S (xv xs (i + 1)) (xv xs (i + 2)) (xv xs (i + 3)) = 0 then σP S nx σ else σ) (slotP 95) sv c0 r0 m0 ct B F Z Br Q Fo No Ho Mo In Sn Qn S2 c1 r1 m1 ct1 B1 F1 Z1 Br1 Q1 Fo1 No1 sd rt lf wy gb P0 P1 (kPut S3 (xv xs (i + 1)) (xv xs (i + 2)) (xv xs (i + 3))) (if kPut S3 (xv xs (i + 1)) (xv xs (i + 2)) (xv xs (i + 3)) = 0 then gP S3 (xv xs (i + 1)) (xv xs (i + 2)) (xv xs (i + 3)) else S3) (S4') (if kPut S3 (xv xs (i + 1)) (xv xs (i + 2)) (xv xs (i + 3)) = 0 then aP ac else ac) (Bm') (Im') (mm') (Fi') (Co') (Bq') (Wt') (mk') (gy') (if kPut S3 (xv xs (i + 1)) (xv xs (i + 2)) (xv xs (i + 3)) = 0 then dP S3 ac di else di) ke ik (ea') (sd2') (rt2') (lf2') (wy2') (sp') (ou') (fo')) := ⟨_, _, _, _, _, _, _, _, _, _, _, _, _, _, _, _, _, _, _, _, _, _, _, _, _, _, _, _, _, _, _, _, _, _, _, _, _, _, _, _, _, _, _, _, _, _, _, _, _, _, _, _, _, _, _, _, _, _, _, _, _, _, _, _, _, _, _, _, rfl, CN_if hcn, hr, hB', hI', TW_if eK t (fun z => ⟨SV_gP t.1 (kPut_0 z).2.2, SV_gP t.2.1 (kPut_0 z).2.2, StE_gP t.2.2 _ _ _⟩), RM_if eK hm t, hk9, ht9⟩
  refine a_istore (pc := 978) ok dL_law_978 rfl (by rw [hN]; decide) ?_
  refine a_aload_n (pc := 980) ok dL_law_980 rfl ?_
  refine x_callVp (pc := 981) ok [103, 104, 105, 106, 107, 108, 109, 110, 111, 112, 113, 114, 115, 116, 117, 118] 1 dL_law_981 mvL_121 miX7_thrown (c_thrown) ⟨by decide, by decide, rfl, rfl, (by show _ ≤ 601024; omega), (by show _ ≤ 7293034; omega)⟩ rfl rfl (Nat.le_of_ble_eq_true rfl) rfl rfl (by decide) rfl rfl ?_
  refine a_iload (pc := 984) ok dL_law_984 rfl ?_
  refine a_icmp_eq (pc := 986) (tgt := 991) ok dL_law_986 (by decide) (by first | exact hKr | (rw [eK]; exact hKr)) (by first | exact hKr | (rw [eK]; exact hKr)) (fun c986 => ?_) (fun c986 => ?_)
  · refine a_iload (pc := 991) ok dL_law_991 rfl ?_
    refine a_if_ne (pc := 993) (tgt := 1008) ok dL_law_993 (by decide) (by exact hKr) (fun c993 => ?_) (fun c993 => ?_)
    · refine a_goto (pc := 1008) (tgt := 2245) ok dL_law_1008 (by decide) ?_
      exact AW.forget (k _ hInv) (by repeat' (first | exact trivial | refine ⟨rfl, ?_⟩))
    · have h0 : kPut S (xv xs (i + 1)) (xv xs (i + 2)) (xv xs (i + 3)) = 0 := by first | exact c993 | omega
      have e1 := hfo h0
      have e2 : w32 (if kPut S3 (xv xs (i + 1)) (xv xs (i + 2)) (xv xs (i + 3)) = 0 then sG S3 ((xv xs (i + 2)) * sC S3 + (xv xs (i + 1))) else 0) = w32 (sG S ((xv xs (i + 2)) * sC S + (xv xs (i + 1)))) := by have q := eK.trans h0; have q2 := eA h0; rw [if_pos q, q2]
      refine a_aload_n (pc := 996) ok dL_law_996 rfl ?_
      refine a_iconst (pc := 997) ok dL_law_997 ?_
      refine a_lald (pc := 998) ok dL_law_998 (rfl) (by decide) (by omega) ?_
      refine a_iload (pc := 999) ok dL_law_999 rfl ?_
      refine a_i2l (pc := 1001) ok dL_law_1001 (by exact rg_w _) ?_
      refine a_lcmp (pc := 1002) ok dL_law_1002 (by first | (rw [e1]; exact rgL_w9 _) | exact rgL_w9 _) (by first | (rw [e1]; exact rgL_w9 _) | exact rgL_w9 _) (fun c1002 => ?_) (fun c1002 => ?_) (fun c1002 => ?_)
      · exfalso; rw [e1, e2] at c1002; exact absurd c1002 (Int.lt_irrefl _)
      · refine a_if_eq (pc := 1003) (tgt := 1008) ok dL_law_1003 (by decide) (by first | omega | (unfold rg; omega) | (simp only [rg] at *; omega) | exact bz_rg _ | grind [rg]) (fun c1003 => ?_) (fun c1003 => ?_)
        · refine a_goto (pc := 1008) (tgt := 2245) ok dL_law_1008 (by decide) ?_
          exact AW.forget (k _ hInv) (by repeat' (first | exact trivial | refine ⟨rfl, ?_⟩))
        · exact absurd rfl c1003
      · exfalso; rw [e1, e2] at c1002; exact absurd c1002 (Int.lt_irrefl _)
  · exact absurd eK c986
theorem cs_box {X : Cx} {b L : Nat} {xs : Nat → Int32} {i : Int} {kc ks : Nat} (ok : OKL X) (pre : PRE X b L xs i kc ks) (hcn : CN S kn nk c0 r0 m0 ct B F Z Fo No Ho Mo In) (hr : rwI B1 F1 Z1) (hB : ∀ i, 0 ≤ Bm i ∧ Bm i ≤ 5) (hI : ∀ i, rg (Im i)) (t : TW S S3) (hm : RM cnt nx σ ac di) (hk9 : RK P0 P1 sv ik ke) (ht9 : REt sz tx) (k : ∀ M, INV M → AW X (kc + 1) (ks + 6) 2245 [some (.ref 4095), some (.ref 0), some (.ref 103), some (.ref 119), some (iv i), none, none] [] M) :
    AW X kc ks 1011 [some (.ref 4095), some (.ref 0), some (.ref 103), some (.ref 119), some (iv i), none, none] [] (lwW kn nk sz tx S (ringP 7) cnt nx σ (slotP 95) sv c0 r0 m0 ct B F Z Br Q Fo No Ho Mo In Sn Qn S2 c1 r1 m1 ct1 B1 F1 Z1 Br1 Q1 Fo1 No1 sd rt lf wy gb P0 P1 rf S3 S4 ac Bm Im mm Fi Co Bq Wt mk gy di ke ik ea sd2 rt2 lf2 wy2 sp ou fo) := by
  obtain ⟨ex, hN, sc, hi, hL, hl, hkc, hks⟩ := pre
  have hc9 : 0 ≤ ac ∧ ac ≤ 14 := by rw [hm.2.2.1]; exact hm.1
  refine AW.cast (M2 := (lwW kn nk sz tx S (ρM) cnt nx σ (slotP 95) sv c0 r0 m0 ct B F Z Br Q Fo No Ho Mo In Sn Qn S2 c1 r1 m1 ct1 B1 F1 Z1 Br1 Q1 Fo1 No1 sd rt lf wy gb P0 P1 rf S3 S4 ac Bm Im mm Fi Co Bq Wt mk gy di ke ik ea sd2 rt2 lf2 wy2 sp ou fo)) ?_ rfl rfl (by rw [ρM_eq])
  have eK : kBox S3 (xv xs (i + 1)) (xv xs (i + 2)) (xv xs (i + 3)) (xv xs (i + 4)) (xv xs (i + 5)) = kBox S (xv xs (i + 1)) (xv xs (i + 2)) (xv xs (i + 3)) (xv xs (i + 4)) (xv xs (i + 5)) := kBox_E t.2.2 _ _ _ _ _
  have eA : kBox S (xv xs (i + 1)) (xv xs (i + 2)) (xv xs (i + 3)) (xv xs (i + 4)) (xv xs (i + 5)) = 0 → (boxF (sC S3) (xv xs (i + 5)) (xv xs (i + 1)) ((xv xs (i + 2)) - (xv xs (i + 1)) + 1).toNat (xv xs (i + 3)) ((xv xs (i + 4)) - (xv xs (i + 3)) + 1).toNat (sG S3, 0)).2 = (boxF (sC S) (xv xs (i + 5)) (xv xs (i + 1)) ((xv xs (i + 2)) - (xv xs (i + 1)) + 1).toNat (xv xs (i + 3)) ((xv xs (i + 4)) - (xv xs (i + 3)) + 1).toNat (sG S, 0)).2 := fun _ => by rw [← t.2.2.1, ← t.2.2.2.2.1]
  have hKr : rg (kBox S (xv xs (i + 1)) (xv xs (i + 2)) (xv xs (i + 3)) (xv xs (i + 4)) (xv xs (i + 5))) := by
    unfold kBox rg
    repeat' split
    all_goals omega
  refine a_aload_n (pc := 1011) ok dL_law_1011 rfl ?_
  refine a_aload_n (pc := 1012) ok dL_law_1012 rfl ?_
  refine a_iload (pc := 1013) ok dL_law_1013 rfl ?_
  refine a_iconst (pc := 1015) ok dL_law_1015 ?_
  refine a_iadd (pc := 1016) ok dL_law_1016 ?_
  refine a_sld (pc := 1017) ok sc dL_law_1017 (by omega) hL ?_
  refine a_aload_n (pc := 1018) ok dL_law_1018 rfl ?_
  refine a_iload (pc := 1019) ok dL_law_1019 rfl ?_
  refine a_iconst (pc := 1021) ok dL_law_1021 ?_
  refine a_iadd (pc := 1022) ok dL_law_1022 ?_
  refine a_sld (pc := 1023) ok sc dL_law_1023 (by omega) hL ?_
  refine a_aload_n (pc := 1024) ok dL_law_1024 rfl ?_
  refine a_iload (pc := 1025) ok dL_law_1025 rfl ?_
  refine a_iconst (pc := 1027) ok dL_law_1027 ?_
  refine a_iadd (pc := 1028) ok dL_law_1028 ?_
  refine a_sld (pc := 1029) ok sc dL_law_1029 (by omega) hL ?_
  refine a_aload_n (pc := 1030) ok dL_law_1030 rfl ?_
  refine a_iload (pc := 1031) ok dL_law_1031 rfl ?_
  refine a_iconst (pc := 1033) ok dL_law_1033 ?_
  refine a_iadd (pc := 1034) ok dL_law_1034 ?_
  refine a_sld (pc := 1035) ok sc dL_law_1035 (by omega) hL ?_
  refine a_aload_n (pc := 1036) ok dL_law_1036 rfl ?_
  refine a_iload (pc := 1037) ok dL_law_1037 rfl ?_
  refine a_iconst (pc := 1039) ok dL_law_1039 ?_
  refine a_iadd (pc := 1040) ok dL_law_1040 ?_
  refine a_sld (pc := 1041) ok sc dL_law_1041 (by omega) hL ?_
  refine a_aload_n (pc := 1042) ok dL_law_1042 rfl ?_
  refine l_callS (pc := 1043) ok ex πL_M 65 dL_law_1043 (ug4 116 (by decide +kernel) rfl) (ug4 117 (by decide +kernel) rfl) miL_box (W_box (x0 := (xv xs (i + 1))) (x1 := (xv xs (i + 2))) (y0 := (xv xs (i + 3))) (y1 := (xv xs (i + 4))) (g := (xv xs (i + 5))) hl t.1 hm.1 hm.2.1 (xv_rg _ _) (xv_rg _ _) (xv_rg _ _) (xv_rg _ _) (xv_rg _ _)) ⟨by decide, by decide, rfl, rfl⟩ ⟨hkc, hks⟩ rfl rfl (Nat.le_of_ble_eq_true rfl) rfl rfl nd_M (fun _ _ h => by obtain ⟨_, _, _, M9, rfl, rfl⟩ := h; rfl) ?_
  rintro _ M8 ⟨rfl, fo', hfo, M9, hp, rfl⟩
  subst hp
  refine AW.cast (st2 := [iv (kBox S (xv xs (i + 1)) (xv xs (i + 2)) (xv xs (i + 3)) (xv xs (i + 4)) (xv xs (i + 5)))]) (M2 := (lwW (if kBox S (xv xs (i + 1)) (xv xs (i + 2)) (xv xs (i + 3)) (xv xs (i + 4)) (xv xs (i + 5)) = 0 then 0 else kn) (if kBox S (xv xs (i + 1)) (xv xs (i + 2)) (xv xs (i + 3)) (xv xs (i + 4)) (xv xs (i + 5)) = 0 then 0 else nk) sz tx (if kBox S (xv xs (i + 1)) (xv xs (i + 2)) (xv xs (i + 3)) (xv xs (i + 4)) (xv xs (i + 5)) = 0 then gB S (xv xs (i + 1)) (xv xs (i + 2)) (xv xs (i + 3)) (xv xs (i + 4)) (xv xs (i + 5)) else S) (ρM) (if kBox S (xv xs (i + 1)) (xv xs (i + 2)) (xv xs (i + 3)) (xv xs (i + 4)) (xv xs (i + 5)) = 0 then min (cnt + 1) 14 else cnt) (if kBox S (xv xs (i + 1)) (xv xs (i + 2)) (xv xs (i + 3)) (xv xs (i + 4)) (xv xs (i + 5)) = 0 then (nx + 1) % 14 else nx) (if kBox S (xv xs (i + 1)) (xv xs (i + 2)) (xv xs (i + 3)) (xv xs (i + 4)) (xv xs (i + 5)) = 0 then σP S nx σ else σ) (slotP 95) sv c0 r0 m0 ct B F Z Br Q Fo No Ho Mo In Sn Qn S2 c1 r1 m1 ct1 B1 F1 Z1 Br1 Q1 Fo1 No1 sd rt lf wy gb P0 P1 rf S3 S4 ac Bm Im mm Fi Co Bq Wt mk gy di ke ik ea sd2 rt2 lf2 wy2 sp ou (fo'))) ?_ rfl rfl rfl
  refine AW.cast (M2 := (lwW (if kBox S (xv xs (i + 1)) (xv xs (i + 2)) (xv xs (i + 3)) (xv xs (i + 4)) (xv xs (i + 5)) = 0 then 0 else kn) (if kBox S (xv xs (i + 1)) (xv xs (i + 2)) (xv xs (i + 3)) (xv xs (i + 4)) (xv xs (i + 5)) = 0 then 0 else nk) sz tx (if kBox S (xv xs (i + 1)) (xv xs (i + 2)) (xv xs (i + 3)) (xv xs (i + 4)) (xv xs (i + 5)) = 0 then gB S (xv xs (i + 1)) (xv xs (i + 2)) (xv xs (i + 3)) (xv xs (i + 4)) (xv xs (i + 5)) else S) (ringP 7) (if kBox S (xv xs (i + 1)) (xv xs (i + 2)) (xv xs (i + 3)) (xv xs (i + 4)) (xv xs (i + 5)) = 0 then min (cnt + 1) 14 else cnt) (if kBox S (xv xs (i + 1)) (xv xs (i + 2)) (xv xs (i + 3)) (xv xs (i + 4)) (xv xs (i + 5)) = 0 then (nx + 1) % 14 else nx) (if kBox S (xv xs (i + 1)) (xv xs (i + 2)) (xv xs (i + 3)) (xv xs (i + 4)) (xv xs (i + 5)) = 0 then σP S nx σ else σ) (slotP 95) sv c0 r0 m0 ct B F Z Br Q Fo No Ho Mo In Sn Qn S2 c1 r1 m1 ct1 B1 F1 Z1 Br1 Q1 Fo1 No1 sd rt lf wy gb P0 P1 rf S3 S4 ac Bm Im mm Fi Co Bq Wt mk gy di ke ik ea sd2 rt2 lf2 wy2 sp ou (fo'))) ?_ rfl rfl (by rw [ρM_eq])
  refine a_istore (pc := 1046) ok dL_law_1046 rfl (by rw [hN]; decide) ?_
  refine a_aload_n (pc := 1048) ok dL_law_1048 rfl ?_
  refine a_aload_n (pc := 1049) ok dL_law_1049 rfl ?_
  refine a_iload (pc := 1050) ok dL_law_1050 rfl ?_
  refine a_iconst (pc := 1052) ok dL_law_1052 ?_
  refine a_iadd (pc := 1053) ok dL_law_1053 ?_
  refine a_sld (pc := 1054) ok sc dL_law_1054 (by omega) hL ?_
  refine a_aload_n (pc := 1055) ok dL_law_1055 rfl ?_
  refine a_iload (pc := 1056) ok dL_law_1056 rfl ?_
  refine a_iconst (pc := 1058) ok dL_law_1058 ?_
  refine a_iadd (pc := 1059) ok dL_law_1059 ?_
  refine a_sld (pc := 1060) ok sc dL_law_1060 (by omega) hL ?_
  refine a_aload_n (pc := 1061) ok dL_law_1061 rfl ?_
  refine a_iload (pc := 1062) ok dL_law_1062 rfl ?_
  refine a_iconst (pc := 1064) ok dL_law_1064 ?_
  refine a_iadd (pc := 1065) ok dL_law_1065 ?_
  refine a_sld (pc := 1066) ok sc dL_law_1066 (by omega) hL ?_
  refine a_aload_n (pc := 1067) ok dL_law_1067 rfl ?_
  refine a_iload (pc := 1068) ok dL_law_1068 rfl ?_
  refine a_iconst (pc := 1070) ok dL_law_1070 ?_
  refine a_iadd (pc := 1071) ok dL_law_1071 ?_
  refine a_sld (pc := 1072) ok sc dL_law_1072 (by omega) hL ?_
  refine a_aload_n (pc := 1073) ok dL_law_1073 rfl ?_
  refine a_iload (pc := 1074) ok dL_law_1074 rfl ?_
  refine a_iconst (pc := 1076) ok dL_law_1076 ?_
  refine a_iadd (pc := 1077) ok dL_law_1077 ?_
  refine a_sld (pc := 1078) ok sc dL_law_1078 (by omega) hL ?_
  refine a_callV (pc := 1079) ok [103, 105, 110, 111, 112, 113, 114, 115, 116, 117, 106, 104, 107, 108, 109, 118] dL_law_1079 mvL_175 miX7_box (c_mbox t.2.1 hB hI hc9 (xv_rg _ _) (xv_rg _ _) (xv_rg _ _) (xv_rg _ _) (xv_rg _ _)) ⟨by decide, by decide, rfl, rfl, (by show _ ≤ 601024; omega), (by show _ ≤ 7293034; omega)⟩ rfl rfl (Nat.le_of_ble_eq_true rfl) rfl (by decide) rfl rfl (fun _ _ h => WM_len h.2) ?_
  rintro _ M' ⟨rfl, hwm⟩
  obtain ⟨Bm', Im', mm', Fi', Co', Bq', Wt', mk', gy', S4', ea', sd2', rt2', lf2', wy2', sp', ou', rfl, hB', hI'⟩ := hwm
  refine AW.cast (st2 := [iv (w32 (if kBox S3 (xv xs (i + 1)) (xv xs (i + 2)) (xv xs (i + 3)) (xv xs (i + 4)) (xv xs (i + 5)) = 0 then (boxF (sC S3) (xv xs (i + 5)) (xv xs (i + 1)) ((xv xs (i + 2)) - (xv xs (i + 1)) + 1).toNat (xv xs (i + 3)) ((xv xs (i + 4)) - (xv xs (i + 3)) + 1).toNat (sG S3, 0)).2 else 0))]) (M2 := (lwW (if kBox S (xv xs (i + 1)) (xv xs (i + 2)) (xv xs (i + 3)) (xv xs (i + 4)) (xv xs (i + 5)) = 0 then 0 else kn) (if kBox S (xv xs (i + 1)) (xv xs (i + 2)) (xv xs (i + 3)) (xv xs (i + 4)) (xv xs (i + 5)) = 0 then 0 else nk) sz tx (if kBox S (xv xs (i + 1)) (xv xs (i + 2)) (xv xs (i + 3)) (xv xs (i + 4)) (xv xs (i + 5)) = 0 then gB S (xv xs (i + 1)) (xv xs (i + 2)) (xv xs (i + 3)) (xv xs (i + 4)) (xv xs (i + 5)) else S) (ringP 7) (if kBox S (xv xs (i + 1)) (xv xs (i + 2)) (xv xs (i + 3)) (xv xs (i + 4)) (xv xs (i + 5)) = 0 then min (cnt + 1) 14 else cnt) (if kBox S (xv xs (i + 1)) (xv xs (i + 2)) (xv xs (i + 3)) (xv xs (i + 4)) (xv xs (i + 5)) = 0 then (nx + 1) % 14 else nx) (if kBox S (xv xs (i + 1)) (xv xs (i + 2)) (xv xs (i + 3)) (xv xs (i + 4)) (xv xs (i + 5)) = 0 then σP S nx σ else σ) (slotP 95) sv c0 r0 m0 ct B F Z Br Q Fo No Ho Mo In Sn Qn S2 c1 r1 m1 ct1 B1 F1 Z1 Br1 Q1 Fo1 No1 sd rt lf wy gb P0 P1 (kBox S3 (xv xs (i + 1)) (xv xs (i + 2)) (xv xs (i + 3)) (xv xs (i + 4)) (xv xs (i + 5))) (if kBox S3 (xv xs (i + 1)) (xv xs (i + 2)) (xv xs (i + 3)) (xv xs (i + 4)) (xv xs (i + 5)) = 0 then gB S3 (xv xs (i + 1)) (xv xs (i + 2)) (xv xs (i + 3)) (xv xs (i + 4)) (xv xs (i + 5)) else S3) (S4') (if kBox S3 (xv xs (i + 1)) (xv xs (i + 2)) (xv xs (i + 3)) (xv xs (i + 4)) (xv xs (i + 5)) = 0 then aP ac else ac) (Bm') (Im') (mm') (Fi') (Co') (Bq') (Wt') (mk') (gy') (if kBox S3 (xv xs (i + 1)) (xv xs (i + 2)) (xv xs (i + 3)) (xv xs (i + 4)) (xv xs (i + 5)) = 0 then dP S3 ac di else di) ke ik (ea') (sd2') (rt2') (lf2') (wy2') (sp') (ou') (fo'))) ?_ rfl (congrArg (fun v : Value => [v]) (iv_w _)) rfl
  have hInv : INV (lwW (if kBox S (xv xs (i + 1)) (xv xs (i + 2)) (xv xs (i + 3)) (xv xs (i + 4)) (xv xs (i + 5)) = 0 then 0 else kn) (if kBox S (xv xs (i + 1)) (xv xs (i + 2)) (xv xs (i + 3)) (xv xs (i + 4)) (xv xs (i + 5)) = 0 then 0 else nk) sz tx (if kBox S (xv xs (i + 1)) (xv xs (i + 2)) (xv xs (i + 3)) (xv xs (i + 4)) (xv xs (i + 5)) = 0 then gB S (xv xs (i + 1)) (xv xs (i + 2)) (xv xs (i + 3)) (xv xs (i + 4)) (xv xs (i + 5)) else S) (ringP 7) (if kBox S (xv xs (i + 1)) (xv xs (i + 2)) (xv xs (i + 3)) (xv xs (i + 4)) (xv xs (i + 5)) = 0 then min (cnt + 1) 14 else cnt) (if kBox S (xv xs (i + 1)) (xv xs (i + 2)) (xv xs (i + 3)) (xv xs (i + 4)) (xv xs (i + 5)) = 0 then (nx + 1) % 14 else nx) (if kBox S (xv xs (i + 1)) (xv xs (i + 2)) (xv xs (i + 3)) (xv xs (i + 4)) (xv xs (i + 5)) = 0 then σP S nx σ else σ) (slotP 95) sv c0 r0 m0 ct B F Z Br Q Fo No Ho Mo In Sn Qn S2 c1 r1 m1 ct1 B1 F1 Z1 Br1 Q1 Fo1 No1 sd rt lf wy gb P0 P1 (kBox S3 (xv xs (i + 1)) (xv xs (i + 2)) (xv xs (i + 3)) (xv xs (i + 4)) (xv xs (i + 5))) (if kBox S3 (xv xs (i + 1)) (xv xs (i + 2)) (xv xs (i + 3)) (xv xs (i + 4)) (xv xs (i + 5)) = 0 then gB S3 (xv xs (i + 1)) (xv xs (i + 2)) (xv xs (i + 3)) (xv xs (i + 4)) (xv xs (i + 5)) else S3) (S4') (if kBox S3 (xv xs (i + 1)) (xv xs (i + 2)) (xv xs (i + 3)) (xv xs (i + 4)) (xv xs (i + 5)) = 0 then aP ac else ac) (Bm') (Im') (mm') (Fi') (Co') (Bq') (Wt') (mk') (gy') (if kBox S3 (xv xs (i + 1)) (xv xs (i + 2)) (xv xs (i + 3)) (xv xs (i + 4)) (xv xs (i + 5)) = 0 then dP S3 ac di else di) ke ik (ea') (sd2') (rt2') (lf2') (wy2') (sp') (ou') (fo')) := ⟨_, _, _, _, _, _, _, _, _, _, _, _, _, _, _, _, _, _, _, _, _, _, _, _, _, _, _, _, _, _, _, _, _, _, _, _, _, _, _, _, _, _, _, _, _, _, _, _, _, _, _, _, _, _, _, _, _, _, _, _, _, _, _, _, _, _, _, _, rfl, CN_if hcn, hr, hB', hI', TW_if eK t (fun z => ⟨SV_gB t.1 (kBox_0 z).2.2, SV_gB t.2.1 (kBox_0 z).2.2, StE_gB t.2.2 _ _ _ _ _⟩), RM_if eK hm t, hk9, ht9⟩
  refine a_istore (pc := 1082) ok dL_law_1082 rfl (by rw [hN]; decide) ?_
  refine a_aload_n (pc := 1084) ok dL_law_1084 rfl ?_
  refine x_callVp (pc := 1085) ok [103, 104, 105, 106, 107, 108, 109, 110, 111, 112, 113, 114, 115, 116, 117, 118] 1 dL_law_1085 mvL_121 miX7_thrown (c_thrown) ⟨by decide, by decide, rfl, rfl, (by show _ ≤ 601024; omega), (by show _ ≤ 7293034; omega)⟩ rfl rfl (Nat.le_of_ble_eq_true rfl) rfl rfl (by decide) rfl rfl ?_
  refine a_iload (pc := 1088) ok dL_law_1088 rfl ?_
  refine a_icmp_eq (pc := 1090) (tgt := 1095) ok dL_law_1090 (by decide) (by first | exact hKr | (rw [eK]; exact hKr)) (by first | exact hKr | (rw [eK]; exact hKr)) (fun c1090 => ?_) (fun c1090 => ?_)
  · refine a_iload (pc := 1095) ok dL_law_1095 rfl ?_
    refine a_if_ne (pc := 1097) (tgt := 1112) ok dL_law_1097 (by decide) (by exact hKr) (fun c1097 => ?_) (fun c1097 => ?_)
    · refine a_goto (pc := 1112) (tgt := 2245) ok dL_law_1112 (by decide) ?_
      exact AW.forget (k _ hInv) (by repeat' (first | exact trivial | refine ⟨rfl, ?_⟩))
    · have h0 : kBox S (xv xs (i + 1)) (xv xs (i + 2)) (xv xs (i + 3)) (xv xs (i + 4)) (xv xs (i + 5)) = 0 := by first | exact c1097 | omega
      have e1 := hfo h0
      have e2 : w32 (if kBox S3 (xv xs (i + 1)) (xv xs (i + 2)) (xv xs (i + 3)) (xv xs (i + 4)) (xv xs (i + 5)) = 0 then (boxF (sC S3) (xv xs (i + 5)) (xv xs (i + 1)) ((xv xs (i + 2)) - (xv xs (i + 1)) + 1).toNat (xv xs (i + 3)) ((xv xs (i + 4)) - (xv xs (i + 3)) + 1).toNat (sG S3, 0)).2 else 0) = w32 ((boxF (sC S) (xv xs (i + 5)) (xv xs (i + 1)) ((xv xs (i + 2)) - (xv xs (i + 1)) + 1).toNat (xv xs (i + 3)) ((xv xs (i + 4)) - (xv xs (i + 3)) + 1).toNat (sG S, 0)).2) := by have q := eK.trans h0; have q2 := eA h0; rw [if_pos q, q2]
      refine a_aload_n (pc := 1100) ok dL_law_1100 rfl ?_
      refine a_iconst (pc := 1101) ok dL_law_1101 ?_
      refine a_lald (pc := 1102) ok dL_law_1102 (rfl) (by decide) (by omega) ?_
      refine a_iload (pc := 1103) ok dL_law_1103 rfl ?_
      refine a_i2l (pc := 1105) ok dL_law_1105 (by exact rg_w _) ?_
      refine a_lcmp (pc := 1106) ok dL_law_1106 (by first | (rw [e1]; exact rgL_w9 _) | exact rgL_w9 _) (by first | (rw [e1]; exact rgL_w9 _) | exact rgL_w9 _) (fun c1106 => ?_) (fun c1106 => ?_) (fun c1106 => ?_)
      · exfalso; rw [e1, e2] at c1106; exact absurd c1106 (Int.lt_irrefl _)
      · refine a_if_eq (pc := 1107) (tgt := 1112) ok dL_law_1107 (by decide) (by first | omega | (unfold rg; omega) | (simp only [rg] at *; omega) | exact bz_rg _ | grind [rg]) (fun c1107 => ?_) (fun c1107 => ?_)
        · refine a_goto (pc := 1112) (tgt := 2245) ok dL_law_1112 (by decide) ?_
          exact AW.forget (k _ hInv) (by repeat' (first | exact trivial | refine ⟨rfl, ?_⟩))
        · exact absurd rfl c1107
      · exfalso; rw [e1, e2] at c1106; exact absurd c1106 (Int.lt_irrefl _)
  · exact absurd eK c1090
end LC107
