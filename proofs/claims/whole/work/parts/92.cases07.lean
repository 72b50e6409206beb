/-! THE LAW: its cases. Printed by wip/whole/gen/mk91.py. -/
section LC106
variable {kn : Int} {nk : Int} {sz : Int} {tx : Int → Int} {S : St} {cnt : Int} {nx : Int} {σ : Nat → St} {sv : Int → Int} {c0 : Int} {r0 : Int} {m0 : Int} {ct : Int} {B : Int → Int} {F : Int → Int} {Z : Int → Int} {Br : Int → Int} {Q : Int → Int} {Fo : Int → Int} {No : Int → Int} {Ho : Int → Int} {Mo : Int → Int} {In : Int → Int} {Sn : Int → Int} {Qn : Int → Int} {S2 : St} {c1 : Int} {r1 : Int} {m1 : Int} {ct1 : Int} {B1 : Int → Int} {F1 : Int → Int} {Z1 : Int → Int} {Br1 : Int → Int} {Q1 : Int → Int} {Fo1 : Int → Int} {No1 : Int → Int} {sd : Int} {rt : Int} {lf : Int} {wy : Int} {gb : Int → Int} {P0 : St} {P1 : St} {rf : Int} {S3 : St} {S4 : St} {ac : Int} {Bm : Int → Int} {Im : Int → Int} {mm : Int} {Fi : Int → Int} {Co : Int → Int} {Bq : Int → Int} {Wt : Int → Int} {mk : Int → Int} {gy : Int → Int} {di : Int → Int} {ke : Int → Int} {ik : Int → Int} {ea : Int → Int} {sd2 : Int} {rt2 : Int} {lf2 : Int} {wy2 : Int} {sp : Int} {ou : Int} {fo : Int → Int}
theorem cs_ink {X : Cx} {b L : Nat} {xs : Nat → Int32} {i : Int} {kc ks : Nat} (ok : OKL X) (pre : PRE X b L xs i kc ks) (hcn : CN S kn nk c0 r0 m0 ct B F Z Fo No Ho Mo In) (hr : rwI B1 F1 Z1) (hB : ∀ i, 0 ≤ Bm i ∧ Bm i ≤ 5) (hI : ∀ i, rg (Im i)) (t : TW S S3) (hm : RM cnt nx σ ac di) (hk9 : RK P0 P1 sv ik ke) (ht9 : REt sz tx) (k : ∀ M, INV M → AW X (kc + 1) (ks + 6) 2245 [some (.ref 4095), some (.ref 0), some (.ref 103), some (.ref 119), some (iv i), none, none] [] M) :
    AW X kc ks 850 [some (.ref 4095), some (.ref 0), some (.ref 103), some (.ref 119), some (iv i), none, none] [] (lwW kn nk sz tx S (ringP 7) cnt nx σ (slotP 95) sv c0 r0 m0 ct B F Z Br Q Fo No Ho Mo In Sn Qn S2 c1 r1 m1 ct1 B1 F1 Z1 Br1 Q1 Fo1 No1 sd rt lf wy gb P0 P1 rf S3 S4 ac Bm Im mm Fi Co Bq Wt mk gy di ke ik ea sd2 rt2 lf2 wy2 sp ou fo) := by
  obtain ⟨ex, hN, sc, hi, hL, hl, hkc, hks⟩ := pre
  have hc9 : 0 ≤ ac ∧ ac ≤ 14 := by rw [hm.2.2.1]; exact hm.1
  have eA : inkF (sC S3) (sR S3) (bS S3) (sH S3) (sI S3) = inkF (sC S) (sR S) (bS S) (sH S) (sI S) := aInk_E t.2.2
  refine a_aload_n (pc := 850) ok dL_law_850 rfl ?_
  refine x_callV (pc := 851) ok [0, 3, 4, 5, 6, 67, 68, 69, 70, 71, 72, 73, 74, 75, 76, 77, 78, 79, 80, 93, 81, 0, 0, 0, 85, 0, 0, 0, 0, 0, 0, 0, 94, 1, 0, 65, 0, 0, 0, 0, 0, 0, 0, 0, 66, 7] 19 dL_law_851 mvL_162 miX6_ink (c_ink t.1 hcn) ⟨by decide, by decide, rfl, rfl, (by show _ ≤ 601024; omega), (by show _ ≤ 7293034; omega)⟩ rfl rfl (Nat.le_of_ble_eq_true rfl) rfl rfl (by decide) rfl rfl (fun _ _ h => RB_len h.2) ?_
  rintro _ M9 ⟨rfl, hp⟩
  obtain ⟨kn', nk', c0', r0', m0', ct', B', F', Z', Br', Q', Fo', No', Ho', Mo', In', Sn', Qn', rfl, hcn'⟩ := hp
  refine AW.cast (st2 := [iv (w32 (inkF (sC S) (sR S) (bS S) (sH S) (sI S)))]) (M2 := (lwW (kn') (nk') sz tx S (ringP 7) cnt nx σ (slotP 95) sv (c0') (r0') (m0') (ct') (B') (F') (Z') (Br') (Q') (Fo') (No') (Ho') (Mo') (In') (Sn') (Qn') S2 c1 r1 m1 ct1 B1 F1 Z1 Br1 Q1 Fo1 No1 sd rt lf wy gb P0 P1 rf S3 S4 ac Bm Im mm Fi Co Bq Wt mk gy di ke ik ea sd2 rt2 lf2 wy2 sp ou fo)) ?_ rfl (congrArg (fun v : Value => [v]) (iv_w _)) rfl
  refine a_aload_n (pc := 854) ok dL_law_854 rfl ?_
  refine a_callV (pc := 855) ok [103, 105, 110, 111, 112, 113, 114, 115, 116, 117, 106, 104, 107, 108, 109, 118] dL_law_855 mvL_165 miX7_ink (c_mink t.2.1 hB hI) ⟨by decide, by decide, rfl, rfl, (by show _ ≤ 601024; omega), (by show _ ≤ 7293034; omega)⟩ rfl rfl (Nat.le_of_ble_eq_true rfl) rfl (by decide) rfl rfl (fun _ _ h => WM_len h.2) ?_
  rintro _ M' ⟨rfl, hwm⟩
  obtain ⟨Bm', Im', mm', Fi', Co', Bq', Wt', mk', gy', S4', ea', sd2', rt2', lf2', wy2', sp', ou', rfl, hB', hI'⟩ := hwm
  refine AW.cast (st2 := [iv (w32 (inkF (sC S3) (sR S3) (bS S3) (sH S3) (sI S3))), iv (w32 (inkF (sC S) (sR S) (bS S) (sH S) (sI S)))]) (M2 := (lwW (kn') (nk') sz tx S (ringP 7) cnt nx σ (slotP 95) sv (c0') (r0') (m0') (ct') (B') (F') (Z') (Br') (Q') (Fo') (No') (Ho') (Mo') (In') (Sn') (Qn') S2 c1 r1 m1 ct1 B1 F1 Z1 Br1 Q1 Fo1 No1 sd rt lf wy gb P0 P1 (0) S3 (S4') ac (Bm') (Im') (mm') (Fi') (Co') (Bq') (Wt') (mk') (gy') di ke ik (ea') (sd2') (rt2') (lf2') (wy2') (sp') (ou') fo)) ?_ rfl (congrArg (fun v : Value => [v, iv (w32 (inkF (sC S) (sR S) (bS S) (sH S) (sI S)))]) (iv_w _)) rfl
  have hInv : INV (lwW (kn') (nk') sz tx S (ringP 7) cnt nx σ (slotP 95) sv (c0') (r0') (m0') (ct') (B') (F') (Z') (Br') (Q') (Fo') (No') (Ho') (Mo') (In') (Sn') (Qn') S2 c1 r1 m1 ct1 B1 F1 Z1 Br1 Q1 Fo1 No1 sd rt lf wy gb P0 P1 (0) S3 (S4') ac (Bm') (Im') (mm') (Fi') (Co') (Bq') (Wt') (mk') (gy') di ke ik (ea') (sd2') (rt2') (lf2') (wy2') (sp') (ou') fo) := ⟨_, _, _, _, _, _, _, _, _, _, _, _, _, _, _, _, _, _, _, _, _, _, _, _, _, _, _, _, _, _, _, _, _, _, _, _, _, _, _, _, _, _, _, _, _, _, _, _, _, _, _, _, _, _, _, _, _, _, _, _, _, _, _, _, _, _, _, _, rfl, hcn', hr, hB', hI', t, hm, hk9, ht9⟩
  refine a_icmp_eq (pc := 858) (tgt := 2245) ok dL_law_858 (by decide) (by exact rg_w _) (by exact rg_w _) (fun c858 => ?_) (fun c858 => ?_)
  · exact AW.widen (Nat.le_succ _) (Nat.le_add_right _ _) (k _ hInv)
  · exact absurd (congrArg w32 eA.symm) c858
theorem cs_plate {X : Cx} {b L : Nat} {xs : Nat → Int32} {i : Int} {kc ks : Nat} (ok : OKL X) (pre : PRE X b L xs i kc ks) (hcn : CN S kn nk c0 r0 m0 ct B F Z Fo No Ho Mo In) (hr : rwI B1 F1 Z1) (hB : ∀ i, 0 ≤ Bm i ∧ Bm i ≤ 5) (hI : ∀ i, rg (Im i)) (t : TW S S3) (hm : RM cnt nx σ ac di) (hk9 : RK P0 P1 sv ik ke) (ht9 : REt sz tx) (k : ∀ M, INV M → AW X (kc + 1) (ks + 6) 2245 [some (.ref 4095), some (.ref 0), some (.ref 103), some (.ref 119), some (iv i), none, none] [] M) :
    AW X kc ks 863 [some (.ref 4095), some (.ref 0), some (.ref 103), some (.ref 119), some (iv i), none, none] [] (lwW kn nk sz tx S (ringP 7) cnt nx σ (slotP 95) sv c0 r0 m0 ct B F Z Br Q Fo No Ho Mo In Sn Qn S2 c1 r1 m1 ct1 B1 F1 Z1 Br1 Q1 Fo1 No1 sd rt lf wy gb P0 P1 rf S3 S4 ac Bm Im mm Fi Co Bq Wt mk gy di ke ik ea sd2 rt2 lf2 wy2 sp ou fo) := by
  obtain ⟨ex, hN, sc, hi, hL, hl, hkc, hks⟩ := pre
  have hc9 : 0 ≤ ac ∧ ac ≤ 14 := by rw [hm.2.2.1]; exact hm.1
  refine AW.cast (M2 := (lwW kn nk sz tx S (ρM) cnt nx σ (slotP 95) sv c0 r0 m0 ct B F Z Br Q Fo No Ho Mo In Sn Qn S2 c1 r1 m1 ct1 B1 F1 Z1 Br1 Q1 Fo1 No1 sd rt lf wy gb P0 P1 rf S3 S4 ac Bm Im mm Fi Co Bq Wt mk gy di ke ik ea sd2 rt2 lf2 wy2 sp ou fo)) ?_ rfl rfl (by rw [ρM_eq])
  have eK : kPlate (xv xs (i + 1)) (xv xs (i + 2)) = kPlate (xv xs (i + 1)) (xv xs (i + 2)) := rfl
  have eA : kPlate (xv xs (i + 1)) (xv xs (i + 2)) = 0 → (xv xs (i + 1)) * (xv xs (i + 2)) = (xv xs (i + 1)) * (xv xs (i + 2)) := fun _ => rfl
  have hKr : rg (kPlate (xv xs (i + 1)) (xv xs (i + 2))) := by
    unfold kPlate rg
    repeat' split
    all_goals omega
  refine a_aload_n (pc := 863) ok dL_law_863 rfl ?_
  refine a_aload_n (pc := 864) ok dL_law_864 rfl ?_
  refine a_iload (pc := 865) ok dL_law_865 rfl ?_
  refine a_iconst (pc := 867) ok dL_law_867 ?_
  refine a_iadd (pc := 868) ok dL_law_868 ?_
  refine a_sld (pc := 869) ok sc dL_law_869 (by omega) hL ?_
  refine a_aload_n (pc := 870) ok dL_law_870 rfl ?_
  refine a_iload (pc := 871) ok dL_law_871 rfl ?_
  refine a_iconst (pc := 873) ok dL_law_873 ?_
  refine a_iadd (pc := 874) ok dL_law_874 ?_
  refine a_sld (pc := 875) ok sc dL_law_875 (by omega) hL ?_
  refine a_aload_n (pc := 876) ok dL_law_876 rfl ?_
  refine l_callS (pc := 877) ok ex πL_M 65 dL_law_877 (ug4 99 (by decide +kernel) rfl) (ug4 100 (by decide +kernel) rfl) miL_plate (W_plate (c := (xv xs (i + 1))) (r := (xv xs (i + 2))) hl t.1 hm.1 hm.2.1 (xv_rg _ _) (xv_rg _ _)) ⟨by decide, by decide, rfl, rfl⟩ ⟨hkc, hks⟩ rfl rfl (Nat.le_of_ble_eq_true rfl) rfl rfl nd_M (fun _ _ h => by obtain ⟨_, _, _, M9, rfl, rfl⟩ := h; rfl) ?_
  rintro _ M8 ⟨rfl, fo', hfo, M9, hp, rfl⟩
  subst hp
  refine AW.cast (st2 := [iv (kPlate (xv xs (i + 1)) (xv xs (i + 2)))]) (M2 := (lwW (if kPlate (xv xs (i + 1)) (xv xs (i + 2)) = 0 then 0 else kn) (if kPlate (xv xs (i + 1)) (xv xs (i + 2)) = 0 then 0 else nk) sz tx (if kPlate (xv xs (i + 1)) (xv xs (i + 2)) = 0 then stN S (xv xs (i + 1)) (xv xs (i + 2)) else S) (ρM) (if kPlate (xv xs (i + 1)) (xv xs (i + 2)) = 0 then min (cnt + 1) 14 else cnt) (if kPlate (xv xs (i + 1)) (xv xs (i + 2)) = 0 then (nx + 1) % 14 else nx) (if kPlate (xv xs (i + 1)) (xv xs (i + 2)) = 0 then σP S nx σ else σ) (slotP 95) sv c0 r0 m0 ct B F Z Br Q Fo No Ho Mo In Sn Qn S2 c1 r1 m1 ct1 B1 F1 Z1 Br1 Q1 Fo1 No1 sd rt lf wy gb P0 P1 rf S3 S4 ac Bm Im mm Fi Co Bq Wt mk gy di ke ik ea sd2 rt2 lf2 wy2 sp ou (fo'))) ?_ rfl rfl rfl
  refine AW.cast (M2 := (lwW (if kPlate (xv xs (i + 1)) (xv xs (i + 2)) = 0 then 0 else kn) (if kPlate (xv xs (i + 1)) (xv xs (i + 2)) = 0 then 0 else nk) sz tx (if kPlate (xv xs (i + 1)) (xv xs (i + 2)) = 0 then stN S (xv xs (i + 1)) (xv xs (i + 2)) else S) (ringP 7) (if kPlate (xv xs (i + 1)) (xv xs (i + 2)) = 0 then min (cnt + 1) 14 else cnt) (if kPlate (xv xs (i + 1)) (xv xs (i + 2)) = 0 then (nx + 1) % 14 else nx) (if kPlate (xv xs (i + 1)) (xv xs (i + 2)) = 0 then σP S nx σ else σ) (slotP 95) sv c0 r0 m0 ct B F Z Br Q Fo No Ho Mo In Sn Qn S2 c1 r1 m1 ct1 B1 F1 Z1 Br1 Q1 Fo1 No1 sd rt lf wy gb P0 P1 rf S3 S4 ac Bm Im mm Fi Co Bq Wt mk gy di ke ik ea sd2 rt2 lf2 wy2 sp ou (fo'))) ?_ rfl rfl (by rw [ρM_eq])
  refine a_istore (pc := 880) ok dL_law_880 rfl (by rw [hN]; decide) ?_
  refine a_aload_n (pc := 882) ok dL_law_882 rfl ?_
  refine a_aload_n (pc := 883) ok dL_law_883 rfl ?_
  refine a_iload (pc := 884) ok dL_law_884 rfl ?_
  refine a_iconst (pc := 886) ok dL_law_886 ?_
  refine a_iadd (pc := 887) ok dL_law_887 ?_
  refine a_sld (pc := 888) ok sc dL_law_888 (by omega) hL ?_
  refine a_aload_n (pc := 889) ok dL_law_889 rfl ?_
  refine a_iload (pc := 890) ok dL_law_890 rfl ?_
  refine a_iconst (pc := 892) ok dL_law_892 ?_
  refine a_iadd (pc := 893) ok dL_law_893 ?_
  refine a_sld (pc := 894) ok sc dL_law_894 (by omega) hL ?_
  refine a_callV (pc := 895) ok [103, 105, 110, 111, 112, 113, 114, 115, 116, 117, 106, 104, 107, 108, 109, 118] dL_law_895 mvL_168 miX7_plate (c_mplate t.2.1 hB hI hc9 (xv_rg _ _) (xv_rg _ _)) ⟨by decide, by decide, rfl, rfl, (by show _ ≤ 601024; omega), (by show _ ≤ 7293034; omega)⟩ rfl rfl (Nat.le_of_ble_eq_true rfl) rfl (by decide) rfl rfl (fun _ _ h => WM_len h.2) ?_
  rintro _ M' ⟨rfl, hwm⟩
  obtain ⟨Bm', Im', mm', Fi', Co', Bq', Wt', mk', gy', S4', ea', sd2', rt2', lf2', wy2', sp', ou', rfl, hB', hI'⟩ := hwm
  refine AW.cast (st2 := [iv (w32 (if kPlate (xv xs (i + 1)) (xv xs (i + 2)) = 0 then (xv xs (i + 1)) * (xv xs (i + 2)) else 0))]) (M2 := (lwW (if kPlate (xv xs (i + 1)) (xv xs (i + 2)) = 0 then 0 else kn) (if kPlate (xv xs (i + 1)) (xv xs (i + 2)) = 0 then 0 else nk) sz tx (if kPlate (xv xs (i + 1)) (xv xs (i + 2)) = 0 then stN S (xv xs (i + 1)) (xv xs (i + 2)) else S) (ringP 7) (if kPlate (xv xs (i + 1)) (xv xs (i + 2)) = 0 then min (cnt + 1) 14 else cnt) (if kPlate (xv xs (i + 1)) (xv xs (i + 2)) = 0 then (nx + 1) % 14 else nx) (if kPlate (xv xs (i + 1)) (xv xs (i + 2)) = 0 then σP S nx σ else σ) (slotP 95) sv c0 r0 m0 ct B F Z Br Q Fo No Ho Mo In Sn Qn S2 c1 r1 m1 ct1 B1 F1 Z1 Br1 Q1 Fo1 No1 sd rt lf wy gb P0 P1 (kPlate (xv xs (i + 1)) (xv xs (i + 2))) (if kPlate (xv xs (i + 1)) (xv xs (i + 2)) = 0 then stN S3 (xv xs (i + 1)) (xv xs (i + 2)) else S3) (S4') (if kPlate (xv xs (i + 1)) (xv xs (i + 2)) = 0 then aP ac else ac) (Bm') (Im') (mm') (Fi') (Co') (Bq') (Wt') (mk') (gy') (if kPlate (xv xs (i + 1)) (xv xs (i + 2)) = 0 then dP S3 ac di else di) ke ik (ea') (sd2') (rt2') (lf2') (wy2') (sp') (ou') (fo'))) ?_ rfl (congrArg (fun v : Value => [v]) (iv_w _)) rfl
  have hInv : INV (lwW (if kPlate (xv xs (i + 1)) (xv xs (i + 2)) = 0 then 0 else kn) (if kPlate (xv xs (i + 1)) (xv xs (i + 2)) = 0 then 0 else nk) sz tx (if kPlate (xv xs (i + 1)) (xv xs (i + 2)) = 0 then stN S (xv xs (i + 1)) (xv xs (i + 2)) else S) (ringP 7) (if kPlate (xv xs (i + 1)) (xv xs (i + 2)) = 0 then min (cnt + 1) 14 else cnt) (if kPlate (xv xs (i + 1)) (xv xs (i + 2)) = 0 then (nx + 1) % 14 else nx) (if kPlate (xv xs (i + 1)) (xv xs (i + 2)) = 0 then σP S nx σ else σ) (slotP 95) sv c0 r0 m0 ct B F Z Br Q Fo No Ho Mo In Sn Qn S2 c1 r1 m1 ct1 B1 F1 Z1 Br1 Q1 Fo1 No1 sd rt lf wy gb P0 P1 (kPlate (xv xs (i + 1)) (xv xs (i + 2))) (if kPlate (xv xs (i + 1)) (xv xs (i + 2)) = 0 then stN S3 (xv xs (i + 1)) (xv xs (i + 2)) else S3) (S4') (if kPlate (xv xs (i + 1)) (xv xs (i + 2)) = 0 then aP ac else ac) (Bm') (Im') (mm') (Fi') (Co') (Bq') (Wt') (mk') (gy') (if kPlate (xv xs (i + 1)) (xv xs (i + 2)) = 0 then dP S3 ac di else di) ke ik (ea') (sd2') (rt2') (lf2') (wy2') (sp') (ou') (fo')) := ⟨_, _, _, _, _, _, _, _, _, _, _, _, _, _, _, _, _, _, _, _, _, _, _, _, _, _, _, _, _, _, _, _, _, _, _, _, _, _, _, _, _, _, _, _, _, _, _, _, _, _, _, _, _, _, _, _, _, _, _, _, _, _, _, _, _, _, _, _, rfl, CN_if hcn, hr, hB', hI', TW_if eK t (fun z => ⟨SV_stN t.1 (by have q := kPlate_0 z; unfold dim; omega), SV_stN t.2.1 (by have q := kPlate_0 z; unfold dim; omega), StE_stN t.2.2 _ _⟩), RM_if eK hm t, hk9, ht9⟩
  refine a_istore (pc := 898) ok dL_law_898 rfl (by rw [hN]; decide) ?_
  refine a_aload_n (pc := 900) ok dL_law_900 rfl ?_
  refine x_callVp (pc := 901) ok [103, 104, 105, 106, 107, 108, 109, 110, 111, 112, 113, 114, 115, 116, 117, 118] 1 dL_law_901 mvL_121 miX7_thrown (c_thrown) ⟨by decide, by decide, rfl, rfl, (by show _ ≤ 601024; omega), (by show _ ≤ 7293034; omega)⟩ rfl rfl (Nat.le_of_ble_eq_true rfl) rfl rfl (by decide) rfl rfl ?_
  refine a_iload (pc := 904) ok dL_law_904 rfl ?_
  refine a_icmp_eq (pc := 906) (tgt := 911) ok dL_law_906 (by decide) (by first | exact hKr | (rw [eK]; exact hKr)) (by first | exact hKr | (rw [eK]; exact hKr)) (fun c906 => ?_) (fun c906 => ?_)
  · refine a_iload (pc := 911) ok dL_law_911 rfl ?_
    refine a_if_ne (pc := 913) (tgt := 928) ok dL_law_913 (by decide) (by exact hKr) (fun c913 => ?_) (fun c913 => ?_)
    · refine a_goto (pc := 928) (tgt := 2245) ok dL_law_928 (by decide) ?_
      exact AW.forget (k _ hInv) (by repeat' (first | exact trivial | refine ⟨rfl, ?_⟩))
    · have h0 : kPlate (xv xs (i + 1)) (xv xs (i + 2)) = 0 := by first | exact c913 | omega
      have e1 := hfo h0
      have e2 : w32 (if kPlate (xv xs (i + 1)) (xv xs (i + 2)) = 0 then (xv xs (i + 1)) * (xv xs (i + 2)) else 0) = w32 ((xv xs (i + 1)) * (xv xs (i + 2))) := by have q := eK.trans h0; have q2 := eA h0; rw [if_pos q, q2]
      refine a_aload_n (pc := 916) ok dL_law_916 rfl ?_
      refine a_iconst (pc := 917) ok dL_law_917 ?_
      refine a_lald (pc := 918) ok dL_law_918 (rfl) (by decide) (by omega) ?_
      refine a_iload (pc := 919) ok dL_law_919 rfl ?_
      refine a_i2l (pc := 921) ok dL_law_921 (by exact rg_w _) ?_
      refine a_lcmp (pc := 922) ok dL_law_922 (by first | (rw [e1]; exact rgL_w9 _) | exact rgL_w9 _) (by first | (rw [e1]; exact rgL_w9 _) | exact rgL_w9 _) (fun c922 => ?_) (fun c922 => ?_) (fun c922 => ?_)
      · exfalso; rw [e1, e2] at c922; exact absurd c922 (Int.lt_irrefl _)
      · refine a_if_eq (pc := 923) (tgt := 928) ok dL_law_923 (by decide) (by first | omega | (unfold rg; omega) | (simp only [rg] at *; omega) | exact bz_rg _ | grind [rg]) (fun c923 => ?_) (fun c923 => ?_)
        · refine a_goto (pc := 928) (tgt := 2245) ok dL_law_928 (by decide) ?_
          exact AW.forget (k _ hInv) (by repeat' (first | exact trivial | refine ⟨rfl, ?_⟩))
        · exact absurd rfl c923
      · exfalso; rw [e1, e2] at c922; exact absurd c922 (Int.lt_irrefl _)
  · exact absurd eK c906
end LC106
