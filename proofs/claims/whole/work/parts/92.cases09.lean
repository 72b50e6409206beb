/-! THE LAW: its cases. Printed by wip/whole/gen/mk91.py. -/
section LC108
variable {kn : Int} {nk : Int} {sz : Int} {tx : Int → Int} {S : St} {cnt : Int} {nx : Int} {σ : Nat → St} {sv : Int → Int} {c0 : Int} {r0 : Int} {m0 : Int} {ct : Int} {B : Int → Int} {F : Int → Int} {Z : Int → Int} {Br : Int → Int} {Q : Int → Int} {Fo : Int → Int} {No : Int → Int} {Ho : Int → Int} {Mo : Int → Int} {In : Int → Int} {Sn : Int → Int} {Qn : Int → Int} {S2 : St} {c1 : Int} {r1 : Int} {m1 : Int} {ct1 : Int} {B1 : Int → Int} {F1 : Int → Int} {Z1 : Int → Int} {Br1 : Int → Int} {Q1 : Int → Int} {Fo1 : Int → Int} {No1 : Int → Int} {sd : Int} {rt : Int} {lf : Int} {wy : Int} {gb : Int → Int} {P0 : St} {P1 : St} {rf : Int} {S3 : St} {S4 : St} {ac : Int} {Bm : Int → Int} {Im : Int → Int} {mm : Int} {Fi : Int → Int} {Co : Int → Int} {Bq : Int → Int} {Wt : Int → Int} {mk : Int → Int} {gy : Int → Int} {di : Int → Int} {ke : Int → Int} {ik : Int → Int} {ea : Int → Int} {sd2 : Int} {rt2 : Int} {lf2 : Int} {wy2 : Int} {sp : Int} {ou : Int} {fo : Int → Int}
theorem cs_threshold {X : Cx} {b L : Nat} {xs : Nat → Int32} {i : Int} {kc ks : Nat} (ok : OKL X) (pre : PRE X b L xs i kc ks) (hcn : CN S kn nk c0 r0 m0 ct B F Z Fo No Ho Mo In) (hr : rwI B1 F1 Z1) (hB : ∀ i, 0 ≤ Bm i ∧ Bm i ≤ 5) (hI : ∀ i, rg (Im i)) (t : TW S S3) (hm : RM cnt nx σ ac di) (hk9 : RK P0 P1 sv ik ke) (ht9 : REt sz tx) (k : ∀ M, INV M → AW X (kc + 1) (ks + 6) 2245 [some (.ref 4095), some (.ref 0), some (.ref 103), some (.ref 119), some (iv i), none, none] [] M) :
    AW X kc ks 1115 [some (.ref 4095), some (.ref 0), some (.ref 103), some (.ref 119), some (iv i), none, none] [] (lwW kn nk sz tx S (ringP 7) cnt nx σ (slotP 95) sv c0 r0 m0 ct B F Z Br Q Fo No Ho Mo In Sn Qn S2 c1 r1 m1 ct1 B1 F1 Z1 Br1 Q1 Fo1 No1 sd rt lf wy gb P0 P1 rf S3 S4 ac Bm Im mm Fi Co Bq Wt mk gy di ke ik ea sd2 rt2 lf2 wy2 sp ou fo) := by
  obtain ⟨ex, hN, sc, hi, hL, hl, hkc, hks⟩ := pre
  have hc9 : 0 ≤ ac ∧ ac ≤ 14 := by rw [hm.2.2.1]; exact hm.1
  refine AW.cast (M2 := (lwW kn nk sz tx S (ρM) cnt nx σ (slotP 95) sv c0 r0 m0 ct B F Z Br Q Fo No Ho Mo In Sn Qn S2 c1 r1 m1 ct1 B1 F1 Z1 Br1 Q1 Fo1 No1 sd rt lf wy gb P0 P1 rf S3 S4 ac Bm Im mm Fi Co Bq Wt mk gy di ke ik ea sd2 rt2 lf2 wy2 sp ou fo)) ?_ rfl rfl (by rw [ρM_eq])
  refine a_aload_n (pc := 1115) ok dL_law_1115 rfl ?_
  refine a_aload_n (pc := 1116) ok dL_law_1116 rfl ?_
  refine a_iload (pc := 1117) ok dL_law_1117 rfl ?_
  refine a_iconst (pc := 1119) ok dL_law_1119 ?_
  refine a_iadd (pc := 1120) ok dL_law_1120 ?_
  refine a_sld (pc := 1121) ok sc dL_law_1121 (by omega) hL ?_
  refine a_aload_n (pc := 1122) ok dL_law_1122 rfl ?_
  refine a_iload (pc := 1123) ok dL_law_1123 rfl ?_
  refine a_iconst (pc := 1125) ok dL_law_1125 ?_
  refine a_iadd (pc := 1126) ok dL_law_1126 ?_
  refine a_sld (pc := 1127) ok sc dL_law_1127 (by omega) hL ?_
  refine a_if_eq (pc := 1128) (tgt := 1135) ok dL_law_1128 (by decide) (by exact xv_rg _ _) (fun c1128 => ?_) (fun c1128 => ?_)
  · have eK : kPart S3 (xv xs (i + 1)) 0 = kPart S (xv xs (i + 1)) 0 := kPart_E t.2.2 _ _
    have eA : kPart S (xv xs (i + 1)) 0 = 0 → (chN (sN S3) 0 : Int) = (chN (sN S) 0 : Int) := fun _ => by rw [← t.2.2.2.2.2.1]
    have hKr : rg (kPart S (xv xs (i + 1)) 0) := by
      unfold kPart rg
      repeat' split
      all_goals omega
    refine a_iconst (pc := 1135) ok dL_law_1135 ?_
    refine a_aload_n (pc := 1136) ok dL_law_1136 rfl ?_
    refine l_callS (pc := 1137) ok ex πL_M 65 dL_law_1137 (ug4 125 (by decide +kernel) rfl) (ug4 126 (by decide +kernel) rfl) miL_threshold (W_threshold (v := (xv xs (i + 1))) (b := 0) hl t.1 hm.1 hm.2.1 (xv_rg _ _) (by unfold rg; omega)) ⟨by decide, by decide, rfl, rfl⟩ ⟨hkc, hks⟩ rfl rfl (Nat.le_of_ble_eq_true rfl) rfl rfl nd_M (fun _ _ h => by obtain ⟨_, _, _, M9, rfl, rfl⟩ := h; rfl) ?_
    rintro _ M8 ⟨rfl, fo', hfo, M9, hp, rfl⟩
    subst hp
    refine AW.cast (st2 := [iv (kPart S (xv xs (i + 1)) 0)]) (M2 := (lwW (if kPart S (xv xs (i + 1)) 0 = 0 then 0 else kn) (if kPart S (xv xs (i + 1)) 0 = 0 then 0 else nk) sz tx (if kPart S (xv xs (i + 1)) 0 = 0 then gT S (xv xs (i + 1)) 0 else S) (ρM) (if kPart S (xv xs (i + 1)) 0 = 0 then min (cnt + 1) 14 else cnt) (if kPart S (xv xs (i + 1)) 0 = 0 then (nx + 1) % 14 else nx) (if kPart S (xv xs (i + 1)) 0 = 0 then σP S nx σ else σ) (slotP 95) sv c0 r0 m0 ct B F Z Br Q Fo No Ho Mo In Sn Qn S2 c1 r1 m1 ct1 B1 F1 Z1 Br1 Q1 Fo1 No1 sd rt lf wy gb P0 P1 rf S3 S4 ac Bm Im mm Fi Co Bq Wt mk gy di ke ik ea sd2 rt2 lf2 wy2 sp ou (fo'))) ?_ rfl rfl rfl
    refine AW.cast (M2 := (lwW (if kPart S (xv xs (i + 1)) 0 = 0 then 0 else kn) (if kPart S (xv xs (i + 1)) 0 = 0 then 0 else nk) sz tx (if kPart S (xv xs (i + 1)) 0 = 0 then gT S (xv xs (i + 1)) 0 else S) (ringP 7) (if kPart S (xv xs (i + 1)) 0 = 0 then min (cnt + 1) 14 else cnt) (if kPart S (xv xs (i + 1)) 0 = 0 then (nx + 1) % 14 else nx) (if kPart S (xv xs (i + 1)) 0 = 0 then σP S nx σ else σ) (slotP 95) sv c0 r0 m0 ct B F Z Br Q Fo No Ho Mo In Sn Qn S2 c1 r1 m1 ct1 B1 F1 Z1 Br1 Q1 Fo1 No1 sd rt lf wy gb P0 P1 rf S3 S4 ac Bm Im mm Fi Co Bq Wt mk gy di ke ik ea sd2 rt2 lf2 wy2 sp ou (fo'))) ?_ rfl rfl (by rw [ρM_eq])
    refine a_istore (pc := 1140) ok dL_law_1140 rfl (by rw [hN]; decide) ?_
    refine a_aload_n (pc := 1142) ok dL_law_1142 rfl ?_
    refine a_aload_n (pc := 1143) ok dL_law_1143 rfl ?_
    refine a_iload (pc := 1144) ok dL_law_1144 rfl ?_
    refine a_iconst (pc := 1146) ok dL_law_1146 ?_
    refine a_iadd (pc := 1147) ok dL_law_1147 ?_
    refine a_sld (pc := 1148) ok sc dL_law_1148 (by omega) hL ?_
    refine a_aload_n (pc := 1149) ok dL_law_1149 rfl ?_
    refine a_iload (pc := 1150) ok dL_law_1150 rfl ?_
    refine a_iconst (pc := 1152) ok dL_law_1152 ?_
    refine a_iadd (pc := 1153) ok dL_law_1153 ?_
    refine a_sld (pc := 1154) ok sc dL_law_1154 (by omega) hL ?_
    refine a_if_eq (pc := 1155) (tgt := 1162) ok dL_law_1155 (by decide) (by exact xv_rg _ _) (fun c1155 => ?_) (fun c1155 => ?_)
    · refine a_iconst (pc := 1162) ok dL_law_1162 ?_
      refine a_callV (pc := 1163) ok [103, 105, 110, 111, 112, 113, 114, 115, 116, 117, 106, 104, 107, 108, 109, 118] dL_law_1163 mvL_179 miX7_threshold (c_mthreshold t.2.1 hB hI hc9 (xv_rg _ _) (by unfold rg; omega)) ⟨by decide, by decide, rfl, rfl, (by show _ ≤ 601024; omega), (by show _ ≤ 7293034; omega)⟩ rfl rfl (Nat.le_of_ble_eq_true rfl) rfl (by decide) rfl rfl (fun _ _ h => WM_len h.2) ?_
      rintro _ M' ⟨rfl, hwm⟩
      obtain ⟨Bm', Im', mm', Fi', Co', Bq', Wt', mk', gy', S4', ea', sd2', rt2', lf2', wy2', sp', ou', rfl, hB', hI'⟩ := hwm
      refine AW.cast (st2 := [iv (w32 (if kPart S3 (xv xs (i + 1)) 0 = 0 then (chN (sN S3) 0 : Int) else 0))]) (M2 := (lwW (if kPart S (xv xs (i + 1)) 0 = 0 then 0 else kn) (if kPart S (xv xs (i + 1)) 0 = 0 then 0 else nk) sz tx (if kPart S (xv xs (i + 1)) 0 = 0 then gT S (xv xs (i + 1)) 0 else S) (ringP 7) (if kPart S (xv xs (i + 1)) 0 = 0 then min (cnt + 1) 14 else cnt) (if kPart S (xv xs (i + 1)) 0 = 0 then (nx + 1) % 14 else nx) (if kPart S (xv xs (i + 1)) 0 = 0 then σP S nx σ else σ) (slotP 95) sv c0 r0 m0 ct B F Z Br Q Fo No Ho Mo In Sn Qn S2 c1 r1 m1 ct1 B1 F1 Z1 Br1 Q1 Fo1 No1 sd rt lf wy gb P0 P1 (kPart S3 (xv xs (i + 1)) 0) (if kPart S3 (xv xs (i + 1)) 0 = 0 then gT S3 (xv xs (i + 1)) 0 else S3) (S4') (if kPart S3 (xv xs (i + 1)) 0 = 0 then aP ac else ac) (Bm') (Im') (mm') (Fi') (Co') (Bq') (Wt') (mk') (gy') (if kPart S3 (xv xs (i + 1)) 0 = 0 then dP S3 ac di else di) ke ik (ea') (sd2') (rt2') (lf2') (wy2') (sp') (ou') (fo'))) ?_ rfl (congrArg (fun v : Value => [v]) (iv_w _)) rfl
      have hInv : INV (lwW (if kPart S (xv xs (i + 1)) 0 = 0 then 0 else kn) (if kPart S (xv xs (i + 1)) 0 = 0 then 0 else nk) sz tx (if kPart S (xv xs (i + 1)) 0 = 0 then gT S (xv xs (i + 1)) 0 else S) (ringP 7) (if kPart S (xv xs (i + 1)) 0 = 0 then min (cnt + 1) 14 else cnt) (if kPart S (xv xs (i + 1)) 0 = 0 then (nx + 1) % 14 else nx) (if kPart S (xv xs (i + 1)) 0 = 0 then σP S nx σ else σ) (slotP 95) sv c0 r0 m0 ct B F Z Br Q Fo No Ho Mo In Sn Qn S2 c1 r1 m1 ct1 B1 F1 Z1 Br1 Q1 Fo1 No1 sd rt lf wy gb P0 P1 (kPart S3 (xv xs (i + 1)) 0) (if kPart S3 (xv xs (i + 1)) 0 = 0 then gT S3 (xv xs (i + 1)) 0 else S3) (S4') (if kPart S3 (xv xs (i + 1)) 0 = 0 then aP ac else ac) (Bm') (Im') (mm') (Fi') (Co') (Bq') (Wt') (mk') (gy') (if kPart S3 (xv xs (i + 1)) 0 = 0 then dP S3 ac di else di) ke ik (ea') (sd2') (rt2') (lf2') (wy2') (sp') (ou') (fo')) := ⟨_, _, _, _, _, _, _, _, _, _, _, _, _, _, _, _, _, _, _, _, _, _, _, _, _, _, _, _, _, _, _, _, _, _, _, _, _, _, _, _, _, _, _, _, _, _, _, _, _, _, _, _, _, _, _, _, _, _, _, _, _, _, _, _, _, _, _, _, rfl, CN_if hcn, hr, hB', hI', TW_if eK t (fun z => ⟨SV_gT t.1 ⟨(kPart_0 z).1.1, (kPart_0 z).1.2, (kPart_0 z).2⟩, SV_gT t.2.1 ((StE_kT t.2.2 _ _).mp ⟨(kPart_0 z).1.1, (kPart_0 z).1.2, (kPart_0 z).2⟩), StE_gT t.2.2 ⟨(kPart_0 z).1.1, (kPart_0 z).1.2, (kPart_0 z).2⟩⟩), RM_if eK hm t, hk9, ht9⟩
      refine a_istore (pc := 1166) ok dL_law_1166 rfl (by rw [hN]; decide) ?_
      refine a_aload_n (pc := 1168) ok dL_law_1168 rfl ?_
      refine x_callVp (pc := 1169) ok [103, 104, 105, 106, 107, 108, 109, 110, 111, 112, 113, 114, 115, 116, 117, 118] 1 dL_law_1169 mvL_121 miX7_thrown (c_thrown) ⟨by decide, by decide, rfl, rfl, (by show _ ≤ 601024; omega), (by show _ ≤ 7293034; omega)⟩ rfl rfl (Nat.le_of_ble_eq_true rfl) rfl rfl (by decide) rfl rfl ?_
      refine a_iload (pc := 1172) ok dL_law_1172 rfl ?_
      refine a_icmp_eq (pc := 1174) (tgt := 1179) ok dL_law_1174 (by decide) (by first | exact hKr | (rw [eK]; exact hKr)) (by first | exact hKr | (rw [eK]; exact hKr)) (fun c1174 => ?_) (fun c1174 => ?_)
      · refine a_iload (pc := 1179) ok dL_law_1179 rfl ?_
        refine a_if_ne (pc := 1181) (tgt := 1196) ok dL_law_1181 (by decide) (by exact hKr) (fun c1181 => ?_) (fun c1181 => ?_)
        · refine a_goto (pc := 1196) (tgt := 2245) ok dL_law_1196 (by decide) ?_
          exact AW.forget (k _ hInv) (by repeat' (first | exact trivial | refine ⟨rfl, ?_⟩))
        · have h0 : kPart S (xv xs (i + 1)) 0 = 0 := by first | exact c1181 | omega
          have e1 := hfo h0
          have e2 : w32 (if kPart S3 (xv xs (i + 1)) 0 = 0 then (chN (sN S3) 0 : Int) else 0) = w32 ((chN (sN S) 0 : Int)) := by have q := eK.trans h0; have q2 := eA h0; rw [if_pos q, q2]
          refine a_aload_n (pc := 1184) ok dL_law_1184 rfl ?_
          refine a_iconst (pc := 1185) ok dL_law_1185 ?_
          refine a_lald (pc := 1186) ok dL_law_1186 (rfl) (by decide) (by omega) ?_
          refine a_iload (pc := 1187) ok dL_law_1187 rfl ?_
          refine a_i2l (pc := 1189) ok dL_law_1189 (by exact rg_w _) ?_
          refine a_lcmp (pc := 1190) ok dL_law_1190 (by first | (rw [e1]; exact rgL_w9 _) | exact rgL_w9 _) (by first | (rw [e1]; exact rgL_w9 _) | exact rgL_w9 _) (fun c1190 => ?_) (fun c1190 => ?_) (fun c1190 => ?_)
          · exfalso; rw [e1, e2] at c1190; exact absurd c1190 (Int.lt_irrefl _)
          · refine a_if_eq (pc := 1191) (tgt := 1196) ok dL_law_1191 (by decide) (by first | omega | (unfold rg; omega) | (simp only [rg] at *; omega) | exact bz_rg _ | grind [rg]) (fun c1191 => ?_) (fun c1191 => ?_)
            · refine a_goto (pc := 1196) (tgt := 2245) ok dL_law_1196 (by decide) ?_
              exact AW.forget (k _ hInv) (by repeat' (first | exact trivial | refine ⟨rfl, ?_⟩))
            · exact absurd rfl c1191
          · exfalso; rw [e1, e2] at c1190; exact absurd c1190 (Int.lt_irrefl _)
      · exact absurd eK c1174
    · exact absurd c1128 c1155
  · have eK : kPart S3 (xv xs (i + 1)) 1 = kPart S (xv xs (i + 1)) 1 := kPart_E t.2.2 _ _
    have eA : kPart S (xv xs (i + 1)) 1 = 0 → (chN (sN S3) 1 : Int) = (chN (sN S) 1 : Int) := fun _ => by rw [← t.2.2.2.2.2.1]
    have hKr : rg (kPart S (xv xs (i + 1)) 1) := by
      unfold kPart rg
      repeat' split
      all_goals omega
    refine a_iconst (pc := 1131) ok dL_law_1131 ?_
    refine a_goto (pc := 1132) (tgt := 1136) ok dL_law_1132 (by decide) ?_
    refine a_aload_n (pc := 1136) ok dL_law_1136 rfl ?_
    refine l_callS (pc := 1137) ok ex πL_M 65 dL_law_1137 (ug4 125 (by decide +kernel) rfl) (ug4 126 (by decide +kernel) rfl) miL_threshold (W_threshold (v := (xv xs (i + 1))) (b := 1) hl t.1 hm.1 hm.2.1 (xv_rg _ _) (by unfold rg; omega)) ⟨by decide, by decide, rfl, rfl⟩ ⟨hkc, hks⟩ rfl rfl (Nat.le_of_ble_eq_true rfl) rfl rfl nd_M (fun _ _ h => by obtain ⟨_, _, _, M9, rfl, rfl⟩ := h; rfl) ?_
    rintro _ M8 ⟨rfl, fo', hfo, M9, hp, rfl⟩
    subst hp
    refine AW.cast (st2 := [iv (kPart S (xv xs (i + 1)) 1)]) (M2 := (lwW (if kPart S (xv xs (i + 1)) 1 = 0 then 0 else kn) (if kPart S (xv xs (i + 1)) 1 = 0 then 0 else nk) sz tx (if kPart S (xv xs (i + 1)) 1 = 0 then gT S (xv xs (i + 1)) 1 else S) (ρM) (if kPart S (xv xs (i + 1)) 1 = 0 then min (cnt + 1) 14 else cnt) (if kPart S (xv xs (i + 1)) 1 = 0 then (nx + 1) % 14 else nx) (if kPart S (xv xs (i + 1)) 1 = 0 then σP S nx σ else σ) (slotP 95) sv c0 r0 m0 ct B F Z Br Q Fo No Ho Mo In Sn Qn S2 c1 r1 m1 ct1 B1 F1 Z1 Br1 Q1 Fo1 No1 sd rt lf wy gb P0 P1 rf S3 S4 ac Bm Im mm Fi Co Bq Wt mk gy di ke ik ea sd2 rt2 lf2 wy2 sp ou (fo'))) ?_ rfl rfl rfl
    refine AW.cast (M2 := (lwW (if kPart S (xv xs (i + 1)) 1 = 0 then 0 else kn) (if kPart S (xv xs (i + 1)) 1 = 0 then 0 else nk) sz tx (if kPart S (xv xs (i + 1)) 1 = 0 then gT S (xv xs (i + 1)) 1 else S) (ringP 7) (if kPart S (xv xs (i + 1)) 1 = 0 then min (cnt + 1) 14 else cnt) (if kPart S (xv xs (i + 1)) 1 = 0 then (nx + 1) % 14 else nx) (if kPart S (xv xs (i + 1)) 1 = 0 then σP S nx σ else σ) (slotP 95) sv c0 r0 m0 ct B F Z Br Q Fo No Ho Mo In Sn Qn S2 c1 r1 m1 ct1 B1 F1 Z1 Br1 Q1 Fo1 No1 sd rt lf wy gb P0 P1 rf S3 S4 ac Bm Im mm Fi Co Bq Wt mk gy di ke ik ea sd2 rt2 lf2 wy2 sp ou (fo'))) ?_ rfl rfl (by rw [ρM_eq])
    refine a_istore (pc := 1140) ok dL_law_1140 rfl (by rw [hN]; decide) ?_
    refine a_aload_n (pc := 1142) ok dL_law_1142 rfl ?_
    refine a_aload_n (pc := 1143) ok dL_law_1143 rfl ?_
    refine a_iload (pc := 1144) ok dL_law_1144 rfl ?_
    refine a_iconst (pc := 1146) ok dL_law_1146 ?_
    refine a_iadd (pc := 1147) ok dL_law_1147 ?_
    refine a_sld (pc := 1148) ok sc dL_law_1148 (by omega) hL ?_
    refine a_aload_n (pc := 1149) ok dL_law_1149 rfl ?_
    refine a_iload (pc := 1150) ok dL_law_1150 rfl ?_
    refine a_iconst (pc := 1152) ok dL_law_1152 ?_
    refine a_iadd (pc := 1153) ok dL_law_1153 ?_
    refine a_sld (pc := 1154) ok sc dL_law_1154 (by omega) hL ?_
    refine a_if_eq (pc := 1155) (tgt := 1162) ok dL_law_1155 (by decide) (by exact xv_rg _ _) (fun c1155 => ?_) (fun c1155 => ?_)
    · exact absurd c1155 c1128
    · refine a_iconst (pc := 1158) ok dL_law_1158 ?_
      refine a_goto (pc := 1159) (tgt := 1163) ok dL_law_1159 (by decide) ?_
      refine a_callV (pc := 1163) ok [103, 105, 110, 111, 112, 113, 114, 115, 116, 117, 106, 104, 107, 108, 109, 118] dL_law_1163 mvL_179 miX7_threshold (c_mthreshold t.2.1 hB hI hc9 (xv_rg _ _) (by unfold rg; omega)) ⟨by decide, by decide, rfl, rfl, (by show _ ≤ 601024; omega), (by show _ ≤ 7293034; omega)⟩ rfl rfl (Nat.le_of_ble_eq_true rfl) rfl (by decide) rfl rfl (fun _ _ h => WM_len h.2) ?_
      rintro _ M' ⟨rfl, hwm⟩
      obtain ⟨Bm', Im', mm', Fi', Co', Bq', Wt', mk', gy', S4', ea', sd2', rt2', lf2', wy2', sp', ou', rfl, hB', hI'⟩ := hwm
      refine AW.cast (st2 := [iv (w32 (if kPart S3 (xv xs (i + 1)) 1 = 0 then (chN (sN S3) 1 : Int) else 0))]) (M2 := (lwW (if kPart S (xv xs (i + 1)) 1 = 0 then 0 else kn) (if kPart S (xv xs (i + 1)) 1 = 0 then 0 else nk) sz tx (if kPart S (xv xs (i + 1)) 1 = 0 then gT S (xv xs (i + 1)) 1 else S) (ringP 7) (if kPart S (xv xs (i + 1)) 1 = 0 then min (cnt + 1) 14 else cnt) (if kPart S (xv xs (i + 1)) 1 = 0 then (nx + 1) % 14 else nx) (if kPart S (xv xs (i + 1)) 1 = 0 then σP S nx σ else σ) (slotP 95) sv c0 r0 m0 ct B F Z Br Q Fo No Ho Mo In Sn Qn S2 c1 r1 m1 ct1 B1 F1 Z1 Br1 Q1 Fo1 No1 sd rt lf wy gb P0 P1 (kPart S3 (xv xs (i + 1)) 1) (if kPart S3 (xv xs (i + 1)) 1 = 0 then gT S3 (xv xs (i + 1)) 1 else S3) (S4') (if kPart S3 (xv xs (i + 1)) 1 = 0 then aP ac else ac) (Bm') (Im') (mm') (Fi') (Co') (Bq') (Wt') (mk') (gy') (if kPart S3 (xv xs (i + 1)) 1 = 0 then dP S3 ac di else di) ke ik (ea') (sd2') (rt2') (lf2') (wy2') (sp') (ou') (fo'))) ?_ rfl (congrArg (fun v : Value => [v]) (iv_w _)) rfl
      have hInv : INV (lwW (if kPart S (xv xs (i + 1)) 1 = 0 then 0 else kn) (if kPart S (xv xs (i + 1)) 1 = 0 then 0 else nk) sz tx (if kPart S (xv xs (i + 1)) 1 = 0 then gT S (xv xs (i + 1)) 1 else S) (ringP 7) (if kPart S (xv xs (i + 1)) 1 = 0 then min (cnt + 1) 14 else cnt) (if kPart S (xv xs (i + 1)) 1 = 0 then (nx + 1) % 14 else nx) (if kPart S (xv xs (i + 1)) 1 = 0 then σP S nx σ else σ) (slotP 95) sv c0 r0 m0 ct B F Z Br Q Fo No Ho Mo In Sn Qn S2 c1 r1 m1 ct1 B1 F1 Z1 Br1 Q1 Fo1 No1 sd rt lf wy gb P0 P1 (kPart S3 (xv xs (i + 1)) 1) (if kPart S3 (xv xs (i + 1)) 1 = 0 then gT S3 (xv xs (i + 1)) 1 else S3) (S4') (if kPart S3 (xv xs (i + 1)) 1 = 0 then aP ac else ac) (Bm') (Im') (mm') (Fi') (Co') (Bq') (Wt') (mk') (gy') (if kPart S3 (xv xs (i + 1)) 1 = 0 then dP S3 ac di else di) ke ik (ea') (sd2') (rt2') (lf2') (wy2') (sp') (ou') (fo')) := ⟨_, _, _, _, _, _, _, _, _, _, _, _, _, _, _, _, _, _, _, _, _, _, _, _, _, _, _, _, _, _, _, _, _, _, _, _, _, _, _, _, _, _, _, _, _, _, _, _, _, _, _, _, _, _, _, _, _, _, _, _, _, _, _, _, _, _, _, _, rfl, CN_if hcn, hr, hB', hI', TW_if eK t (fun z => ⟨SV_gT t.1 ⟨(kPart_0 z).1.1, (kPart_0 z).1.2, (kPart_0 z).2⟩, SV_gT t.2.1 ((StE_kT t.2.2 _ _).mp ⟨(kPart_0 z).1.1, (kPart_0 z).1.2, (kPart_0 z).2⟩), StE_gT t.2.2 ⟨(kPart_0 z).1.1, (kPart_0 z).1.2, (kPart_0 z).2⟩⟩), RM_if eK hm t, hk9, ht9⟩
      refine a_istore (pc := 1166) ok dL_law_1166 rfl (by rw [hN]; decide) ?_
      refine a_aload_n (pc := 1168) ok dL_law_1168 rfl ?_
      refine x_callVp (pc := 1169) ok [103, 104, 105, 106, 107, 108, 109, 110, 111, 112, 113, 114, 115, 116, 117, 118] 1 dL_law_1169 mvL_121 miX7_thrown (c_thrown) ⟨by decide, by decide, rfl, rfl, (by show _ ≤ 601024; omega), (by show _ ≤ 7293034; omega)⟩ rfl rfl (Nat.le_of_ble_eq_true rfl) rfl rfl (by decide) rfl rfl ?_
      refine a_iload (pc := 1172) ok dL_law_1172 rfl ?_
      refine a_icmp_eq (pc := 1174) (tgt := 1179) ok dL_law_1174 (by decide) (by first | exact hKr | (rw [eK]; exact hKr)) (by first | exact hKr | (rw [eK]; exact hKr)) (fun c1174 => ?_) (fun c1174 => ?_)
      · refine a_iload (pc := 1179) ok dL_law_1179 rfl ?_
        refine a_if_ne (pc := 1181) (tgt := 1196) ok dL_law_1181 (by decide) (by exact hKr) (fun c1181 => ?_) (fun c1181 => ?_)
        · refine a_goto (pc := 1196) (tgt := 2245) ok dL_law_1196 (by decide) ?_
          exact AW.forget (k _ hInv) (by repeat' (first | exact trivial | refine ⟨rfl, ?_⟩))
        · have h0 : kPart S (xv xs (i + 1)) 1 = 0 := by first | exact c1181 | omega
          have e1 := hfo h0
          have e2 : w32 (if kPart S3 (xv xs (i + 1)) 1 = 0 then (chN (sN S3) 1 : Int) else 0) = w32 ((chN (sN S) 1 : Int)) := by have q := eK.trans h0; have q2 := eA h0; rw [if_pos q, q2]
          refine a_aload_n (pc := 1184) ok dL_law_1184 rfl ?_
          refine a_iconst (pc := 1185) ok dL_law_1185 ?_
          refine a_lald (pc := 1186) ok dL_law_1186 (rfl) (by decide) (by omega) ?_
          refine a_iload (pc := 1187) ok dL_law_1187 rfl ?_
          refine a_i2l (pc := 1189) ok dL_law_1189 (by exact rg_w _) ?_
          refine a_lcmp (pc := 1190) ok dL_law_1190 (by first | (rw [e1]; exact rgL_w9 _) | exact rgL_w9 _) (by first | (rw [e1]; exact rgL_w9 _) | exact rgL_w9 _) (fun c1190 => ?_) (fun c1190 => ?_) (fun c1190 => ?_)
          · exfalso; rw [e1, e2] at c1190; exact absurd c1190 (Int.lt_irrefl _)
          · refine a_if_eq (pc := 1191) (tgt := 1196) ok dL_law_1191 (by decide) (by first | omega | (unfold rg; omega) | (simp only [rg] at *; omega) | exact bz_rg _ | grind [rg]) (fun c1191 => ?_) (fun c1191 => ?_)
            · refine a_goto (pc := 1196) (tgt := 2245) ok dL_law_1196 (by decide) ?_
              exact AW.forget (k _ hInv) (by repeat' (first | exact trivial | refine ⟨rfl, ?_⟩))
            · exact absurd rfl c1191
          · exfalso; rw [e1, e2] at c1190; exact absurd c1190 (Int.lt_irrefl _)
      · exact absurd eK c1174
theorem cs_share {X : Cx} {b L : Nat} {xs : Nat → Int32} {i : Int} {kc ks : Nat} (ok : OKL X) (pre : PRE X b L xs i kc ks) (hcn : CN S kn nk c0 r0 m0 ct B F Z Fo No Ho Mo In) (hr : rwI B1 F1 Z1) (hB : ∀ i, 0 ≤ Bm i ∧ Bm i ≤ 5) (hI : ∀ i, rg (Im i)) (t : TW S S3) (hm : RM cnt nx σ ac di) (hk9 : RK P0 P1 sv ik ke) (ht9 : REt sz tx) (k : ∀ M, INV M → AW X (kc + 1) (ks + 6) 2245 [some (.ref 4095), some (.ref 0), some (.ref 103), some (.ref 119), some (iv i), none, none] [] M) :
    AW X kc ks 1199 [some (.ref 4095), some (.ref 0), some (.ref 103), some (.ref 119), some (iv i), none, none] [] (lwW kn nk sz tx S (ringP 7) cnt nx σ (slotP 95) sv c0 r0 m0 ct B F Z Br Q Fo No Ho Mo In Sn Qn S2 c1 r1 m1 ct1 B1 F1 Z1 Br1 Q1 Fo1 No1 sd rt lf wy gb P0 P1 rf S3 S4 ac Bm Im mm Fi Co Bq Wt mk gy di ke ik ea sd2 rt2 lf2 wy2 sp ou fo) := by
  obtain ⟨ex, hN, sc, hi, hL, hl, hkc, hks⟩ := pre
  have hc9 : 0 ≤ ac ∧ ac ≤ 14 := by rw [hm.2.2.1]; exact hm.1
  refine AW.cast (M2 := (lwW kn nk sz tx S (ρM) cnt nx σ (slotP 95) sv c0 r0 m0 ct B F Z Br Q Fo No Ho Mo In Sn Qn S2 c1 r1 m1 ct1 B1 F1 Z1 Br1 Q1 Fo1 No1 sd rt lf wy gb P0 P1 rf S3 S4 ac Bm Im mm Fi Co Bq Wt mk gy di ke ik ea sd2 rt2 lf2 wy2 sp ou fo)) ?_ rfl rfl (by rw [ρM_eq])
  have eK : kIn (xv xs (i + 1)) 0 5 = kIn (xv xs (i + 1)) 0 5 := rfl
  have eA : kIn (xv xs (i + 1)) 0 5 = 0 → ((shK (sG S3) (sC S3 * sR S3).toNat (xv xs (i + 1)) (sT S3) (xv xs (i + 1)).toNat).2 : Int) = ((shK (sG S) (sC S * sR S).toNat (xv xs (i + 1)) (sT S) (xv xs (i + 1)).toNat).2 : Int) := fun _ => by rw [← t.2.2.1, ← t.2.2.2.1, ← t.2.2.2.2.1, (TE_sh _ _ _ (sT S) (sT S3) _).1]
  have hKr : rg (kIn (xv xs (i + 1)) 0 5) := by
    unfold kIn rg
    repeat' split
    all_goals omega
  refine a_aload_n (pc := 1199) ok dL_law_1199 rfl ?_
  refine a_aload_n (pc := 1200) ok dL_law_1200 rfl ?_
  refine a_iload (pc := 1201) ok dL_law_1201 rfl ?_
  refine a_iconst (pc := 1203) ok dL_law_1203 ?_
  refine a_iadd (pc := 1204) ok dL_law_1204 ?_
  refine a_sld (pc := 1205) ok sc dL_law_1205 (by omega) hL ?_
  refine a_aload_n (pc := 1206) ok dL_law_1206 rfl ?_
  refine l_callS (pc := 1207) ok ex πL_M 65 dL_law_1207 (ug4 135 (by decide +kernel) rfl) (ug4 136 (by decide +kernel) rfl) miL_share (W_share (v := (xv xs (i + 1))) hl t.1 hm.1 hm.2.1 (xv_rg _ _)) ⟨by decide, by decide, rfl, rfl⟩ ⟨hkc, hks⟩ rfl rfl (Nat.le_of_ble_eq_true rfl) rfl rfl nd_M (fun _ _ h => by obtain ⟨_, _, _, M9, rfl, rfl⟩ := h; rfl) ?_
  rintro _ M8 ⟨rfl, fo', hfo, M9, hp, rfl⟩
  subst hp
  refine AW.cast (st2 := [iv (kIn (xv xs (i + 1)) 0 5)]) (M2 := (lwW (if kIn (xv xs (i + 1)) 0 5 = 0 then 0 else kn) (if kIn (xv xs (i + 1)) 0 5 = 0 then 0 else nk) sz tx (if kIn (xv xs (i + 1)) 0 5 = 0 then gH S (xv xs (i + 1)) else S) (ρM) (if kIn (xv xs (i + 1)) 0 5 = 0 then min (cnt + 1) 14 else cnt) (if kIn (xv xs (i + 1)) 0 5 = 0 then (nx + 1) % 14 else nx) (if kIn (xv xs (i + 1)) 0 5 = 0 then σP S nx σ else σ) (slotP 95) sv c0 r0 m0 ct B F Z Br Q Fo No Ho Mo In Sn Qn S2 c1 r1 m1 ct1 B1 F1 Z1 Br1 Q1 Fo1 No1 sd rt lf wy gb P0 P1 rf S3 S4 ac Bm Im mm Fi Co Bq Wt mk gy di ke ik ea sd2 rt2 lf2 wy2 sp ou (fo'))) ?_ rfl rfl rfl
  refine AW.cast (M2 := (lwW (if kIn (xv xs (i + 1)) 0 5 = 0 then 0 else kn) (if kIn (xv xs (i + 1)) 0 5 = 0 then 0 else nk) sz tx (if kIn (xv xs (i + 1)) 0 5 = 0 then gH S (xv xs (i + 1)) else S) (ringP 7) (if kIn (xv xs (i + 1)) 0 5 = 0 then min (cnt + 1) 14 else cnt) (if kIn (xv xs (i + 1)) 0 5 = 0 then (nx + 1) % 14 else nx) (if kIn (xv xs (i + 1)) 0 5 = 0 then σP S nx σ else σ) (slotP 95) sv c0 r0 m0 ct B F Z Br Q Fo No Ho Mo In Sn Qn S2 c1 r1 m1 ct1 B1 F1 Z1 Br1 Q1 Fo1 No1 sd rt lf wy gb P0 P1 rf S3 S4 ac Bm Im mm Fi Co Bq Wt mk gy di ke ik ea sd2 rt2 lf2 wy2 sp ou (fo'))) ?_ rfl rfl (by rw [ρM_eq])
  refine a_istore (pc := 1210) ok dL_law_1210 rfl (by rw [hN]; decide) ?_
  refine a_aload_n (pc := 1212) ok dL_law_1212 rfl ?_
  refine a_aload_n (pc := 1213) ok dL_law_1213 rfl ?_
  refine a_iload (pc := 1214) ok dL_law_1214 rfl ?_
  refine a_iconst (pc := 1216) ok dL_law_1216 ?_
  refine a_iadd (pc := 1217) ok dL_law_1217 ?_
  refine a_sld (pc := 1218) ok sc dL_law_1218 (by omega) hL ?_
  refine a_callV (pc := 1219) ok [103, 105, 110, 111, 112, 113, 114, 115, 116, 117, 106, 104, 107, 108, 109, 118] dL_law_1219 mvL_182 miX7_share (c_mshare t.2.1 hB hI hc9 (xv_rg _ _)) ⟨by decide, by decide, rfl, rfl, (by show _ ≤ 601024; omega), (by show _ ≤ 7293034; omega)⟩ rfl rfl (Nat.le_of_ble_eq_true rfl) rfl (by decide) rfl rfl (fun _ _ h => WM_len h.2) ?_
  rintro _ M' ⟨rfl, hwm⟩
  obtain ⟨Bm', Im', mm', Fi', Co', Bq', Wt', mk', gy', S4', ea', sd2', rt2', lf2', wy2', sp', ou', rfl, hB', hI'⟩ := hwm
  refine AW.cast (st2 := [iv (w32 (if kIn (xv xs (i + 1)) 0 5 = 0 then ((shK (sG S3) (sC S3 * sR S3).toNat (xv xs (i + 1)) (sT S3) (xv xs (i + 1)).toNat).2 : Int) else 0))]) (M2 := (lwW (if kIn (xv xs (i + 1)) 0 5 = 0 then 0 else kn) (if kIn (xv xs (i + 1)) 0 5 = 0 then 0 else nk) sz tx (if kIn (xv xs (i + 1)) 0 5 = 0 then gH S (xv xs (i + 1)) else S) (ringP 7) (if kIn (xv xs (i + 1)) 0 5 = 0 then min (cnt + 1) 14 else cnt) (if kIn (xv xs (i + 1)) 0 5 = 0 then (nx + 1) % 14 else nx) (if kIn (xv xs (i + 1)) 0 5 = 0 then σP S nx σ else σ) (slotP 95) sv c0 r0 m0 ct B F Z Br Q Fo No Ho Mo In Sn Qn S2 c1 r1 m1 ct1 B1 F1 Z1 Br1 Q1 Fo1 No1 sd rt lf wy gb P0 P1 (kIn (xv xs (i + 1)) 0 5) (if kIn (xv xs (i + 1)) 0 5 = 0 then gH S3 (xv xs (i + 1)) else S3) (S4') (if kIn (xv xs (i + 1)) 0 5 = 0 then aP ac else ac) (Bm') (Im') (mm') (Fi') (Co') (Bq') (Wt') (mk') (gy') (if kIn (xv xs (i + 1)) 0 5 = 0 then dP S3 ac di else di) ke ik (ea') (sd2') (rt2') (lf2') (wy2') (sp') (ou') (fo'))) ?_ rfl (congrArg (fun v : Value => [v]) (iv_w _)) rfl
  have hInv : INV (lwW (if kIn (xv xs (i + 1)) 0 5 = 0 then 0 else kn) (if kIn (xv xs (i + 1)) 0 5 = 0 then 0 else nk) sz tx (if kIn (xv xs (i + 1)) 0 5 = 0 then gH S (xv xs (i + 1)) else S) (ringP 7) (if kIn (xv xs (i + 1)) 0 5 = 0 then min (cnt + 1) 14 else cnt) (if kIn (xv xs (i + 1)) 0 5 = 0 then (nx + 1) % 14 else nx) (if kIn (xv xs (i + 1)) 0 5 = 0 then σP S nx σ else σ) (slotP 95) sv c0 r0 m0 ct B F Z Br Q Fo No Ho Mo In Sn Qn S2 c1 r1 m1 ct1 B1 F1 Z1 Br1 Q1 Fo1 No1 sd rt lf wy gb P0 P1 (kIn (xv xs (i + 1)) 0 5) (if kIn (xv xs (i + 1)) 0 5 = 0 then gH S3 (xv xs (i + 1)) else S3) (S4') (if kIn (xv xs (i + 1)) 0 5 = 0 then aP ac else ac) (Bm') (Im') (mm') (Fi') (Co') (Bq') (Wt') (mk') (gy') (if kIn (xv xs (i + 1)) 0 5 = 0 then dP S3 ac di else di) ke ik (ea') (sd2') (rt2') (lf2') (wy2') (sp') (ou') (fo')) := ⟨_, _, _, _, _, _, _, _, _, _, _, _, _, _, _, _, _, _, _, _, _, _, _, _, _, _, _, _, _, _, _, _, _, _, _, _, _, _, _, _, _, _, _, _, _, _, _, _, _, _, _, _, _, _, _, _, _, _, _, _, _, _, _, _, _, _, _, _, rfl, CN_if hcn, hr, hB', hI', TW_if eK t (fun z => ⟨SV_gH t.1 (kIn_0 z), SV_gH t.2.1 (kIn_0 z), StE_gH t.2.2 _⟩), RM_if eK hm t, hk9, ht9⟩
  refine a_istore (pc := 1222) ok dL_law_1222 rfl (by rw [hN]; decide) ?_
  refine a_aload_n (pc := 1224) ok dL_law_1224 rfl ?_
  refine x_callVp (pc := 1225) ok [103, 104, 105, 106, 107, 108, 109, 110, 111, 112, 113, 114, 115, 116, 117, 118] 1 dL_law_1225 mvL_121 miX7_thrown (c_thrown) ⟨by decide, by decide, rfl, rfl, (by show _ ≤ 601024; omega), (by show _ ≤ 7293034; omega)⟩ rfl rfl (Nat.le_of_ble_eq_true rfl) rfl rfl (by decide) rfl rfl ?_
  refine a_iload (pc := 1228) ok dL_law_1228 rfl ?_
  refine a_icmp_eq (pc := 1230) (tgt := 1235) ok dL_law_1230 (by decide) (by first | exact hKr | (rw [eK]; exact hKr)) (by first | exact hKr | (rw [eK]; exact hKr)) (fun c1230 => ?_) (fun c1230 => ?_)
  · refine a_iload (pc := 1235) ok dL_law_1235 rfl ?_
    refine a_if_ne (pc := 1237) (tgt := 1252) ok dL_law_1237 (by decide) (by exact hKr) (fun c1237 => ?_) (fun c1237 => ?_)
    · refine a_goto (pc := 1252) (tgt := 2245) ok dL_law_1252 (by decide) ?_
      exact AW.forget (k _ hInv) (by repeat' (first | exact trivial | refine ⟨rfl, ?_⟩))
    · have h0 : kIn (xv xs (i + 1)) 0 5 = 0 := by first | exact c1237 | omega
      have e1 := hfo h0
      have e2 : w32 (if kIn (xv xs (i + 1)) 0 5 = 0 then ((shK (sG S3) (sC S3 * sR S3).toNat (xv xs (i + 1)) (sT S3) (xv xs (i + 1)).toNat).2 : Int) else 0) = w32 (((shK (sG S) (sC S * sR S).toNat (xv xs (i + 1)) (sT S) (xv xs (i + 1)).toNat).2 : Int)) := by have q := eK.trans h0; have q2 := eA h0; rw [if_pos q, q2]
      refine a_aload_n (pc := 1240) ok dL_law_1240 rfl ?_
      refine a_iconst (pc := 1241) ok dL_law_1241 ?_
      refine a_lald (pc := 1242) ok dL_law_1242 (rfl) (by decide) (by omega) ?_
      refine a_iload (pc := 1243) ok dL_law_1243 rfl ?_
      refine a_i2l (pc := 1245) ok dL_law_1245 (by exact rg_w _) ?_
      refine a_lcmp (pc := 1246) ok dL_law_1246 (by first | (rw [e1]; exact rgL_w9 _) | exact rgL_w9 _) (by first | (rw [e1]; exact rgL_w9 _) | exact rgL_w9 _) (fun c1246 => ?_) (fun c1246 => ?_) (fun c1246 => ?_)
      · exfalso; rw [e1, e2] at c1246; exact absurd c1246 (Int.lt_irrefl _)
      · refine a_if_eq (pc := 1247) (tgt := 1252) ok dL_law_1247 (by decide) (by first | omega | (unfold rg; omega) | (simp only [rg] at *; omega) | exact bz_rg _ | grind [rg]) (fun c1247 => ?_) (fun c1247 => ?_)
        · refine a_goto (pc := 1252) (tgt := 2245) ok dL_law_1252 (by decide) ?_
          exact AW.forget (k _ hInv) (by repeat' (first | exact trivial | refine ⟨rfl, ?_⟩))
        · exact absurd rfl c1247
      · exfalso; rw [e1, e2] at c1246; exact absurd c1246 (Int.lt_irrefl _)
  · exact absurd eK c1230
end LC108
