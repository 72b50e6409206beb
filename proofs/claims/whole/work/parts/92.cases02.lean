/-! THE LAW: its cases. Printed by wip/whole/gen/mk91.py. -/
section LC101
variable {kn : Int} {nk : Int} {sz : Int} {tx : Int → Int} {S : St} {cnt : Int} {nx : Int} {σ : Nat → St} {sv : Int → Int} {c0 : Int} {r0 : Int} {m0 : Int} {ct : Int} {B : Int → Int} {F : Int → Int} {Z : Int → Int} {Br : Int → Int} {Q : Int → Int} {Fo : Int → Int} {No : Int → Int} {Ho : Int → Int} {Mo : Int → Int} {In : Int → Int} {Sn : Int → Int} {Qn : Int → Int} {S2 : St} {c1 : Int} {r1 : Int} {m1 : Int} {ct1 : Int} {B1 : Int → Int} {F1 : Int → Int} {Z1 : Int → Int} {Br1 : Int → Int} {Q1 : Int → Int} {Fo1 : Int → Int} {No1 : Int → Int} {sd : Int} {rt : Int} {lf : Int} {wy : Int} {gb : Int → Int} {P0 : St} {P1 : St} {rf : Int} {S3 : St} {S4 : St} {ac : Int} {Bm : Int → Int} {Im : Int → Int} {mm : Int} {Fi : Int → Int} {Co : Int → Int} {Bq : Int → Int} {Wt : Int → Int} {mk : Int → Int} {gy : Int → Int} {di : Int → Int} {ke : Int → Int} {ik : Int → Int} {ea : Int → Int} {sd2 : Int} {rt2 : Int} {lf2 : Int} {wy2 : Int} {sp : Int} {ou : Int} {fo : Int → Int}
theorem cs_errorPosition {X : Cx} {b L : Nat} {xs : Nat → Int32} {i : Int} {kc ks : Nat} (ok : OKL X) (pre : PRE X b L xs i kc ks) (hcn : CN S kn nk c0 r0 m0 ct B F Z Fo No Ho Mo In) (hr : rwI B1 F1 Z1) (hB : ∀ i, 0 ≤ Bm i ∧ Bm i ≤ 5) (hI : ∀ i, rg (Im i)) (t : TW S S3) (hm : RM cnt nx σ ac di) (hk9 : RK P0 P1 sv ik ke) (ht9 : REt sz tx) (k : ∀ M, INV M → AW X (kc + 1) (ks + 6) 2245 [some (.ref 4095), some (.ref 0), some (.ref 103), some (.ref 119), some (iv i), none, none] [] M) :
    AW X kc ks 261 [some (.ref 4095), some (.ref 0), some (.ref 103), some (.ref 119), some (iv i), none, none] [] (lwW kn nk sz tx S (ringP 7) cnt nx σ (slotP 95) sv c0 r0 m0 ct B F Z Br Q Fo No Ho Mo In Sn Qn S2 c1 r1 m1 ct1 B1 F1 Z1 Br1 Q1 Fo1 No1 sd rt lf wy gb P0 P1 rf S3 S4 ac Bm Im mm Fi Co Bq Wt mk gy di ke ik ea sd2 rt2 lf2 wy2 sp ou fo) := by
  obtain ⟨ex, hN, sc, hi, hL, hl, hkc, hks⟩ := pre
  have hc9 : 0 ≤ ac ∧ ac ≤ 14 := by rw [hm.2.2.1]; exact hm.1
  have eA : eP tx sz = eP tx sz := rfl
  refine a_aload_n (pc := 261) ok dL_law_261 rfl ?_
  refine x_callV (pc := 262) ok [0, 1, 2, 3, 7, 65, 66, 67, 75, 81, 85, 93, 94] 3 dL_law_262 mvL_128 miX6_errorPosition (c_errorPosition ht9.1 ht9.2) ⟨by decide, by decide, rfl, rfl, (by show _ ≤ 601024; omega), (by show _ ≤ 7293034; omega)⟩ rfl rfl (Nat.le_of_ble_eq_true rfl) rfl rfl (by decide) rfl rfl (fun _ _ h => by obtain ⟨_, rfl⟩ := h; rfl) ?_
  rintro _ _ ⟨rfl, rfl⟩
  refine AW.cast (st2 := [iv (w32 (eP tx sz))]) (M2 := (lwW kn nk sz tx S (ringP 7) cnt nx σ (slotP 95) sv c0 r0 m0 ct B F Z Br Q Fo No Ho Mo In Sn Qn S2 c1 r1 m1 ct1 B1 F1 Z1 Br1 Q1 Fo1 No1 sd rt lf wy gb P0 P1 rf S3 S4 ac Bm Im mm Fi Co Bq Wt mk gy di ke ik ea sd2 rt2 lf2 wy2 sp ou fo)) ?_ rfl (congrArg (fun v : Value => [v]) (iv_w _)) rfl
  refine a_aload_n (pc := 265) ok dL_law_265 rfl ?_
  refine a_callV (pc := 266) ok [103, 105, 110, 111, 112, 113, 114, 115, 116, 117, 106, 104, 107, 108, 109, 118] dL_law_266 mvL_131 miX7_errorPosition (c_merrorPosition hB hI ht9.1 ht9.2) ⟨by decide, by decide, rfl, rfl, (by show _ ≤ 601024; omega), (by show _ ≤ 7293034; omega)⟩ rfl rfl (Nat.le_of_ble_eq_true rfl) rfl (by decide) rfl rfl (fun _ _ h => WM_len h.2) ?_
  rintro _ M' ⟨rfl, hwm⟩
  obtain ⟨Bm', Im', mm', Fi', Co', Bq', Wt', mk', gy', S4', ea', sd2', rt2', lf2', wy2', sp', ou', rfl, hB', hI'⟩ := hwm
  refine AW.cast (st2 := [iv (w32 (eP tx sz)), iv (w32 (eP tx sz))]) (M2 := (lwW kn nk sz tx S (ringP 7) cnt nx σ (slotP 95) sv c0 r0 m0 ct B F Z Br Q Fo No Ho Mo In Sn Qn S2 c1 r1 m1 ct1 B1 F1 Z1 Br1 Q1 Fo1 No1 sd rt lf wy gb P0 P1 (0) S3 (S4') ac (Bm') (Im') (mm') (Fi') (Co') (Bq') (Wt') (mk') (gy') di ke ik (ea') (sd2') (rt2') (lf2') (wy2') (sp') (ou') fo)) ?_ rfl (congrArg (fun v : Value => [v, iv (w32 (eP tx sz))]) (iv_w _)) rfl
  have hInv : INV (lwW kn nk sz tx S (ringP 7) cnt nx σ (slotP 95) sv c0 r0 m0 ct B F Z Br Q Fo No Ho Mo In Sn Qn S2 c1 r1 m1 ct1 B1 F1 Z1 Br1 Q1 Fo1 No1 sd rt lf wy gb P0 P1 (0) S3 (S4') ac (Bm') (Im') (mm') (Fi') (Co') (Bq') (Wt') (mk') (gy') di ke ik (ea') (sd2') (rt2') (lf2') (wy2') (sp') (ou') fo) := ⟨_, _, _, _, _, _, _, _, _, _, _, _, _, _, _, _, _, _, _, _, _, _, _, _, _, _, _, _, _, _, _, _, _, _, _, _, _, _, _, _, _, _, _, _, _, _, _, _, _, _, _, _, _, _, _, _, _, _, _, _, _, _, _, _, _, _, _, _, rfl, hcn, hr, hB', hI', t, hm, hk9, ht9⟩
  refine a_icmp_eq (pc := 269) (tgt := 2245) ok dL_law_269 (by decide) (by exact rg_w _) (by exact rg_w _) (fun c269 => ?_) (fun c269 => ?_)
  · exact AW.widen (Nat.le_succ _) (Nat.le_add_right _ _) (k _ hInv)
  · exact absurd (congrArg w32 eA.symm) c269
theorem cs_load {X : Cx} {b L : Nat} {xs : Nat → Int32} {i : Int} {kc ks : Nat} (ok : OKL X) (pre : PRE X b L xs i kc ks) (hcn : CN S kn nk c0 r0 m0 ct B F Z Fo No Ho Mo In) (hr : rwI B1 F1 Z1) (hB : ∀ i, 0 ≤ Bm i ∧ Bm i ≤ 5) (hI : ∀ i, rg (Im i)) (t : TW S S3) (hm : RM cnt nx σ ac di) (hk9 : RK P0 P1 sv ik ke) (ht9 : REt sz tx) (k : ∀ M, INV M → AW X (kc + 1) (ks + 6) 2245 [some (.ref 4095), some (.ref 0), some (.ref 103), some (.ref 119), some (iv i), none, none] [] M) :
    AW X kc ks 274 [some (.ref 4095), some (.ref 0), some (.ref 103), some (.ref 119), some (iv i), none, none] [] (lwW kn nk sz tx S (ringP 7) cnt nx σ (slotP 95) sv c0 r0 m0 ct B F Z Br Q Fo No Ho Mo In Sn Qn S2 c1 r1 m1 ct1 B1 F1 Z1 Br1 Q1 Fo1 No1 sd rt lf wy gb P0 P1 rf S3 S4 ac Bm Im mm Fi Co Bq Wt mk gy di ke ik ea sd2 rt2 lf2 wy2 sp ou fo) := by
  obtain ⟨ex, hN, sc, hi, hL, hl, hkc, hks⟩ := pre
  have hc9 : 0 ≤ ac ∧ ac ≤ 14 := by rw [hm.2.2.1]; exact hm.1
  have eK : (if eP tx sz = -1 then 0 else 1) = kLoad tx sz := rfl
  have eA : kLoad tx sz = 0 → (xT tx sz (fun _ => 0)).2 = (xT tx sz (sT S)).2 := fun _ => (xT_E _ _ _ _).2.symm
  have hKr : rg (kLoad tx sz) := by
    unfold kLoad rg
    repeat' split
    all_goals omega
  refine a_aload_n (pc := 274) ok dL_law_274 rfl ?_
  refine a_aload_n (pc := 275) ok dL_law_275 rfl ?_
  refine l_callS (pc := 276) ok ex πL_L 11 dL_law_276 (ug3 54 (by decide +kernel) rfl) (ug3 55 (by decide +kernel) rfl) miL_load (W_load hl t.1 ht9.1 ht9.2) ⟨by decide, by decide, rfl, rfl⟩ ⟨hkc, hks⟩ rfl rfl (Nat.le_of_ble_eq_true rfl) rfl rfl nd_L (fun _ _ h => by obtain ⟨_, _, _, M9, ⟨_, rfl⟩, rfl⟩ := h; rfl) ?_
  rintro _ M8 ⟨rfl, fo', hfo, M9, hp, rfl⟩
  obtain ⟨gb', rfl⟩ := hp
  refine AW.cast (st2 := [iv (kLoad tx sz)]) (M2 := (lwW (if kLoad tx sz = 0 then 0 else kn) (if kLoad tx sz = 0 then 0 else nk) sz tx (if kLoad tx sz = 0 then (xT tx sz (sT S)).1 else S) (ringP 7) (if kLoad tx sz = 0 then 0 else cnt) nx σ (slotP 95) (if kLoad tx sz = 0 then up (up sv 0 0) 1 0 else sv) c0 r0 m0 ct B F Z Br Q Fo No Ho Mo In Sn Qn S2 c1 r1 m1 ct1 B1 F1 Z1 Br1 Q1 Fo1 No1 sd rt lf wy (gb') P0 P1 rf S3 S4 ac Bm Im mm Fi Co Bq Wt mk gy di ke ik ea sd2 rt2 lf2 wy2 sp ou (fo'))) ?_ rfl rfl rfl
  refine a_istore (pc := 279) ok dL_law_279 rfl (by rw [hN]; decide) ?_
  refine a_aload_n (pc := 281) ok dL_law_281 rfl ?_
  refine a_callV (pc := 282) ok [103, 105, 110, 111, 112, 113, 114, 115, 116, 117, 106, 104, 107, 108, 109, 118] dL_law_282 mvL_135 miX7_load (c_mload hB hI ht9.1 ht9.2) ⟨by decide, by decide, rfl, rfl, (by show _ ≤ 601024; omega), (by show _ ≤ 7293034; omega)⟩ rfl rfl (Nat.le_of_ble_eq_true rfl) rfl (by decide) rfl rfl (fun _ _ h => WM_len h.2) ?_
  rintro _ M' ⟨rfl, hwm⟩
  obtain ⟨Bm', Im', mm', Fi', Co', Bq', Wt', mk', gy', S4', ea', sd2', rt2', lf2', wy2', sp', ou', rfl, hB', hI'⟩ := hwm
  refine AW.cast (st2 := [iv (w32 (if eP tx sz = -1 then (xT tx sz (fun _ => 0)).2 else 0))]) (M2 := (lwW (if kLoad tx sz = 0 then 0 else kn) (if kLoad tx sz = 0 then 0 else nk) sz tx (if kLoad tx sz = 0 then (xT tx sz (sT S)).1 else S) (ringP 7) (if kLoad tx sz = 0 then 0 else cnt) nx σ (slotP 95) (if kLoad tx sz = 0 then up (up sv 0 0) 1 0 else sv) c0 r0 m0 ct B F Z Br Q Fo No Ho Mo In Sn Qn S2 c1 r1 m1 ct1 B1 F1 Z1 Br1 Q1 Fo1 No1 sd rt lf wy (gb') P0 P1 (if eP tx sz = -1 then 0 else 1) (if eP tx sz = -1 then (xT tx sz (fun _ => 0)).1 else S3) (S4') (if eP tx sz = -1 then 0 else ac) (Bm') (Im') (mm') (Fi') (Co') (Bq') (Wt') (mk') (gy') di ke (if eP tx sz = -1 then up (up ik 0 0) 1 0 else ik) (ea') (sd2') (rt2') (lf2') (wy2') (sp') (ou') (fo'))) ?_ rfl (congrArg (fun v : Value => [v]) (iv_w _)) rfl
  have hX : TW (if kLoad tx sz = 0 then (xT tx sz (sT S)).1 else S) (if eP tx sz = -1 then (xT tx sz (fun _ => 0)).1 else S3) ∧ RM (if kLoad tx sz = 0 then 0 else cnt) nx σ (if eP tx sz = -1 then 0 else ac) di ∧ RK P0 P1 (if kLoad tx sz = 0 then up (up sv 0 0) 1 0 else sv) (if eP tx sz = -1 then up (up ik 0 0) 1 0 else ik) ke := by
    by_cases z : eP tx sz = -1
    · have z1 : kLoad tx sz = 0 := by unfold kLoad; rw [if_pos z]
      simp only [if_pos z, if_pos z1]
      exact ⟨⟨SV_xT ht9.1 z t.1.2.2.1, SV_xT ht9.1 z (fun _ => ⟨Int.le_refl _, by omega⟩), (xT_E _ _ _ _).1⟩, RM_0 hm, RK_0 hk9⟩
    · have z1 : ¬ (kLoad tx sz = 0) := by unfold kLoad; rw [if_neg z]; decide
      simp only [if_neg z, if_neg z1]
      exact ⟨t, hm, hk9⟩
  have hInv : INV (lwW (if kLoad tx sz = 0 then 0 else kn) (if kLoad tx sz = 0 then 0 else nk) sz tx (if kLoad tx sz = 0 then (xT tx sz (sT S)).1 else S) (ringP 7) (if kLoad tx sz = 0 then 0 else cnt) nx σ (slotP 95) (if kLoad tx sz = 0 then up (up sv 0 0) 1 0 else sv) c0 r0 m0 ct B F Z Br Q Fo No Ho Mo In Sn Qn S2 c1 r1 m1 ct1 B1 F1 Z1 Br1 Q1 Fo1 No1 sd rt lf wy (gb') P0 P1 (if eP tx sz = -1 then 0 else 1) (if eP tx sz = -1 then (xT tx sz (fun _ => 0)).1 else S3) (S4') (if eP tx sz = -1 then 0 else ac) (Bm') (Im') (mm') (Fi') (Co') (Bq') (Wt') (mk') (gy') di ke (if eP tx sz = -1 then up (up ik 0 0) 1 0 else ik) (ea') (sd2') (rt2') (lf2') (wy2') (sp') (ou') (fo')) := ⟨_, _, _, _, _, _, _, _, _, _, _, _, _, _, _, _, _, _, _, _, _, _, _, _, _, _, _, _, _, _, _, _, _, _, _, _, _, _, _, _, _, _, _, _, _, _, _, _, _, _, _, _, _, _, _, _, _, _, _, _, _, _, _, _, _, _, _, _, rfl, CN_if hcn, hr, hB', hI', hX.1, hX.2.1, hX.2.2, ht9⟩
  refine a_istore (pc := 285) ok dL_law_285 rfl (by rw [hN]; decide) ?_
  refine a_aload_n (pc := 287) ok dL_law_287 rfl ?_
  refine x_callVp (pc := 288) ok [103, 104, 105, 106, 107, 108, 109, 110, 111, 112, 113, 114, 115, 116, 117, 118] 1 dL_law_288 mvL_121 miX7_thrown (c_thrown) ⟨by decide, by decide, rfl, rfl, (by show _ ≤ 601024; omega), (by show _ ≤ 7293034; omega)⟩ rfl rfl (Nat.le_of_ble_eq_true rfl) rfl rfl (by decide) rfl rfl ?_
  refine a_iload (pc := 291) ok dL_law_291 rfl ?_
  refine a_icmp_eq (pc := 293) (tgt := 298) ok dL_law_293 (by decide) (by first | exact hKr | (rw [eK]; exact hKr)) (by first | exact hKr | (rw [eK]; exact hKr)) (fun c293 => ?_) (fun c293 => ?_)
  · refine a_iload (pc := 298) ok dL_law_298 rfl ?_
    refine a_if_ne (pc := 300) (tgt := 315) ok dL_law_300 (by decide) (by exact hKr) (fun c300 => ?_) (fun c300 => ?_)
    · refine a_goto (pc := 315) (tgt := 2245) ok dL_law_315 (by decide) ?_
      exact AW.forget (k _ hInv) (by repeat' (first | exact trivial | refine ⟨rfl, ?_⟩))
    · have h0 : kLoad tx sz = 0 := by first | exact c300 | omega
      have e1 := hfo h0
      have e2 : w32 (if eP tx sz = -1 then (xT tx sz (fun _ => 0)).2 else 0) = w32 ((xT tx sz (sT S)).2) := by have q := eK.trans h0; have q2 := eA h0; rw [if_pos (kLoad_0 h0), q2]
      refine a_aload_n (pc := 303) ok dL_law_303 rfl ?_
      refine a_iconst (pc := 304) ok dL_law_304 ?_
      refine a_lald (pc := 305) ok dL_law_305 (rfl) (by decide) (by omega) ?_
      refine a_iload (pc := 306) ok dL_law_306 rfl ?_
      refine a_i2l (pc := 308) ok dL_law_308 (by exact rg_w _) ?_
      refine a_lcmp (pc := 309) ok dL_law_309 (by first | (rw [e1]; exact rgL_w9 _) | exact rgL_w9 _) (by first | (rw [e1]; exact rgL_w9 _) | exact rgL_w9 _) (fun c309 => ?_) (fun c309 => ?_) (fun c309 => ?_)
      · exfalso; rw [e1, e2] at c309; exact absurd c309 (Int.lt_irrefl _)
      · refine a_if_eq (pc := 310) (tgt := 315) ok dL_law_310 (by decide) (by first | omega | (unfold rg; omega) | (simp only [rg] at *; omega) | exact bz_rg _ | grind [rg]) (fun c310 => ?_) (fun c310 => ?_)
        · refine a_goto (pc := 315) (tgt := 2245) ok dL_law_315 (by decide) ?_
          exact AW.forget (k _ hInv) (by repeat' (first | exact trivial | refine ⟨rfl, ?_⟩))
        · exact absurd rfl c310
      · exfalso; rw [e1, e2] at c309; exact absurd c309 (Int.lt_irrefl _)
  · exact absurd eK c293
end LC101
