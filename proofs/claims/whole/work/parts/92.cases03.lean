/-! THE LAW: its cases. Printed by wip/whole/gen/mk91.py. -/
section LC102
variable {kn : Int} {nk : Int} {sz : Int} {tx : Int → Int} {S : St} {cnt : Int} {nx : Int} {σ : Nat → St} {sv : Int → Int} {c0 : Int} {r0 : Int} {m0 : Int} {ct : Int} {B : Int → Int} {F : Int → Int} {Z : Int → Int} {Br : Int → Int} {Q : Int → Int} {Fo : Int → Int} {No : Int → Int} {Ho : Int → Int} {Mo : Int → Int} {In : Int → Int} {Sn : Int → Int} {Qn : Int → Int} {S2 : St} {c1 : Int} {r1 : Int} {m1 : Int} {ct1 : Int} {B1 : Int → Int} {F1 : Int → Int} {Z1 : Int → Int} {Br1 : Int → Int} {Q1 : Int → Int} {Fo1 : Int → Int} {No1 : Int → Int} {sd : Int} {rt : Int} {lf : Int} {wy : Int} {gb : Int → Int} {P0 : St} {P1 : St} {rf : Int} {S3 : St} {S4 : St} {ac : Int} {Bm : Int → Int} {Im : Int → Int} {mm : Int} {Fi : Int → Int} {Co : Int → Int} {Bq : Int → Int} {Wt : Int → Int} {mk : Int → Int} {gy : Int → Int} {di : Int → Int} {ke : Int → Int} {ik : Int → Int} {ea : Int → Int} {sd2 : Int} {rt2 : Int} {lf2 : Int} {wy2 : Int} {sp : Int} {ou : Int} {fo : Int → Int}
theorem cs_about {X : Cx} {b L : Nat} {xs : Nat → Int32} {i : Int} {kc ks : Nat} (ok : OKL X) (pre : PRE X b L xs i kc ks) (hcn : CN S kn nk c0 r0 m0 ct B F Z Fo No Ho Mo In) (hr : rwI B1 F1 Z1) (hB : ∀ i, 0 ≤ Bm i ∧ Bm i ≤ 5) (hI : ∀ i, rg (Im i)) (t : TW S S3) (hm : RM cnt nx σ ac di) (hk9 : RK P0 P1 sv ik ke) (ht9 : REt sz tx) (k : ∀ M, INV M → AW X (kc + 1) (ks + 6) 2245 [some (.ref 4095), some (.ref 0), some (.ref 103), some (.ref 119), some (iv i), none, none] [] M) :
    AW X kc ks 318 [some (.ref 4095), some (.ref 0), some (.ref 103), some (.ref 119), some (iv i), none, none] [] (lwW kn nk sz tx S (ringP 7) cnt nx σ (slotP 95) sv c0 r0 m0 ct B F Z Br Q Fo No Ho Mo In Sn Qn S2 c1 r1 m1 ct1 B1 F1 Z1 Br1 Q1 Fo1 No1 sd rt lf wy gb P0 P1 rf S3 S4 ac Bm Im mm Fi Co Bq Wt mk gy di ke ik ea sd2 rt2 lf2 wy2 sp ou fo) := by
  obtain ⟨ex, hN, sc, hi, hL, hl, hkc, hks⟩ := pre
  have hc9 : 0 ≤ ac ∧ ac ≤ 14 := by rw [hm.2.2.1]; exact hm.1
  have eK : kIn (xv xs (i + 1)) 0 10 = kIn (xv xs (i + 1)) 0 10 := rfl
  have eA : kIn (xv xs (i + 1)) 0 10 = 0 → aAbout S3 (xv xs (i + 1)) = aAbout S (xv xs (i + 1)) := fun _ => aAbout_E t.2.2 _
  have hKr : rg (kIn (xv xs (i + 1)) 0 10) := by
    unfold kIn rg
    repeat' split
    all_goals omega
  refine a_aload_n (pc := 318) ok dL_law_318 rfl ?_
  refine a_aload_n (pc := 319) ok dL_law_319 rfl ?_
  refine a_iload (pc := 320) ok dL_law_320 rfl ?_
  refine a_iconst (pc := 322) ok dL_law_322 ?_
  refine a_iadd (pc := 323) ok dL_law_323 ?_
  refine a_sld (pc := 324) ok sc dL_law_324 (by omega) hL ?_
  refine a_aload_n (pc := 325) ok dL_law_325 rfl ?_
  refine l_callS (pc := 326) ok ex πL_D 34 dL_law_326 (ug3 130 (by decide +kernel) rfl) (ug3 131 (by decide +kernel) rfl) miL_about (W_about (w := (xv xs (i + 1))) hl t.1 hcn hr (xv_rg _ _)) ⟨by decide, by decide, rfl, rfl⟩ ⟨hkc, hks⟩ rfl rfl (Nat.le_of_ble_eq_true rfl) rfl rfl nd_D (fun _ _ h => by obtain ⟨_, _, _, M9, hp, rfl⟩ := h; rw [wr_len (RD_len hp)]; rfl) ?_
  rintro _ M8 ⟨rfl, fo', hfo, M9, hp, rfl⟩
  obtain ⟨kn', nk', c0', r0', m0', ct', B', F', Z', Br', Q', Fo', No', Ho', Mo', In', Sn', Qn', sd', rt', lf', wy', S2', c1', r1', m1', ct1', B1', F1', Z1', Br1', Q1', Fo1', No1', gb', rfl, hcn', hr'⟩ := hp
  refine AW.cast (st2 := [iv (kIn (xv xs (i + 1)) 0 10)]) (M2 := (lwW (kn') (nk') sz tx S (ringP 7) cnt nx σ (slotP 95) sv (c0') (r0') (m0') (ct') (B') (F') (Z') (Br') (Q') (Fo') (No') (Ho') (Mo') (In') (Sn') (Qn') (S2') (c1') (r1') (m1') (ct1') (B1') (F1') (Z1') (Br1') (Q1') (Fo1') (No1') (sd') (rt') (lf') (wy') (gb') P0 P1 rf S3 S4 ac Bm Im mm Fi Co Bq Wt mk gy di ke ik ea sd2 rt2 lf2 wy2 sp ou (fo'))) ?_ rfl rfl rfl
  refine a_istore (pc := 329) ok dL_law_329 rfl (by rw [hN]; decide) ?_
  refine a_aload_n (pc := 331) ok dL_law_331 rfl ?_
  refine a_aload_n (pc := 332) ok dL_law_332 rfl ?_
  refine a_iload (pc := 333) ok dL_law_333 rfl ?_
  refine a_iconst (pc := 335) ok dL_law_335 ?_
  refine a_iadd (pc := 336) ok dL_law_336 ?_
  refine a_sld (pc := 337) ok sc dL_law_337 (by omega) hL ?_
  refine a_callV (pc := 338) ok [103, 105, 110, 111, 112, 113, 114, 115, 116, 117, 106, 104, 107, 108, 109, 118] dL_law_338 mvL_138 miX7_about (c_mabout t.2.1 hB hI (xv_rg _ _)) ⟨by decide, by decide, rfl, rfl, (by show _ ≤ 601024; omega), (by show _ ≤ 7293034; omega)⟩ rfl rfl (Nat.le_of_ble_eq_true rfl) rfl (by decide) rfl rfl (fun _ _ h => WM_len h.2) ?_
  rintro _ M' ⟨rfl, hwm⟩
  obtain ⟨Bm', Im', mm', Fi', Co', Bq', Wt', mk', gy', S4', ea', sd2', rt2', lf2', wy2', sp', ou', rfl, hB', hI'⟩ := hwm
  refine AW.cast (st2 := [iv (w32 (if kIn (xv xs (i + 1)) 0 10 = 0 then aAbout S3 (xv xs (i + 1)) else 0))]) (M2 := (lwW (kn') (nk') sz tx S (ringP 7) cnt nx σ (slotP 95) sv (c0') (r0') (m0') (ct') (B') (F') (Z') (Br') (Q') (Fo') (No') (Ho') (Mo') (In') (Sn') (Qn') (S2') (c1') (r1') (m1') (ct1') (B1') (F1') (Z1') (Br1') (Q1') (Fo1') (No1') (sd') (rt') (lf') (wy') (gb') P0 P1 (kIn (xv xs (i + 1)) 0 10) S3 (S4') ac (Bm') (Im') (mm') (Fi') (Co') (Bq') (Wt') (mk') (gy') di ke ik (ea') (sd2') (rt2') (lf2') (wy2') (sp') (ou') (fo'))) ?_ rfl (congrArg (fun v : Value => [v]) (iv_w _)) rfl
  have hInv : INV (lwW (kn') (nk') sz tx S (ringP 7) cnt nx σ (slotP 95) sv (c0') (r0') (m0') (ct') (B') (F') (Z') (Br') (Q') (Fo') (No') (Ho') (Mo') (In') (Sn') (Qn') (S2') (c1') (r1') (m1') (ct1') (B1') (F1') (Z1') (Br1') (Q1') (Fo1') (No1') (sd') (rt') (lf') (wy') (gb') P0 P1 (kIn (xv xs (i + 1)) 0 10) S3 (S4') ac (Bm') (Im') (mm') (Fi') (Co') (Bq') (Wt') (mk') (gy') di ke ik (ea') (sd2') (rt2') (lf2') (wy2') (sp') (ou') (fo')) := ⟨_, _, _, _, _, _, _, _, _, _, _, _, _, _, _, _, _, _, _, _, _, _, _, _, _, _, _, _, _, _, _, _, _, _, _, _, _, _, _, _, _, _, _, _, _, _, _, _, _, _, _, _, _, _, _, _, _, _, _, _, _, _, _, _, _, _, _, _, rfl, hcn', hr', hB', hI', t, hm, hk9, ht9⟩
  refine a_istore (pc := 341) ok dL_law_341 rfl (by rw [hN]; decide) ?_
  refine a_aload_n (pc := 343) ok dL_law_343 rfl ?_
  refine x_callVp (pc := 344) ok [103, 104, 105, 106, 107, 108, 109, 110, 111, 112, 113, 114, 115, 116, 117, 118] 1 dL_law_344 mvL_121 miX7_thrown (c_thrown) ⟨by decide, by decide, rfl, rfl, (by show _ ≤ 601024; omega), (by show _ ≤ 7293034; omega)⟩ rfl rfl (Nat.le_of_ble_eq_true rfl) rfl rfl (by decide) rfl rfl ?_
  refine a_iload (pc := 347) ok dL_law_347 rfl ?_
  refine a_icmp_eq (pc := 349) (tgt := 354) ok dL_law_349 (by decide) (by first | exact hKr | (rw [eK]; exact hKr)) (by first | exact hKr | (rw [eK]; exact hKr)) (fun c349 => ?_) (fun c349 => ?_)
  · refine a_iload (pc := 354) ok dL_law_354 rfl ?_
    refine a_if_ne (pc := 356) (tgt := 371) ok dL_law_356 (by decide) (by exact hKr) (fun c356 => ?_) (fun c356 => ?_)
    · refine a_goto (pc := 371) (tgt := 2245) ok dL_law_371 (by decide) ?_
      exact AW.forget (k _ hInv) (by repeat' (first | exact trivial | refine ⟨rfl, ?_⟩))
    · have h0 : kIn (xv xs (i + 1)) 0 10 = 0 := by first | exact c356 | omega
      have e1 := hfo h0
      have e2 : w32 (if kIn (xv xs (i + 1)) 0 10 = 0 then aAbout S3 (xv xs (i + 1)) else 0) = w32 (aAbout S (xv xs (i + 1))) := by have q := eK.trans h0; have q2 := eA h0; rw [if_pos q, q2]
      refine a_aload_n (pc := 359) ok dL_law_359 rfl ?_
      refine a_iconst (pc := 360) ok dL_law_360 ?_
      refine a_lald (pc := 361) ok dL_law_361 (rfl) (by decide) (by omega) ?_
      refine a_iload (pc := 362) ok dL_law_362 rfl ?_
      refine a_i2l (pc := 364) ok dL_law_364 (by exact rg_w _) ?_
      refine a_lcmp (pc := 365) ok dL_law_365 (by first | (rw [e1]; exact rgL_w9 _) | exact rgL_w9 _) (by first | (rw [e1]; exact rgL_w9 _) | exact rgL_w9 _) (fun c365 => ?_) (fun c365 => ?_) (fun c365 => ?_)
      · exfalso; rw [e1, e2] at c365; exact absurd c365 (Int.lt_irrefl _)
      · refine a_if_eq (pc := 366) (tgt := 371) ok dL_law_366 (by decide) (by first | omega | (unfold rg; omega) | (simp only [rg] at *; omega) | exact bz_rg _ | grind [rg]) (fun c366 => ?_) (fun c366 => ?_)
        · refine a_goto (pc := 371) (tgt := 2245) ok dL_law_371 (by decide) ?_
          exact AW.forget (k _ hInv) (by repeat' (first | exact trivial | refine ⟨rfl, ?_⟩))
        · exact absurd rfl c366
      · exfalso; rw [e1, e2] at c365; exact absurd c365 (Int.lt_irrefl _)
  · exact absurd eK c349
theorem cs_cellOf {X : Cx} {b L : Nat} {xs : Nat → Int32} {i : Int} {kc ks : Nat} (ok : OKL X) (pre : PRE X b L xs i kc ks) (hcn : CN S kn nk c0 r0 m0 ct B F Z Fo No Ho Mo In) (hr : rwI B1 F1 Z1) (hB : ∀ i, 0 ≤ Bm i ∧ Bm i ≤ 5) (hI : ∀ i, rg (Im i)) (t : TW S S3) (hm : RM cnt nx σ ac di) (hk9 : RK P0 P1 sv ik ke) (ht9 : REt sz tx) (k : ∀ M, INV M → AW X (kc + 1) (ks + 6) 2245 [some (.ref 4095), some (.ref 0), some (.ref 103), some (.ref 119), some (iv i), none, none] [] M) :
    AW X kc ks 374 [some (.ref 4095), some (.ref 0), some (.ref 103), some (.ref 119), some (iv i), none, none] [] (lwW kn nk sz tx S (ringP 7) cnt nx σ (slotP 95) sv c0 r0 m0 ct B F Z Br Q Fo No Ho Mo In Sn Qn S2 c1 r1 m1 ct1 B1 F1 Z1 Br1 Q1 Fo1 No1 sd rt lf wy gb P0 P1 rf S3 S4 ac Bm Im mm Fi Co Bq Wt mk gy di ke ik ea sd2 rt2 lf2 wy2 sp ou fo) := by
  obtain ⟨ex, hN, sc, hi, hL, hl, hkc, hks⟩ := pre
  have hc9 : 0 ≤ ac ∧ ac ≤ 14 := by rw [hm.2.2.1]; exact hm.1
  have eK : kCell S3 (xv xs (i + 1)) (xv xs (i + 2)) (xv xs (i + 3)) 5 = kCell S (xv xs (i + 1)) (xv xs (i + 2)) (xv xs (i + 3)) 5 := kCell_E t.2.2 _ _ _ _
  have eA : kCell S (xv xs (i + 1)) (xv xs (i + 2)) (xv xs (i + 3)) 5 = 0 → aCell S3 (xv xs (i + 1)) (xv xs (i + 2)) (xv xs (i + 3)) = aCell S (xv xs (i + 1)) (xv xs (i + 2)) (xv xs (i + 3)) := fun _ => aCell_E t.2.2 _ _ _
  have hKr : rg (kCell S (xv xs (i + 1)) (xv xs (i + 2)) (xv xs (i + 3)) 5) := by
    unfold kCell rg
    repeat' split
    all_goals omega
  refine a_aload_n (pc := 374) ok dL_law_374 rfl ?_
  refine a_aload_n (pc := 375) ok dL_law_375 rfl ?_
  refine a_iload (pc := 376) ok dL_law_376 rfl ?_
  refine a_iconst (pc := 378) ok dL_law_378 ?_
  refine a_iadd (pc := 379) ok dL_law_379 ?_
  refine a_sld (pc := 380) ok sc dL_law_380 (by omega) hL ?_
  refine a_aload_n (pc := 381) ok dL_law_381 rfl ?_
  refine a_iload (pc := 382) ok dL_law_382 rfl ?_
  refine a_iconst (pc := 384) ok dL_law_384 ?_
  refine a_iadd (pc := 385) ok dL_law_385 ?_
  refine a_sld (pc := 386) ok sc dL_law_386 (by omega) hL ?_
  refine a_aload_n (pc := 387) ok dL_law_387 rfl ?_
  refine a_iload (pc := 388) ok dL_law_388 rfl ?_
  refine a_iconst (pc := 390) ok dL_law_390 ?_
  refine a_iadd (pc := 391) ok dL_law_391 ?_
  refine a_sld (pc := 392) ok sc dL_law_392 (by omega) hL ?_
  refine a_aload_n (pc := 393) ok dL_law_393 rfl ?_
  refine l_callS (pc := 394) ok ex πL_B 20 dL_law_394 (ug3 191 (by decide +kernel) rfl) (ug3 192 (by decide +kernel) rfl) miL_cellOf (W_cellOf (x := (xv xs (i + 1))) (y := (xv xs (i + 2))) (w := (xv xs (i + 3))) hl t.1 hcn (xv_rg _ _) (xv_rg _ _) (xv_rg _ _)) ⟨by decide, by decide, rfl, rfl⟩ ⟨hkc, hks⟩ rfl rfl (Nat.le_of_ble_eq_true rfl) rfl rfl nd_B (fun _ _ h => by obtain ⟨_, _, _, M9, hp, rfl⟩ := h; rw [wr_len (RB_len hp)]; rfl) ?_
  rintro _ M8 ⟨rfl, fo', hfo, M9, hp, rfl⟩
  obtain ⟨kn', nk', c0', r0', m0', ct', B', F', Z', Br', Q', Fo', No', Ho', Mo', In', Sn', Qn', rfl, hcn'⟩ := hp
  refine AW.cast (st2 := [iv (kCell S (xv xs (i + 1)) (xv xs (i + 2)) (xv xs (i + 3)) 5)]) (M2 := (lwW (kn') (nk') sz tx S (ringP 7) cnt nx σ (slotP 95) sv (c0') (r0') (m0') (ct') (B') (F') (Z') (Br') (Q') (Fo') (No') (Ho') (Mo') (In') (Sn') (Qn') S2 c1 r1 m1 ct1 B1 F1 Z1 Br1 Q1 Fo1 No1 sd rt lf wy gb P0 P1 rf S3 S4 ac Bm Im mm Fi Co Bq Wt mk gy di ke ik ea sd2 rt2 lf2 wy2 sp ou (fo'))) ?_ rfl rfl rfl
  refine a_istore (pc := 397) ok dL_law_397 rfl (by rw [hN]; decide) ?_
  refine a_aload_n (pc := 399) ok dL_law_399 rfl ?_
  refine a_aload_n (pc := 400) ok dL_law_400 rfl ?_
  refine a_iload (pc := 401) ok dL_law_401 rfl ?_
  refine a_iconst (pc := 403) ok dL_law_403 ?_
  refine a_iadd (pc := 404) ok dL_law_404 ?_
  refine a_sld (pc := 405) ok sc dL_law_405 (by omega) hL ?_
  refine a_aload_n (pc := 406) ok dL_law_406 rfl ?_
  refine a_iload (pc := 407) ok dL_law_407 rfl ?_
  refine a_iconst (pc := 409) ok dL_law_409 ?_
  refine a_iadd (pc := 410) ok dL_law_410 ?_
  refine a_sld (pc := 411) ok sc dL_law_411 (by omega) hL ?_
  refine a_aload_n (pc := 412) ok dL_law_412 rfl ?_
  refine a_iload (pc := 413) ok dL_law_413 rfl ?_
  refine a_iconst (pc := 415) ok dL_law_415 ?_
  refine a_iadd (pc := 416) ok dL_law_416 ?_
  refine a_sld (pc := 417) ok sc dL_law_417 (by omega) hL ?_
  refine a_callV (pc := 418) ok [103, 105, 110, 111, 112, 113, 114, 115, 116, 117, 106, 104, 107, 108, 109, 118] dL_law_418 mvL_142 miX7_cellOf (c_mcellOf t.2.1 hB hI (xv_rg _ _) (xv_rg _ _) (xv_rg _ _)) ⟨by decide, by decide, rfl, rfl, (by show _ ≤ 601024; omega), (by show _ ≤ 7293034; omega)⟩ rfl rfl (Nat.le_of_ble_eq_true rfl) rfl (by decide) rfl rfl (fun _ _ h => WM_len h.2) ?_
  rintro _ M' ⟨rfl, hwm⟩
  obtain ⟨Bm', Im', mm', Fi', Co', Bq', Wt', mk', gy', S4', ea', sd2', rt2', lf2', wy2', sp', ou', rfl, hB', hI'⟩ := hwm
  refine AW.cast (st2 := [iv (w32 (if kCell S3 (xv xs (i + 1)) (xv xs (i + 2)) (xv xs (i + 3)) 5 = 0 then aCell S3 (xv xs (i + 1)) (xv xs (i + 2)) (xv xs (i + 3)) else 0))]) (M2 := (lwW (kn') (nk') sz tx S (ringP 7) cnt nx σ (slotP 95) sv (c0') (r0') (m0') (ct') (B') (F') (Z') (Br') (Q') (Fo') (No') (Ho') (Mo') (In') (Sn') (Qn') S2 c1 r1 m1 ct1 B1 F1 Z1 Br1 Q1 Fo1 No1 sd rt lf wy gb P0 P1 (kCell S3 (xv xs (i + 1)) (xv xs (i + 2)) (xv xs (i + 3)) 5) S3 (S4') ac (Bm') (Im') (mm') (Fi') (Co') (Bq') (Wt') (mk') (gy') di ke ik (ea') (sd2') (rt2') (lf2') (wy2') (sp') (ou') (fo'))) ?_ rfl (congrArg (fun v : Value => [v]) (iv_w _)) rfl
  have hInv : INV (lwW (kn') (nk') sz tx S (ringP 7) cnt nx σ (slotP 95) sv (c0') (r0') (m0') (ct') (B') (F') (Z') (Br') (Q') (Fo') (No') (Ho') (Mo') (In') (Sn') (Qn') S2 c1 r1 m1 ct1 B1 F1 Z1 Br1 Q1 Fo1 No1 sd rt lf wy gb P0 P1 (kCell S3 (xv xs (i + 1)) (xv xs (i + 2)) (xv xs (i + 3)) 5) S3 (S4') ac (Bm') (Im') (mm') (Fi') (Co') (Bq') (Wt') (mk') (gy') di ke ik (ea') (sd2') (rt2') (lf2') (wy2') (sp') (ou') (fo')) := ⟨_, _, _, _, _, _, _, _, _, _, _, _, _, _, _, _, _, _, _, _, _, _, _, _, _, _, _, _, _, _, _, _, _, _, _, _, _, _, _, _, _, _, _, _, _, _, _, _, _, _, _, _, _, _, _, _, _, _, _, _, _, _, _, _, _, _, _, _, rfl, hcn', hr, hB', hI', t, hm, hk9, ht9⟩
  refine a_istore (pc := 421) ok dL_law_421 rfl (by rw [hN]; decide) ?_
  refine a_aload_n (pc := 423) ok dL_law_423 rfl ?_
  refine x_callVp (pc := 424) ok [103, 104, 105, 106, 107, 108, 109, 110, 111, 112, 113, 114, 115, 116, 117, 118] 1 dL_law_424 mvL_121 miX7_thrown (c_thrown) ⟨by decide, by decide, rfl, rfl, (by show _ ≤ 601024; omega), (by show _ ≤ 7293034; omega)⟩ rfl rfl (Nat.le_of_ble_eq_true rfl) rfl rfl (by decide) rfl rfl ?_
  refine a_iload (pc := 427) ok dL_law_427 rfl ?_
  refine a_icmp_eq (pc := 429) (tgt := 434) ok dL_law_429 (by decide) (by first | exact hKr | (rw [eK]; exact hKr)) (by first | exact hKr | (rw [eK]; exact hKr)) (fun c429 => ?_) (fun c429 => ?_)
  · refine a_iload (pc := 434) ok dL_law_434 rfl ?_
    refine a_if_ne (pc := 436) (tgt := 451) ok dL_law_436 (by decide) (by exact hKr) (fun c436 => ?_) (fun c436 => ?_)
    · refine a_goto (pc := 451) (tgt := 2245) ok dL_law_451 (by decide) ?_
      exact AW.forget (k _ hInv) (by repeat' (first | exact trivial | refine ⟨rfl, ?_⟩))
    · have h0 : kCell S (xv xs (i + 1)) (xv xs (i + 2)) (xv xs (i + 3)) 5 = 0 := by first | exact c436 | omega
      have e1 := hfo h0
      have e2 : w32 (if kCell S3 (xv xs (i + 1)) (xv xs (i + 2)) (xv xs (i + 3)) 5 = 0 then aCell S3 (xv xs (i + 1)) (xv xs (i + 2)) (xv xs (i + 3)) else 0) = w32 (aCell S (xv xs (i + 1)) (xv xs (i + 2)) (xv xs (i + 3))) := by have q := eK.trans h0; have q2 := eA h0; rw [if_pos q, q2]
      refine a_aload_n (pc := 439) ok dL_law_439 rfl ?_
      refine a_iconst (pc := 440) ok dL_law_440 ?_
      refine a_lald (pc := 441) ok dL_law_441 (rfl) (by decide) (by omega) ?_
      refine a_iload (pc := 442) ok dL_law_442 rfl ?_
      refine a_i2l (pc := 444) ok dL_law_444 (by exact rg_w _) ?_
      refine a_lcmp (pc := 445) ok dL_law_445 (by first | (rw [e1]; exact rgL_w9 _) | exact rgL_w9 _) (by first | (rw [e1]; exact rgL_w9 _) | exact rgL_w9 _) (fun c445 => ?_) (fun c445 => ?_) (fun c445 => ?_)
      · exfalso; rw [e1, e2] at c445; exact absurd c445 (Int.lt_irrefl _)
      · refine a_if_eq (pc := 446) (tgt := 451) ok dL_law_446 (by decide) (by first | omega | (unfold rg; omega) | (simp only [rg] at *; omega) | exact bz_rg _ | grind [rg]) (fun c446 => ?_) (fun c446 => ?_)
        · refine a_goto (pc := 451) (tgt := 2245) ok dL_law_451 (by decide) ?_
          exact AW.forget (k _ hInv) (by repeat' (first | exact trivial | refine ⟨rfl, ?_⟩))
        · exact absurd rfl c446
      · exfalso; rw [e1, e2] at c445; exact absurd c445 (Int.lt_irrefl _)
  · exact absurd eK c429
end LC102
