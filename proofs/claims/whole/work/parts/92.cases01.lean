/-! THE LAW: its cases. Printed by wip/whole/gen/mk91.py. -/
section LC100
variable {kn : Int} {nk : Int} {sz : Int} {tx : Int → Int} {S : St} {cnt : Int} {nx : Int} {σ : Nat → St} {sv : Int → Int} {c0 : Int} {r0 : Int} {m0 : Int} {ct : Int} {B : Int → Int} {F : Int → Int} {Z : Int → Int} {Br : Int → Int} {Q : Int → Int} {Fo : Int → Int} {No : Int → Int} {Ho : Int → Int} {Mo : Int → Int} {In : Int → Int} {Sn : Int → Int} {Qn : Int → Int} {S2 : St} {c1 : Int} {r1 : Int} {m1 : Int} {ct1 : Int} {B1 : Int → Int} {F1 : Int → Int} {Z1 : Int → Int} {Br1 : Int → Int} {Q1 : Int → Int} {Fo1 : Int → Int} {No1 : Int → Int} {sd : Int} {rt : Int} {lf : Int} {wy : Int} {gb : Int → Int} {P0 : St} {P1 : St} {rf : Int} {S3 : St} {S4 : St} {ac : Int} {Bm : Int → Int} {Im : Int → Int} {mm : Int} {Fi : Int → Int} {Co : Int → Int} {Bq : Int → Int} {Wt : Int → Int} {mk : Int → Int} {gy : Int → Int} {di : Int → Int} {ke : Int → Int} {ik : Int → Int} {ea : Int → Int} {sd2 : Int} {rt2 : Int} {lf2 : Int} {wy2 : Int} {sp : Int} {ou : Int} {fo : Int → Int}
theorem cs_append {X : Cx} {b L : Nat} {xs : Nat → Int32} {i : Int} {kc ks : Nat} (ok : OKL X) (pre : PRE X b L xs i kc ks) (hcn : CN S kn nk c0 r0 m0 ct B F Z Fo No Ho Mo In) (hr : rwI B1 F1 Z1) (hB : ∀ i, 0 ≤ Bm i ∧ Bm i ≤ 5) (hI : ∀ i, rg (Im i)) (t : TW S S3) (hm : RM cnt nx σ ac di) (hk9 : RK P0 P1 sv ik ke) (ht9 : REt sz tx) (k : ∀ M, INV M → AW X (kc + 1) (ks + 6) 2245 [some (.ref 4095), some (.ref 0), some (.ref 103), some (.ref 119), some (iv i), none, none] [] M) :
    AW X kc ks 192 [some (.ref 4095), some (.ref 0), some (.ref 103), some (.ref 119), some (iv i), none, none] [] (lwW kn nk sz tx S (ringP 7) cnt nx σ (slotP 95) sv c0 r0 m0 ct B F Z Br Q Fo No Ho Mo In Sn Qn S2 c1 r1 m1 ct1 B1 F1 Z1 Br1 Q1 Fo1 No1 sd rt lf wy gb P0 P1 rf S3 S4 ac Bm Im mm Fi Co Bq Wt mk gy di ke ik ea sd2 rt2 lf2 wy2 sp ou fo) := by
  obtain ⟨ex, hN, sc, hi, hL, hl, hkc, hks⟩ := pre
  have hc9 : 0 ≤ ac ∧ ac ≤ 14 := by rw [hm.2.2.1]; exact hm.1
  have eK : kAppend sz (xv xs (i + 1)) = kAppend sz (xv xs (i + 1)) := rfl
  have eA : kAppend sz (xv xs (i + 1)) = 0 → sz + 1 = sz + 1 := fun _ => rfl
  have hKr : rg (kAppend sz (xv xs (i + 1))) := by
    unfold kAppend rg
    repeat' split
    all_goals omega
  refine a_aload_n (pc := 192) ok dL_law_192 rfl ?_
  refine a_aload_n (pc := 193) ok dL_law_193 rfl ?_
  refine a_iload (pc := 194) ok dL_law_194 rfl ?_
  refine a_iconst (pc := 196) ok dL_law_196 ?_
  refine a_iadd (pc := 197) ok dL_law_197 ?_
  refine a_sld (pc := 198) ok sc dL_law_198 (by omega) hL ?_
  refine a_aload_n (pc := 199) ok dL_law_199 rfl ?_
  refine l_callS (pc := 200) ok ex πL_X 4 dL_law_200 (ug2 188 (by decide +kernel) rfl) (ug2 189 (by decide +kernel) rfl) miL_append (W_append (x := (xv xs (i + 1))) hl ht9.1 (xv_rg _ _)) ⟨by decide, by decide, rfl, rfl⟩ ⟨hkc, hks⟩ rfl rfl (Nat.le_of_ble_eq_true rfl) rfl rfl nd_X (fun _ _ h => by obtain ⟨_, _, _, M9, rfl, rfl⟩ := h; rfl) ?_
  rintro _ M8 ⟨rfl, fo', hfo, M9, hp, rfl⟩
  subst hp
  refine AW.cast (st2 := [iv (kAppend sz (xv xs (i + 1)))]) (M2 := (lwW2 (if kAppend sz (xv xs (i + 1)) = 0 then sz + 1 else sz) (if kAppend sz (xv xs (i + 1)) = 0 then up tx sz (xv xs (i + 1)) else tx) sz tx (kn) (nk) (S) (ringP 7) (cnt) (nx) (σ) (slotP 95) (sv) (c0) (r0) (m0) (ct) (B) (F) (Z) (Br) (Q) (Fo) (No) (Ho) (Mo) (In) (Sn) (Qn) (S2) (c1) (r1) (m1) (ct1) (B1) (F1) (Z1) (Br1) (Q1) (Fo1) (No1) (sd) (rt) (lf) (wy) (gb) (P0) (P1) (rf) (S3) (S4) (ac) (Bm) (Im) (mm) (Fi) (Co) (Bq) (Wt) (mk) (gy) (di) (ke) (ik) (ea) (sd2) (rt2) (lf2) (wy2) (sp) (ou) (fo'))) ?_ rfl rfl rfl
  refine a_istore (pc := 203) ok dL_law_203 rfl (by rw [hN]; decide) ?_
  refine a_aload_n (pc := 205) ok dL_law_205 rfl ?_
  refine a_aload_n (pc := 206) ok dL_law_206 rfl ?_
  refine a_iload (pc := 207) ok dL_law_207 rfl ?_
  refine a_iconst (pc := 209) ok dL_law_209 ?_
  refine a_iadd (pc := 210) ok dL_law_210 ?_
  refine a_sld (pc := 211) ok sc dL_law_211 (by omega) hL ?_
  refine a_callV (pc := 212) ok [103, 105, 110, 111, 112, 113, 114, 115, 116, 117, 106, 104, 107, 108, 109, 118] dL_law_212 mvL_120 miX7_append (c_mappend hB hI (xv_rg _ _) ht9.1) ⟨by decide, by decide, rfl, rfl, (by show _ ≤ 601024; omega), (by show _ ≤ 7293034; omega)⟩ rfl rfl (Nat.le_of_ble_eq_true rfl) rfl (by decide) rfl rfl (fun _ _ h => WM_len h.2) ?_
  rintro _ M' ⟨rfl, hwm⟩
  obtain ⟨Bm', Im', mm', Fi', Co', Bq', Wt', mk', gy', S4', ea', sd2', rt2', lf2', wy2', sp', ou', rfl, hB', hI'⟩ := hwm
  refine AW.cast (st2 := [iv (w32 (if kAppend sz (xv xs (i + 1)) = 0 then sz + 1 else 0))]) (M2 := (lwW kn nk (if kAppend sz (xv xs (i + 1)) = 0 then sz + 1 else sz) (if kAppend sz (xv xs (i + 1)) = 0 then up tx sz (xv xs (i + 1)) else tx) S (ringP 7) cnt nx σ (slotP 95) sv c0 r0 m0 ct B F Z Br Q Fo No Ho Mo In Sn Qn S2 c1 r1 m1 ct1 B1 F1 Z1 Br1 Q1 Fo1 No1 sd rt lf wy gb P0 P1 (kAppend sz (xv xs (i + 1))) S3 (S4') ac (Bm') (Im') (mm') (Fi') (Co') (Bq') (Wt') (mk') (gy') di ke ik (ea') (sd2') (rt2') (lf2') (wy2') (sp') (ou') (fo'))) ?_ rfl (congrArg (fun v : Value => [v]) (iv_w _)) rfl
  have hInv : INV (lwW kn nk (if kAppend sz (xv xs (i + 1)) = 0 then sz + 1 else sz) (if kAppend sz (xv xs (i + 1)) = 0 then up tx sz (xv xs (i + 1)) else tx) S (ringP 7) cnt nx σ (slotP 95) sv c0 r0 m0 ct B F Z Br Q Fo No Ho Mo In Sn Qn S2 c1 r1 m1 ct1 B1 F1 Z1 Br1 Q1 Fo1 No1 sd rt lf wy gb P0 P1 (kAppend sz (xv xs (i + 1))) S3 (S4') ac (Bm') (Im') (mm') (Fi') (Co') (Bq') (Wt') (mk') (gy') di ke ik (ea') (sd2') (rt2') (lf2') (wy2') (sp') (ou') (fo')) := ⟨_, _, _, _, _, _, _, _, _, _, _, _, _, _, _, _, _, _, _, _, _, _, _, _, _, _, _, _, _, _, _, _, _, _, _, _, _, _, _, _, _, _, _, _, _, _, _, _, _, _, _, _, _, _, _, _, _, _, _, _, _, _, _, _, _, _, _, _, rfl, hcn, hr, hB', hI', t, hm, hk9, REt_if ht9 rfl⟩
  refine a_istore (pc := 215) ok dL_law_215 rfl (by rw [hN]; decide) ?_
  refine a_aload_n (pc := 217) ok dL_law_217 rfl ?_
  refine x_callVp (pc := 218) ok [103, 104, 105, 106, 107, 108, 109, 110, 111, 112, 113, 114, 115, 116, 117, 118] 1 dL_law_218 mvL_121 miX7_thrown (c_thrown) ⟨by decide, by decide, rfl, rfl, (by show _ ≤ 601024; omega), (by show _ ≤ 7293034; omega)⟩ rfl rfl (Nat.le_of_ble_eq_true rfl) rfl rfl (by decide) rfl rfl ?_
  refine a_iload (pc := 221) ok dL_law_221 rfl ?_
  refine a_icmp_eq (pc := 223) (tgt := 228) ok dL_law_223 (by decide) (by first | exact hKr | (rw [eK]; exact hKr)) (by first | exact hKr | (rw [eK]; exact hKr)) (fun c223 => ?_) (fun c223 => ?_)
  · refine a_iload (pc := 228) ok dL_law_228 rfl ?_
    refine a_if_ne (pc := 230) (tgt := 245) ok dL_law_230 (by decide) (by exact hKr) (fun c230 => ?_) (fun c230 => ?_)
    · refine a_goto (pc := 245) (tgt := 2245) ok dL_law_245 (by decide) ?_
      exact AW.forget (k _ hInv) (by repeat' (first | exact trivial | refine ⟨rfl, ?_⟩))
    · have h0 : kAppend sz (xv xs (i + 1)) = 0 := by first | exact c230 | omega
      have e1 := hfo h0
      have e2 : w32 (if kAppend sz (xv xs (i + 1)) = 0 then sz + 1 else 0) = w32 (sz + 1) := by have q := eK.trans h0; have q2 := eA h0; rw [if_pos q, q2]
      refine a_aload_n (pc := 233) ok dL_law_233 rfl ?_
      refine a_iconst (pc := 234) ok dL_law_234 ?_
      refine a_lald (pc := 235) ok dL_law_235 (rfl) (by decide) (by omega) ?_
      refine a_iload (pc := 236) ok dL_law_236 rfl ?_
      refine a_i2l (pc := 238) ok dL_law_238 (by exact rg_w _) ?_
      refine a_lcmp (pc := 239) ok dL_law_239 (by first | (rw [e1]; exact rgL_w9 _) | exact rgL_w9 _) (by first | (rw [e1]; exact rgL_w9 _) | exact rgL_w9 _) (fun c239 => ?_) (fun c239 => ?_) (fun c239 => ?_)
      · exfalso; rw [e1, e2] at c239; exact absurd c239 (Int.lt_irrefl _)
      · refine a_if_eq (pc := 240) (tgt := 245) ok dL_law_240 (by decide) (by first | omega | (unfold rg; omega) | (simp only [rg] at *; omega) | exact bz_rg _ | grind [rg]) (fun c240 => ?_) (fun c240 => ?_)
        · refine a_goto (pc := 245) (tgt := 2245) ok dL_law_245 (by decide) ?_
          exact AW.forget (k _ hInv) (by repeat' (first | exact trivial | refine ⟨rfl, ?_⟩))
        · exact absurd rfl c240
      · exfalso; rw [e1, e2] at c239; exact absurd c239 (Int.lt_irrefl _)
  · exact absurd eK c223
theorem cs_clearText {X : Cx} {b L : Nat} {xs : Nat → Int32} {i : Int} {kc ks : Nat} (ok : OKL X) (pre : PRE X b L xs i kc ks) (hcn : CN S kn nk c0 r0 m0 ct B F Z Fo No Ho Mo In) (hr : rwI B1 F1 Z1) (hB : ∀ i, 0 ≤ Bm i ∧ Bm i ≤ 5) (hI : ∀ i, rg (Im i)) (t : TW S S3) (hm : RM cnt nx σ ac di) (hk9 : RK P0 P1 sv ik ke) (ht9 : REt sz tx) (k : ∀ M, INV M → AW X (kc + 1) (ks + 6) 2245 [some (.ref 4095), some (.ref 0), some (.ref 103), some (.ref 119), some (iv i), none, none] [] M) :
    AW X kc ks 248 [some (.ref 4095), some (.ref 0), some (.ref 103), some (.ref 119), some (iv i), none, none] [] (lwW kn nk sz tx S (ringP 7) cnt nx σ (slotP 95) sv c0 r0 m0 ct B F Z Br Q Fo No Ho Mo In Sn Qn S2 c1 r1 m1 ct1 B1 F1 Z1 Br1 Q1 Fo1 No1 sd rt lf wy gb P0 P1 rf S3 S4 ac Bm Im mm Fi Co Bq Wt mk gy di ke ik ea sd2 rt2 lf2 wy2 sp ou fo) := by
  obtain ⟨ex, hN, sc, hi, hL, hl, hkc, hks⟩ := pre
  have hc9 : 0 ≤ ac ∧ ac ≤ 14 := by rw [hm.2.2.1]; exact hm.1
  have eA : sz = sz := rfl
  refine a_aload_n (pc := 248) ok dL_law_248 rfl ?_
  refine x_callV (pc := 249) ok [0, 1, 2, 3, 7, 65, 66, 67, 75, 81, 85, 93, 94] 3 dL_law_249 mvL_124 miX6_clearText (c_clearText) ⟨by decide, by decide, rfl, rfl, (by show _ ≤ 601024; omega), (by show _ ≤ 7293034; omega)⟩ rfl rfl (Nat.le_of_ble_eq_true rfl) rfl rfl (by decide) rfl rfl (fun _ _ h => by obtain ⟨_, rfl⟩ := h; rfl) ?_
  rintro _ _ ⟨rfl, rfl⟩
  refine AW.cast (st2 := [iv (w32 (sz))]) (M2 := (lwW2 0 tx sz tx (kn) (nk) (S) (ringP 7) (cnt) (nx) (σ) (slotP 95) (sv) (c0) (r0) (m0) (ct) (B) (F) (Z) (Br) (Q) (Fo) (No) (Ho) (Mo) (In) (Sn) (Qn) (S2) (c1) (r1) (m1) (ct1) (B1) (F1) (Z1) (Br1) (Q1) (Fo1) (No1) (sd) (rt) (lf) (wy) (gb) (P0) (P1) (rf) (S3) (S4) (ac) (Bm) (Im) (mm) (Fi) (Co) (Bq) (Wt) (mk) (gy) (di) (ke) (ik) (ea) (sd2) (rt2) (lf2) (wy2) (sp) (ou) (fo))) ?_ rfl (congrArg (fun v : Value => [v]) (iv_w _)) rfl
  refine a_aload_n (pc := 252) ok dL_law_252 rfl ?_
  refine a_callV (pc := 253) ok [103, 105, 110, 111, 112, 113, 114, 115, 116, 117, 106, 104, 107, 108, 109, 118] dL_law_253 mvL_127 miX7_clearText (c_mclearText hB hI) ⟨by decide, by decide, rfl, rfl, (by show _ ≤ 601024; omega), (by show _ ≤ 7293034; omega)⟩ rfl rfl (Nat.le_of_ble_eq_true rfl) rfl (by decide) rfl rfl (fun _ _ h => WM_len h.2) ?_
  rintro _ M' ⟨rfl, hwm⟩
  obtain ⟨Bm', Im', mm', Fi', Co', Bq', Wt', mk', gy', S4', ea', sd2', rt2', lf2', wy2', sp', ou', rfl, hB', hI'⟩ := hwm
  refine AW.cast (st2 := [iv (w32 (sz)), iv (w32 (sz))]) (M2 := (lwW kn nk (0) tx S (ringP 7) cnt nx σ (slotP 95) sv c0 r0 m0 ct B F Z Br Q Fo No Ho Mo In Sn Qn S2 c1 r1 m1 ct1 B1 F1 Z1 Br1 Q1 Fo1 No1 sd rt lf wy gb P0 P1 (0) S3 (S4') ac (Bm') (Im') (mm') (Fi') (Co') (Bq') (Wt') (mk') (gy') di ke ik (ea') (sd2') (rt2') (lf2') (wy2') (sp') (ou') fo)) ?_ rfl (congrArg (fun v : Value => [v, iv (w32 (sz))]) (iv_w _)) rfl
  have hInv : INV (lwW kn nk (0) tx S (ringP 7) cnt nx σ (slotP 95) sv c0 r0 m0 ct B F Z Br Q Fo No Ho Mo In Sn Qn S2 c1 r1 m1 ct1 B1 F1 Z1 Br1 Q1 Fo1 No1 sd rt lf wy gb P0 P1 (0) S3 (S4') ac (Bm') (Im') (mm') (Fi') (Co') (Bq') (Wt') (mk') (gy') di ke ik (ea') (sd2') (rt2') (lf2') (wy2') (sp') (ou') fo) := ⟨_, _, _, _, _, _, _, _, _, _, _, _, _, _, _, _, _, _, _, _, _, _, _, _, _, _, _, _, _, _, _, _, _, _, _, _, _, _, _, _, _, _, _, _, _, _, _, _, _, _, _, _, _, _, _, _, _, _, _, _, _, _, _, _, _, _, _, _, rfl, hcn, hr, hB', hI', t, hm, hk9, ⟨⟨Int.le_refl _, by omega⟩, ht9.2⟩⟩
  refine a_icmp_eq (pc := 256) (tgt := 2245) ok dL_law_256 (by decide) (by exact rg_w _) (by exact rg_w _) (fun c256 => ?_) (fun c256 => ?_)
  · exact AW.widen (Nat.le_succ _) (Nat.le_add_right _ _) (k _ hInv)
  · exact absurd (congrArg w32 eA.symm) c256
end LC100
