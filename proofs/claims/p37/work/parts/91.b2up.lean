/-! THE CLASS over one object's whole world. Printed by wip/p37/gen/mkob.py. -/
section KU
variable {l : Launch} {A : Ob} {M : List va_E}
abbrev πOX : List Nat := [0, 1, 2, 3, 7, 65, 66, 67, 75, 81, 85, 93, 94]
abbrev πOT : List Nat := [0, 3, 4, 5, 6, 67, 0, 0, 0, 0, 0, 0, 0, 75, 0, 0, 0, 0, 0, 93, 81, 0, 0, 0, 85, 0, 0, 0, 0, 0, 0, 0, 94, 1, 0, 65, 0, 0, 0, 0, 0, 0, 0, 0, 66, 7]
abbrev πOB : List Nat := [0, 3, 4, 5, 6, 67, 68, 69, 70, 71, 72, 73, 74, 75, 76, 77, 78, 79, 80, 93, 81, 0, 0, 0, 85, 0, 0, 0, 0, 0, 0, 0, 94, 1, 0, 65, 0, 0, 0, 0, 0, 0, 0, 0, 66, 7]
abbrev πOU : List Nat := [0, 81, 82, 83, 84, 85, 86, 87, 88, 89, 90, 91, 92, 94, 3, 4, 5, 6, 1, 7, 65, 66, 67, 75, 93]
abbrev πOM : List Nat := [0, 3, 4, 5, 6, 94, 7, 8, 9, 10, 11, 12, 13, 14, 15, 16, 17, 18, 19, 20, 21, 22, 23, 24, 25, 26, 27, 28, 29, 30, 31, 32, 33, 34, 35, 36, 37, 38, 39, 40, 41, 42, 43, 44, 45, 46, 47, 48, 49, 50, 51, 52, 53, 54, 55, 56, 57, 58, 59, 60, 61, 62, 63, 64, 1, 65, 66, 67, 75, 81, 85, 93]
abbrev πOS : List Nat := [0, 3, 4, 5, 6, 65, 95, 96, 97, 98, 99, 100, 101, 102, 66, 7, 1, 67, 75, 81, 85, 93, 94, 8]
abbrev πOC : List Nat := [0, 3, 4, 5, 6, 67, 68, 69, 70, 71, 72, 73, 74, 75, 76, 77, 78, 79, 80, 93, 81, 0, 0, 0, 85, 0, 0, 0, 0, 0, 0, 0, 94, 1, 0, 65, 0, 0, 0, 0, 0, 0, 0, 0, 66, 7]
abbrev πOD : List Nat := [0, 3, 4, 5, 6, 67, 68, 69, 70, 71, 72, 73, 74, 75, 76, 77, 78, 79, 80, 93, 81, 82, 83, 84, 85, 86, 87, 88, 89, 90, 91, 92, 94, 1, 0, 65, 0, 0, 0, 0, 0, 0, 0, 0, 66, 7]
theorem ringO : (fun i => (ringP 6 i).map (rn πOM)) = ringP 7 := ring_eq 6 7 πOM (by decide)
theorem slotO : (fun i => (slotP 6 i).map (rn πOS)) = slotP 95 := slot_eq 6 95 πOS (by decide)
theorem ring7O : (fun i => (ringP 6 i).map (rn (πs 64 72))) = ringP 6 := ring_eq 6 6 (πs 64 72) (by decide)
theorem KN_about (hA : VA A) (hW : WO A M) {w : Int} (hw : rg w) (h : kIn w 0 10 = 0) : Ct l yX6_about cX6_about 2 (some .int) rmX6_about [.ref 0, iv w] M (fun u M8 => u = some (iv (w32 (aAbout (jS A) w))) ∧ WO (A) M8) := by
  obtain ⟨S, cnt, nx, σ, P0, P1, sv⟩ := A
  obtain ⟨kn, nk, sz, tx, c0, r0, m0, ct, B, F, Z, Br, Q, Fo, No, Ho, Mo, In, Sn, Qn, S2, c1, r1, m1, ct1, B1, F1, Z1, Br1, Q1, Fo1, No1, sd, rt, lf, wy, gb, rfl, h9, hr, hz⟩ := hW
  obtain ⟨hS, hc, hx9, hG, hP0, hP1, hsv⟩ := hA
  refine Ct.mono (Ct.up (av2 := [.ref 0, iv w]) (M := (oW kn nk sz tx S (ringP 7) cnt nx σ (slotP 95) sv c0 r0 m0 ct B F Z Br Q Fo No Ho Mo In Sn Qn S2 c1 r1 m1 ct1 B1 F1 Z1 Br1 Q1 Fo1 No1 sd rt lf wy gb P0 P1)) (M2 := clD S kn nk c0 r0 m0 ct B F Z Br Q Fo No Ho Mo In Sn Qn sd rt lf wy S2 c1 r1 m1 ct1 B1 F1 Z1 Br1 Q1 Fo1 No1 gb) πOD 33 rfl rfl (by decide) (fun _ _ h => RD_len h.2) (c_about hS h9 hr h hw)) ?_
  rintro _ _ ⟨v2, M2, rfl, ⟨rfl, hp⟩, rfl⟩
  obtain ⟨kn', nk', c0', r0', m0', ct', B', F', Z', Br', Q', Fo', No', Ho', Mo', In', Sn', Qn', sd', rt', lf', wy', S2', c1', r1', m1', ct1', B1', F1', Z1', Br1', Q1', Fo1', No1', gb', rfl, h9', hr'⟩ := hp
  exact ⟨congrArg some (iv_w _), (kn'), (nk'), sz, tx, (c0'), (r0'), (m0'), (ct'), (B'), (F'), (Z'), (Br'), (Q'), (Fo'), (No'), (Ho'), (Mo'), (In'), (Sn'), (Qn'), (S2'), (c1'), (r1'), (m1'), (ct1'), (B1'), (F1'), (Z1'), (Br1'), (Q1'), (Fo1'), (No1'), (sd'), (rt'), (lf'), (wy'), (gb'), rfl, h9', hr', hz⟩
theorem KX_about (hl : l.stackTraces = false) (hA : VA A) (hW : WO A M) {w : Int} (hw : rg w) (h : kIn w 0 10 = 1) : CtX l yX6_about cX6_about 2 (some .int) rxabout [.ref 0, iv w] M nIA (WO A) := by
  obtain ⟨S, cnt, nx, σ, P0, P1, sv⟩ := A
  obtain ⟨kn, nk, sz, tx, c0, r0, m0, ct, B, F, Z, Br, Q, Fo, No, Ho, Mo, In, Sn, Qn, S2, c1, r1, m1, ct1, B1, F1, Z1, Br1, Q1, Fo1, No1, sd, rt, lf, wy, gb, rfl, h9, hr, hz⟩ := hW
  obtain ⟨hS, hc, hx9, hG, hP0, hP1, hsv⟩ := hA
  refine CtX.mono (CtX.up (av2 := [.ref 0, iv w]) (M := (oW kn nk sz tx S (ringP 7) cnt nx σ (slotP 95) sv c0 r0 m0 ct B F Z Br Q Fo No Ho Mo In Sn Qn S2 c1 r1 m1 ct1 B1 F1 Z1 Br1 Q1 Fo1 No1 sd rt lf wy gb P0 P1)) (M2 := clD S kn nk c0 r0 m0 ct B F Z Br Q Fo No Ho Mo In Sn Qn sd rt lf wy S2 c1 r1 m1 ct1 B1 F1 Z1 Br1 Q1 Fo1 No1 gb) πOD 33 rfl rfl (by decide) (fun _ h => by first | (rw [h]; done) | (rw [h]; rfl)) (cx_about hl (by rw [h]; decide) hw)) ?_
  rintro _ ⟨M2, hp, rfl⟩
  subst hp
  exact ⟨kn, nk, sz, tx, c0, r0, m0, ct, B, F, Z, Br, Q, Fo, No, Ho, Mo, In, Sn, Qn, S2, c1, r1, m1, ct1, B1, F1, Z1, Br1, Q1, Fo1, No1, sd, rt, lf, wy, gb, rfl, h9, hr, hz⟩
theorem KN_cellOf (hA : VA A) (hW : WO A M) {x y w : Int} (hx : rg x) (hy : rg y) (hw : rg w) (h : kCell (jS A) x y w 5 = 0) : Ct l yX6_cellOf cX6_cellOf 5 (some .int) rmX6_cellOf [.ref 0, iv x, iv y, iv w] M (fun u M8 => u = some (iv (w32 (aCell (jS A) x y w))) ∧ WO (A) M8) := by
  obtain ⟨S, cnt, nx, σ, P0, P1, sv⟩ := A
  obtain ⟨kn, nk, sz, tx, c0, r0, m0, ct, B, F, Z, Br, Q, Fo, No, Ho, Mo, In, Sn, Qn, S2, c1, r1, m1, ct1, B1, F1, Z1, Br1, Q1, Fo1, No1, sd, rt, lf, wy, gb, rfl, h9, hr, hz⟩ := hW
  obtain ⟨hS, hc, hx9, hG, hP0, hP1, hsv⟩ := hA
  refine Ct.mono (Ct.up (av2 := [.ref 0, iv x, iv y, iv w]) (M := (oW kn nk sz tx S (ringP 7) cnt nx σ (slotP 95) sv c0 r0 m0 ct B F Z Br Q Fo No Ho Mo In Sn Qn S2 c1 r1 m1 ct1 B1 F1 Z1 Br1 Q1 Fo1 No1 sd rt lf wy gb P0 P1)) (M2 := clB S kn nk c0 r0 m0 ct B F Z Br Q Fo No Ho Mo In Sn Qn) πOB 19 rfl rfl (by decide) (fun _ _ h => RB_len h.2) (c_cellOf hS h9 h hx hy hw)) ?_
  rintro _ _ ⟨v2, M2, rfl, ⟨rfl, hp⟩, rfl⟩
  obtain ⟨kn', nk', c0', r0', m0', ct', B', F', Z', Br', Q', Fo', No', Ho', Mo', In', Sn', Qn', rfl, h9'⟩ := hp
  exact ⟨congrArg some (iv_w _), (kn'), (nk'), sz, tx, (c0'), (r0'), (m0'), (ct'), (B'), (F'), (Z'), (Br'), (Q'), (Fo'), (No'), (Ho'), (Mo'), (In'), (Sn'), (Qn'), S2, c1, r1, m1, ct1, B1, F1, Z1, Br1, Q1, Fo1, No1, sd, rt, lf, wy, gb, rfl, h9', hr, hz⟩
theorem KX_cellOf1 (hl : l.stackTraces = false) (hA : VA A) (hW : WO A M) {x y w : Int} (hx : rg x) (hy : rg y) (hw : rg w) (h : kCell (jS A) x y w 5 = 1) : CtX l yX6_cellOf cX6_cellOf 5 (some .int) rxcellOf [.ref 0, iv x, iv y, iv w] M nIO (WO A) := by
  obtain ⟨S, cnt, nx, σ, P0, P1, sv⟩ := A
  obtain ⟨kn, nk, sz, tx, c0, r0, m0, ct, B, F, Z, Br, Q, Fo, No, Ho, Mo, In, Sn, Qn, S2, c1, r1, m1, ct1, B1, F1, Z1, Br1, Q1, Fo1, No1, sd, rt, lf, wy, gb, rfl, h9, hr, hz⟩ := hW
  obtain ⟨hS, hc, hx9, hG, hP0, hP1, hsv⟩ := hA
  refine CtX.mono (CtX.up (av2 := [.ref 0, iv x, iv y, iv w]) (M := (oW kn nk sz tx S (ringP 7) cnt nx σ (slotP 95) sv c0 r0 m0 ct B F Z Br Q Fo No Ho Mo In Sn Qn S2 c1 r1 m1 ct1 B1 F1 Z1 Br1 Q1 Fo1 No1 sd rt lf wy gb P0 P1)) (M2 := clB S kn nk c0 r0 m0 ct B F Z Br Q Fo No Ho Mo In Sn Qn) πOB 19 rfl rfl (by decide) (fun _ h => by first | (rw [h]; done) | (rw [h]; rfl)) (cx_cellOf1 hl hS h hx hy)) ?_
  rintro _ ⟨M2, hp, rfl⟩
  subst hp
  exact ⟨kn, nk, sz, tx, c0, r0, m0, ct, B, F, Z, Br, Q, Fo, No, Ho, Mo, In, Sn, Qn, S2, c1, r1, m1, ct1, B1, F1, Z1, Br1, Q1, Fo1, No1, sd, rt, lf, wy, gb, rfl, h9, hr, hz⟩
theorem KX_cellOf2 (hl : l.stackTraces = false) (hA : VA A) (hW : WO A M) {x y w : Int} (hx : rg x) (hy : rg y) (hw : rg w) (h : kCell (jS A) x y w 5 = 2) : CtX l yX6_cellOf cX6_cellOf 5 (some .int) rxcellOf [.ref 0, iv x, iv y, iv w] M nIA (WO A) := by
  obtain ⟨S, cnt, nx, σ, P0, P1, sv⟩ := A
  obtain ⟨kn, nk, sz, tx, c0, r0, m0, ct, B, F, Z, Br, Q, Fo, No, Ho, Mo, In, Sn, Qn, S2, c1, r1, m1, ct1, B1, F1, Z1, Br1, Q1, Fo1, No1, sd, rt, lf, wy, gb, rfl, h9, hr, hz⟩ := hW
  obtain ⟨hS, hc, hx9, hG, hP0, hP1, hsv⟩ := hA
  refine CtX.mono (CtX.up (av2 := [.ref 0, iv x, iv y, iv w]) (M := (oW kn nk sz tx S (ringP 7) cnt nx σ (slotP 95) sv c0 r0 m0 ct B F Z Br Q Fo No Ho Mo In Sn Qn S2 c1 r1 m1 ct1 B1 F1 Z1 Br1 Q1 Fo1 No1 sd rt lf wy gb P0 P1)) (M2 := clB S kn nk c0 r0 m0 ct B F Z Br Q Fo No Ho Mo In Sn Qn) πOB 19 rfl rfl (by decide) (fun _ h => by first | (rw [h]; done) | (rw [h]; rfl)) (cx_cellOf2 hl hS h hx hy hw)) ?_
  rintro _ ⟨M2, hp, rfl⟩
  subst hp
  exact ⟨kn, nk, sz, tx, c0, r0, m0, ct, B, F, Z, Br, Q, Fo, No, Ho, Mo, In, Sn, Qn, S2, c1, r1, m1, ct1, B1, F1, Z1, Br1, Q1, Fo1, No1, sd, rt, lf, wy, gb, rfl, h9, hr, hz⟩
theorem KN_thresholdAt (hA : VA A) (hW : WO A M) {k : Int} (hk : rg k) (h : kIn k 0 (sN (jS A) - 1) = 0) : Ct l yX6_thresholdAt cX6_thresholdAt 2 (some .int) rmX6_thresholdAt [.ref 0, iv k] M (fun u M8 => u = some (iv (w32 (sT (jS A) k))) ∧ WO (A) M8) := by
  obtain ⟨S, cnt, nx, σ, P0, P1, sv⟩ := A
  obtain ⟨kn, nk, sz, tx, c0, r0, m0, ct, B, F, Z, Br, Q, Fo, No, Ho, Mo, In, Sn, Qn, S2, c1, r1, m1, ct1, B1, F1, Z1, Br1, Q1, Fo1, No1, sd, rt, lf, wy, gb, rfl, h9, hr, hz⟩ := hW
  obtain ⟨hS, hc, hx9, hG, hP0, hP1, hsv⟩ := hA
  refine Ct.mono (Ct.up (av2 := [.ref 0, iv k]) (M := (oW kn nk sz tx S (ringP 7) cnt nx σ (slotP 95) sv c0 r0 m0 ct B F Z Br Q Fo No Ho Mo In Sn Qn S2 c1 r1 m1 ct1 B1 F1 Z1 Br1 Q1 Fo1 No1 sd rt lf wy gb P0 P1)) (M2 := obC kn nk :: stS 1 S) πOT 5 rfl rfl (by decide) (fun _ _ h => by first | (rw [h.2]; done) | (rw [h.2]; rfl)) (c_thresholdAt hS h hk)) ?_
  rintro _ _ ⟨v2, M2, rfl, ⟨rfl, hp⟩, rfl⟩
  subst hp
  exact ⟨congrArg some (iv_w _), kn, nk, sz, tx, c0, r0, m0, ct, B, F, Z, Br, Q, Fo, No, Ho, Mo, In, Sn, Qn, S2, c1, r1, m1, ct1, B1, F1, Z1, Br1, Q1, Fo1, No1, sd, rt, lf, wy, gb, rfl, h9, hr, hz⟩
theorem KX_thresholdAt (hl : l.stackTraces = false) (hA : VA A) (hW : WO A M) {k : Int} (hk : rg k) (h : kIn k 0 (sN (jS A) - 1) = 1) : CtX l yX6_thresholdAt cX6_thresholdAt 2 (some .int) rxthresholdAt [.ref 0, iv k] M nIO (WO A) := by
  obtain ⟨S, cnt, nx, σ, P0, P1, sv⟩ := A
  obtain ⟨kn, nk, sz, tx, c0, r0, m0, ct, B, F, Z, Br, Q, Fo, No, Ho, Mo, In, Sn, Qn, S2, c1, r1, m1, ct1, B1, F1, Z1, Br1, Q1, Fo1, No1, sd, rt, lf, wy, gb, rfl, h9, hr, hz⟩ := hW
  obtain ⟨hS, hc, hx9, hG, hP0, hP1, hsv⟩ := hA
  refine CtX.mono (CtX.up (av2 := [.ref 0, iv k]) (M := (oW kn nk sz tx S (ringP 7) cnt nx σ (slotP 95) sv c0 r0 m0 ct B F Z Br Q Fo No Ho Mo In Sn Qn S2 c1 r1 m1 ct1 B1 F1 Z1 Br1 Q1 Fo1 No1 sd rt lf wy gb P0 P1)) (M2 := obC kn nk :: stS 1 S) πOT 5 rfl rfl (by decide) (fun _ h => by first | (rw [h]; done) | (rw [h]; rfl)) (cx_thresholdAt hl hS (by rw [h]; decide) hk)) ?_
  rintro _ ⟨M2, hp, rfl⟩
  subst hp
  exact ⟨kn, nk, sz, tx, c0, r0, m0, ct, B, F, Z, Br, Q, Fo, No, Ho, Mo, In, Sn, Qn, S2, c1, r1, m1, ct1, B1, F1, Z1, Br1, Q1, Fo1, No1, sd, rt, lf, wy, gb, rfl, h9, hr, hz⟩
theorem KN_island (hA : VA A) (hW : WO A M) {i w : Int} (hi : rg i) (hw : rg w) (h : kIsle (jS A) i w 8 = 0) : Ct l yX6_island cX6_island 4 (some .int) rmX6_island [.ref 0, iv i, iv w] M (fun u M8 => u = some (iv (w32 (aIsland (jS A) i w))) ∧ WO (A) M8) := by
  obtain ⟨S, cnt, nx, σ, P0, P1, sv⟩ := A
  obtain ⟨kn, nk, sz, tx, c0, r0, m0, ct, B, F, Z, Br, Q, Fo, No, Ho, Mo, In, Sn, Qn, S2, c1, r1, m1, ct1, B1, F1, Z1, Br1, Q1, Fo1, No1, sd, rt, lf, wy, gb, rfl, h9, hr, hz⟩ := hW
  obtain ⟨hS, hc, hx9, hG, hP0, hP1, hsv⟩ := hA
  refine Ct.mono (Ct.up (av2 := [.ref 0, iv i, iv w]) (M := (oW kn nk sz tx S (ringP 7) cnt nx σ (slotP 95) sv c0 r0 m0 ct B F Z Br Q Fo No Ho Mo In Sn Qn S2 c1 r1 m1 ct1 B1 F1 Z1 Br1 Q1 Fo1 No1 sd rt lf wy gb P0 P1)) (M2 := clB S kn nk c0 r0 m0 ct B F Z Br Q Fo No Ho Mo In Sn Qn) πOB 19 rfl rfl (by decide) (fun _ _ h => RB_len h.2) (c_island hS h9 h hi hw)) ?_
  rintro _ _ ⟨v2, M2, rfl, ⟨rfl, hp⟩, rfl⟩
  obtain ⟨kn', nk', c0', r0', m0', ct', B', F', Z', Br', Q', Fo', No', Ho', Mo', In', Sn', Qn', rfl, h9'⟩ := hp
  exact ⟨congrArg some (iv_w _), (kn'), (nk'), sz, tx, (c0'), (r0'), (m0'), (ct'), (B'), (F'), (Z'), (Br'), (Q'), (Fo'), (No'), (Ho'), (Mo'), (In'), (Sn'), (Qn'), S2, c1, r1, m1, ct1, B1, F1, Z1, Br1, Q1, Fo1, No1, sd, rt, lf, wy, gb, rfl, h9', hr, hz⟩
theorem KX_island1 (hl : l.stackTraces = false) (hA : VA A) (hW : WO A M) {i w : Int} (hi : rg i) (hw : rg w) (h : kIsle (jS A) i w 8 = 1) : CtX l yX6_island cX6_island 4 (some .int) rxisland [.ref 0, iv i, iv w] M nIO (WO A) := by
  obtain ⟨S, cnt, nx, σ, P0, P1, sv⟩ := A
  obtain ⟨kn, nk, sz, tx, c0, r0, m0, ct, B, F, Z, Br, Q, Fo, No, Ho, Mo, In, Sn, Qn, S2, c1, r1, m1, ct1, B1, F1, Z1, Br1, Q1, Fo1, No1, sd, rt, lf, wy, gb, rfl, h9, hr, hz⟩ := hW
  obtain ⟨hS, hc, hx9, hG, hP0, hP1, hsv⟩ := hA
  refine CtX.mono (CtX.up (av2 := [.ref 0, iv i, iv w]) (M := (oW kn nk sz tx S (ringP 7) cnt nx σ (slotP 95) sv c0 r0 m0 ct B F Z Br Q Fo No Ho Mo In Sn Qn S2 c1 r1 m1 ct1 B1 F1 Z1 Br1 Q1 Fo1 No1 sd rt lf wy gb P0 P1)) (M2 := clB S kn nk c0 r0 m0 ct B F Z Br Q Fo No Ho Mo In Sn Qn) πOB 19 rfl rfl (by decide) (fun _ h => RB_len h) (cx_island1 hl hS h9 h hi)) ?_
  rintro _ ⟨M2, hp, rfl⟩
  obtain ⟨kn', nk', c0', r0', m0', ct', B', F', Z', Br', Q', Fo', No', Ho', Mo', In', Sn', Qn', rfl, h9'⟩ := hp
  exact ⟨(kn'), (nk'), sz, tx, (c0'), (r0'), (m0'), (ct'), (B'), (F'), (Z'), (Br'), (Q'), (Fo'), (No'), (Ho'), (Mo'), (In'), (Sn'), (Qn'), S2, c1, r1, m1, ct1, B1, F1, Z1, Br1, Q1, Fo1, No1, sd, rt, lf, wy, gb, rfl, h9', hr, hz⟩
theorem KX_island2 (hl : l.stackTraces = false) (hA : VA A) (hW : WO A M) {i w : Int} (hi : rg i) (hw : rg w) (h : kIsle (jS A) i w 8 = 2) : CtX l yX6_island cX6_island 4 (some .int) rxisland [.ref 0, iv i, iv w] M nIA (WO A) := by
  obtain ⟨S, cnt, nx, σ, P0, P1, sv⟩ := A
  obtain ⟨kn, nk, sz, tx, c0, r0, m0, ct, B, F, Z, Br, Q, Fo, No, Ho, Mo, In, Sn, Qn, S2, c1, r1, m1, ct1, B1, F1, Z1, Br1, Q1, Fo1, No1, sd, rt, lf, wy, gb, rfl, h9, hr, hz⟩ := hW
  obtain ⟨hS, hc, hx9, hG, hP0, hP1, hsv⟩ := hA
  refine CtX.mono (CtX.up (av2 := [.ref 0, iv i, iv w]) (M := (oW kn nk sz tx S (ringP 7) cnt nx σ (slotP 95) sv c0 r0 m0 ct B F Z Br Q Fo No Ho Mo In Sn Qn S2 c1 r1 m1 ct1 B1 F1 Z1 Br1 Q1 Fo1 No1 sd rt lf wy gb P0 P1)) (M2 := clB S kn nk c0 r0 m0 ct B F Z Br Q Fo No Ho Mo In Sn Qn) πOB 19 rfl rfl (by decide) (fun _ h => RB_len h) (cx_island2 hl hS h9 h hi hw)) ?_
  rintro _ ⟨M2, hp, rfl⟩
  obtain ⟨kn', nk', c0', r0', m0', ct', B', F', Z', Br', Q', Fo', No', Ho', Mo', In', Sn', Qn', rfl, h9'⟩ := hp
  exact ⟨(kn'), (nk'), sz, tx, (c0'), (r0'), (m0'), (ct'), (B'), (F'), (Z'), (Br'), (Q'), (Fo'), (No'), (Ho'), (Mo'), (In'), (Sn'), (Qn'), S2, c1, r1, m1, ct1, B1, F1, Z1, Br1, Q1, Fo1, No1, sd, rt, lf, wy, gb, rfl, h9', hr, hz⟩
theorem KN_border (hA : VA A) (hW : WO A M) {i j : Int} (hi : rg i) (hj : rg j) (h : kBor (jS A) i j = 0) : Ct l yX6_border cX6_border 4 (some .int) rmX6_border [.ref 0, iv i, iv j] M (fun u M8 => u = some (iv (w32 (brd (sC (jS A)) (sR (jS A)) (bS (jS A)) (fS (jS A) i) (fS (jS A) j)))) ∧ WO (A) M8) := by
  obtain ⟨S, cnt, nx, σ, P0, P1, sv⟩ := A
  obtain ⟨kn, nk, sz, tx, c0, r0, m0, ct, B, F, Z, Br, Q, Fo, No, Ho, Mo, In, Sn, Qn, S2, c1, r1, m1, ct1, B1, F1, Z1, Br1, Q1, Fo1, No1, sd, rt, lf, wy, gb, rfl, h9, hr, hz⟩ := hW
  obtain ⟨hS, hc, hx9, hG, hP0, hP1, hsv⟩ := hA
  refine Ct.mono (Ct.up (av2 := [.ref 0, iv i, iv j]) (M := (oW kn nk sz tx S (ringP 7) cnt nx σ (slotP 95) sv c0 r0 m0 ct B F Z Br Q Fo No Ho Mo In Sn Qn S2 c1 r1 m1 ct1 B1 F1 Z1 Br1 Q1 Fo1 No1 sd rt lf wy gb P0 P1)) (M2 := clB S kn nk c0 r0 m0 ct B F Z Br Q Fo No Ho Mo In Sn Qn) πOB 19 rfl rfl (by decide) (fun _ _ h => RB_len h.2) (c_border hS h9 h hi hj)) ?_
  rintro _ _ ⟨v2, M2, rfl, ⟨rfl, hp⟩, rfl⟩
  obtain ⟨kn', nk', c0', r0', m0', ct', B', F', Z', Br', Q', Fo', No', Ho', Mo', In', Sn', Qn', rfl, h9'⟩ := hp
  exact ⟨congrArg some (iv_w _), (kn'), (nk'), sz, tx, (c0'), (r0'), (m0'), (ct'), (B'), (F'), (Z'), (Br'), (Q'), (Fo'), (No'), (Ho'), (Mo'), (In'), (Sn'), (Qn'), S2, c1, r1, m1, ct1, B1, F1, Z1, Br1, Q1, Fo1, No1, sd, rt, lf, wy, gb, rfl, h9', hr, hz⟩
theorem KX_border (hl : l.stackTraces = false) (hA : VA A) (hW : WO A M) {i j : Int} (hi : rg i) (hj : rg j) (h : kBor (jS A) i j = 1) : CtX l yX6_border cX6_border 4 (some .int) rxborder [.ref 0, iv i, iv j] M nIO (WO A) := by
  obtain ⟨S, cnt, nx, σ, P0, P1, sv⟩ := A
  obtain ⟨kn, nk, sz, tx, c0, r0, m0, ct, B, F, Z, Br, Q, Fo, No, Ho, Mo, In, Sn, Qn, S2, c1, r1, m1, ct1, B1, F1, Z1, Br1, Q1, Fo1, No1, sd, rt, lf, wy, gb, rfl, h9, hr, hz⟩ := hW
  obtain ⟨hS, hc, hx9, hG, hP0, hP1, hsv⟩ := hA
  refine CtX.mono (CtX.up (av2 := [.ref 0, iv i, iv j]) (M := (oW kn nk sz tx S (ringP 7) cnt nx σ (slotP 95) sv c0 r0 m0 ct B F Z Br Q Fo No Ho Mo In Sn Qn S2 c1 r1 m1 ct1 B1 F1 Z1 Br1 Q1 Fo1 No1 sd rt lf wy gb P0 P1)) (M2 := clB S kn nk c0 r0 m0 ct B F Z Br Q Fo No Ho Mo In Sn Qn) πOB 19 rfl rfl (by decide) (fun _ h => RB_len h) (cx_border hl hS h9 (by rw [h]; decide) hi hj)) ?_
  rintro _ ⟨M2, hp, rfl⟩
  obtain ⟨kn', nk', c0', r0', m0', ct', B', F', Z', Br', Q', Fo', No', Ho', Mo', In', Sn', Qn', rfl, h9'⟩ := hp
  exact ⟨(kn'), (nk'), sz, tx, (c0'), (r0'), (m0'), (ct'), (B'), (F'), (Z'), (Br'), (Q'), (Fo'), (No'), (Ho'), (Mo'), (In'), (Sn'), (Qn'), S2, c1, r1, m1, ct1, B1, F1, Z1, Br1, Q1, Fo1, No1, sd, rt, lf, wy, gb, rfl, h9', hr, hz⟩
theorem KN_outline (hA : VA A) (hW : WO A M) {i w : Int} (hi : rg i) (hw : rg w) (h : kIsle (jS A) i w 2 = 0) : Ct l yX6_outline cX6_outline 4 (some .int) rmX6_outline [.ref 0, iv i, iv w] M (fun u M8 => u = some (iv (w32 (aOutline (jS A) i w))) ∧ WO (A) M8) := by
  obtain ⟨S, cnt, nx, σ, P0, P1, sv⟩ := A
  obtain ⟨kn, nk, sz, tx, c0, r0, m0, ct, B, F, Z, Br, Q, Fo, No, Ho, Mo, In, Sn, Qn, S2, c1, r1, m1, ct1, B1, F1, Z1, Br1, Q1, Fo1, No1, sd, rt, lf, wy, gb, rfl, h9, hr, hz⟩ := hW
  obtain ⟨hS, hc, hx9, hG, hP0, hP1, hsv⟩ := hA
  refine Ct.mono (Ct.up (av2 := [.ref 0, iv i, iv w]) (M := (oW kn nk sz tx S (ringP 7) cnt nx σ (slotP 95) sv c0 r0 m0 ct B F Z Br Q Fo No Ho Mo In Sn Qn S2 c1 r1 m1 ct1 B1 F1 Z1 Br1 Q1 Fo1 No1 sd rt lf wy gb P0 P1)) (M2 := clC S kn nk c0 r0 m0 ct B F Z Br Q Fo No Ho Mo In Sn Qn sd rt lf wy) πOC 20 rfl rfl (by decide) (fun _ _ h => RC_len h.2) (c_outline hS h9 h hi hw)) ?_
  rintro _ _ ⟨v2, M2, rfl, ⟨rfl, hp⟩, rfl⟩
  obtain ⟨kn', nk', c0', r0', m0', ct', B', F', Z', Br', Q', Fo', No', Ho', Mo', In', Sn', Qn', sd', rt', lf', wy', rfl, h9'⟩ := hp
  exact ⟨congrArg some (iv_w _), (kn'), (nk'), sz, tx, (c0'), (r0'), (m0'), (ct'), (B'), (F'), (Z'), (Br'), (Q'), (Fo'), (No'), (Ho'), (Mo'), (In'), (Sn'), (Qn'), S2, c1, r1, m1, ct1, B1, F1, Z1, Br1, Q1, Fo1, No1, (sd'), (rt'), (lf'), (wy'), gb, rfl, h9', hr, hz⟩
theorem KX_outline1 (hl : l.stackTraces = false) (hA : VA A) (hW : WO A M) {i w : Int} (hi : rg i) (hw : rg w) (h : kIsle (jS A) i w 2 = 1) : CtX l yX6_outline cX6_outline 4 (some .int) rxoutline [.ref 0, iv i, iv w] M nIO (WO A) := by
  obtain ⟨S, cnt, nx, σ, P0, P1, sv⟩ := A
  obtain ⟨kn, nk, sz, tx, c0, r0, m0, ct, B, F, Z, Br, Q, Fo, No, Ho, Mo, In, Sn, Qn, S2, c1, r1, m1, ct1, B1, F1, Z1, Br1, Q1, Fo1, No1, sd, rt, lf, wy, gb, rfl, h9, hr, hz⟩ := hW
  obtain ⟨hS, hc, hx9, hG, hP0, hP1, hsv⟩ := hA
  refine CtX.mono (CtX.up (av2 := [.ref 0, iv i, iv w]) (M := (oW kn nk sz tx S (ringP 7) cnt nx σ (slotP 95) sv c0 r0 m0 ct B F Z Br Q Fo No Ho Mo In Sn Qn S2 c1 r1 m1 ct1 B1 F1 Z1 Br1 Q1 Fo1 No1 sd rt lf wy gb P0 P1)) (M2 := clC S kn nk c0 r0 m0 ct B F Z Br Q Fo No Ho Mo In Sn Qn sd rt lf wy) πOC 20 rfl rfl (by decide) (fun _ h => RC_len h) (cx_outline1 hl hS h9 h hi)) ?_
  rintro _ ⟨M2, hp, rfl⟩
  obtain ⟨kn', nk', c0', r0', m0', ct', B', F', Z', Br', Q', Fo', No', Ho', Mo', In', Sn', Qn', sd', rt', lf', wy', rfl, h9'⟩ := hp
  exact ⟨(kn'), (nk'), sz, tx, (c0'), (r0'), (m0'), (ct'), (B'), (F'), (Z'), (Br'), (Q'), (Fo'), (No'), (Ho'), (Mo'), (In'), (Sn'), (Qn'), S2, c1, r1, m1, ct1, B1, F1, Z1, Br1, Q1, Fo1, No1, (sd'), (rt'), (lf'), (wy'), gb, rfl, h9', hr, hz⟩
theorem KX_outline2 (hl : l.stackTraces = false) (hA : VA A) (hW : WO A M) {i w : Int} (hi : rg i) (hw : rg w) (h : kIsle (jS A) i w 2 = 2) : CtX l yX6_outline cX6_outline 4 (some .int) rxoutline [.ref 0, iv i, iv w] M nIA (WO A) := by
  obtain ⟨S, cnt, nx, σ, P0, P1, sv⟩ := A
  obtain ⟨kn, nk, sz, tx, c0, r0, m0, ct, B, F, Z, Br, Q, Fo, No, Ho, Mo, In, Sn, Qn, S2, c1, r1, m1, ct1, B1, F1, Z1, Br1, Q1, Fo1, No1, sd, rt, lf, wy, gb, rfl, h9, hr, hz⟩ := hW
  obtain ⟨hS, hc, hx9, hG, hP0, hP1, hsv⟩ := hA
  refine CtX.mono (CtX.up (av2 := [.ref 0, iv i, iv w]) (M := (oW kn nk sz tx S (ringP 7) cnt nx σ (slotP 95) sv c0 r0 m0 ct B F Z Br Q Fo No Ho Mo In Sn Qn S2 c1 r1 m1 ct1 B1 F1 Z1 Br1 Q1 Fo1 No1 sd rt lf wy gb P0 P1)) (M2 := clC S kn nk c0 r0 m0 ct B F Z Br Q Fo No Ho Mo In Sn Qn sd rt lf wy) πOC 20 rfl rfl (by decide) (fun _ h => RC_len h) (cx_outline2 hl hS h9 h hi hw)) ?_
  rintro _ ⟨M2, hp, rfl⟩
  obtain ⟨kn', nk', c0', r0', m0', ct', B', F', Z', Br', Q', Fo', No', Ho', Mo', In', Sn', Qn', sd', rt', lf', wy', rfl, h9'⟩ := hp
  exact ⟨(kn'), (nk'), sz, tx, (c0'), (r0'), (m0'), (ct'), (B'), (F'), (Z'), (Br'), (Q'), (Fo'), (No'), (Ho'), (Mo'), (In'), (Sn'), (Qn'), S2, c1, r1, m1, ct1, B1, F1, Z1, Br1, Q1, Fo1, No1, (sd'), (rt'), (lf'), (wy'), gb, rfl, h9', hr, hz⟩
theorem KN_outlineWay (hA : VA A) (hW : WO A M) {i k : Int} (hi : rg i) (hk : rg k) (h : kWay (jS A) i k = 0) : Ct l yX6_outlineWay cX6_outlineWay 4 (some .int) rmX6_outlineWay [.ref 0, iv i, iv k] M (fun u M8 => u = some (iv (w32 (wS1 (jS A) i k))) ∧ WO (A) M8) := by
  obtain ⟨S, cnt, nx, σ, P0, P1, sv⟩ := A
  obtain ⟨kn, nk, sz, tx, c0, r0, m0, ct, B, F, Z, Br, Q, Fo, No, Ho, Mo, In, Sn, Qn, S2, c1, r1, m1, ct1, B1, F1, Z1, Br1, Q1, Fo1, No1, sd, rt, lf, wy, gb, rfl, h9, hr, hz⟩ := hW
  obtain ⟨hS, hc, hx9, hG, hP0, hP1, hsv⟩ := hA
  refine Ct.mono (Ct.up (av2 := [.ref 0, iv i, iv k]) (M := (oW kn nk sz tx S (ringP 7) cnt nx σ (slotP 95) sv c0 r0 m0 ct B F Z Br Q Fo No Ho Mo In Sn Qn S2 c1 r1 m1 ct1 B1 F1 Z1 Br1 Q1 Fo1 No1 sd rt lf wy gb P0 P1)) (M2 := clC S kn nk c0 r0 m0 ct B F Z Br Q Fo No Ho Mo In Sn Qn sd rt lf wy) πOC 20 rfl rfl (by decide) (fun _ _ h => RC_len h.2) (c_outlineWay hS h9 h hi hk)) ?_
  rintro _ _ ⟨v2, M2, rfl, ⟨rfl, hp⟩, rfl⟩
  obtain ⟨kn', nk', c0', r0', m0', ct', B', F', Z', Br', Q', Fo', No', Ho', Mo', In', Sn', Qn', sd', rt', lf', wy', rfl, h9'⟩ := hp
  exact ⟨congrArg some (iv_w _), (kn'), (nk'), sz, tx, (c0'), (r0'), (m0'), (ct'), (B'), (F'), (Z'), (Br'), (Q'), (Fo'), (No'), (Ho'), (Mo'), (In'), (Sn'), (Qn'), S2, c1, r1, m1, ct1, B1, F1, Z1, Br1, Q1, Fo1, No1, (sd'), (rt'), (lf'), (wy'), gb, rfl, h9', hr, hz⟩
theorem KX_outlineWay (hl : l.stackTraces = false) (hA : VA A) (hW : WO A M) {i k : Int} (hi : rg i) (hk : rg k) (h : kWay (jS A) i k = 1) : CtX l yX6_outlineWay cX6_outlineWay 4 (some .int) rxoutlineWay [.ref 0, iv i, iv k] M nIO (WO A) := by
  obtain ⟨S, cnt, nx, σ, P0, P1, sv⟩ := A
  obtain ⟨kn, nk, sz, tx, c0, r0, m0, ct, B, F, Z, Br, Q, Fo, No, Ho, Mo, In, Sn, Qn, S2, c1, r1, m1, ct1, B1, F1, Z1, Br1, Q1, Fo1, No1, sd, rt, lf, wy, gb, rfl, h9, hr, hz⟩ := hW
  obtain ⟨hS, hc, hx9, hG, hP0, hP1, hsv⟩ := hA
  refine CtX.mono (CtX.up (av2 := [.ref 0, iv i, iv k]) (M := (oW kn nk sz tx S (ringP 7) cnt nx σ (slotP 95) sv c0 r0 m0 ct B F Z Br Q Fo No Ho Mo In Sn Qn S2 c1 r1 m1 ct1 B1 F1 Z1 Br1 Q1 Fo1 No1 sd rt lf wy gb P0 P1)) (M2 := clC S kn nk c0 r0 m0 ct B F Z Br Q Fo No Ho Mo In Sn Qn sd rt lf wy) πOC 20 rfl rfl (by decide) (fun _ h => RC_len h) (cx_outlineWay hl hS h9 (by rw [h]; decide) hi hk)) ?_
  rintro _ ⟨M2, hp, rfl⟩
  obtain ⟨kn', nk', c0', r0', m0', ct', B', F', Z', Br', Q', Fo', No', Ho', Mo', In', Sn', Qn', sd', rt', lf', wy', rfl, h9'⟩ := hp
  exact ⟨(kn'), (nk'), sz, tx, (c0'), (r0'), (m0'), (ct'), (B'), (F'), (Z'), (Br'), (Q'), (Fo'), (No'), (Ho'), (Mo'), (In'), (Sn'), (Qn'), S2, c1, r1, m1, ct1, B1, F1, Z1, Br1, Q1, Fo1, No1, (sd'), (rt'), (lf'), (wy'), gb, rfl, h9', hr, hz⟩
theorem KN_band (hA : VA A) (hW : WO A M) {x w : Int} (hx : rg x) (hw : rg w) (h : kBand (jS A) x w = 0) : Ct l yX6_band cX6_band 3 (some .int) rmX6_band [.ref 0, iv x, iv w] M (fun u M8 => u = some (iv (w32 (aBand (jS A) x w))) ∧ WO (A) M8) := by
  obtain ⟨S, cnt, nx, σ, P0, P1, sv⟩ := A
  obtain ⟨kn, nk, sz, tx, c0, r0, m0, ct, B, F, Z, Br, Q, Fo, No, Ho, Mo, In, Sn, Qn, S2, c1, r1, m1, ct1, B1, F1, Z1, Br1, Q1, Fo1, No1, sd, rt, lf, wy, gb, rfl, h9, hr, hz⟩ := hW
  obtain ⟨hS, hc, hx9, hG, hP0, hP1, hsv⟩ := hA
  refine Ct.mono (Ct.up (av2 := [.ref 0, iv x, iv w]) (M := (oW kn nk sz tx S (ringP 7) cnt nx σ (slotP 95) sv c0 r0 m0 ct B F Z Br Q Fo No Ho Mo In Sn Qn S2 c1 r1 m1 ct1 B1 F1 Z1 Br1 Q1 Fo1 No1 sd rt lf wy gb P0 P1)) (M2 := clB S kn nk c0 r0 m0 ct B F Z Br Q Fo No Ho Mo In Sn Qn) πOB 19 rfl rfl (by decide) (fun _ _ h => RB_len h.2) (c_band hS h9 h hx hw)) ?_
  rintro _ _ ⟨v2, M2, rfl, ⟨rfl, hp⟩, rfl⟩
  obtain ⟨kn', nk', c0', r0', m0', ct', B', F', Z', Br', Q', Fo', No', Ho', Mo', In', Sn', Qn', rfl, h9'⟩ := hp
  exact ⟨congrArg some (iv_w _), (kn'), (nk'), sz, tx, (c0'), (r0'), (m0'), (ct'), (B'), (F'), (Z'), (Br'), (Q'), (Fo'), (No'), (Ho'), (Mo'), (In'), (Sn'), (Qn'), S2, c1, r1, m1, ct1, B1, F1, Z1, Br1, Q1, Fo1, No1, sd, rt, lf, wy, gb, rfl, h9', hr, hz⟩
theorem KX_band1 (hl : l.stackTraces = false) (hA : VA A) (hW : WO A M) {x w : Int} (hx : rg x) (hw : rg w) (h : kBand (jS A) x w = 1) : CtX l yX6_band cX6_band 3 (some .int) rxband [.ref 0, iv x, iv w] M nIO (WO A) := by
  obtain ⟨S, cnt, nx, σ, P0, P1, sv⟩ := A
  obtain ⟨kn, nk, sz, tx, c0, r0, m0, ct, B, F, Z, Br, Q, Fo, No, Ho, Mo, In, Sn, Qn, S2, c1, r1, m1, ct1, B1, F1, Z1, Br1, Q1, Fo1, No1, sd, rt, lf, wy, gb, rfl, h9, hr, hz⟩ := hW
  obtain ⟨hS, hc, hx9, hG, hP0, hP1, hsv⟩ := hA
  refine CtX.mono (CtX.up (av2 := [.ref 0, iv x, iv w]) (M := (oW kn nk sz tx S (ringP 7) cnt nx σ (slotP 95) sv c0 r0 m0 ct B F Z Br Q Fo No Ho Mo In Sn Qn S2 c1 r1 m1 ct1 B1 F1 Z1 Br1 Q1 Fo1 No1 sd rt lf wy gb P0 P1)) (M2 := clB S kn nk c0 r0 m0 ct B F Z Br Q Fo No Ho Mo In Sn Qn) πOB 19 rfl rfl (by decide) (fun _ h => by first | (rw [h]; done) | (rw [h]; rfl)) (cx_band1 hl hS h hx)) ?_
  rintro _ ⟨M2, hp, rfl⟩
  subst hp
  exact ⟨kn, nk, sz, tx, c0, r0, m0, ct, B, F, Z, Br, Q, Fo, No, Ho, Mo, In, Sn, Qn, S2, c1, r1, m1, ct1, B1, F1, Z1, Br1, Q1, Fo1, No1, sd, rt, lf, wy, gb, rfl, h9, hr, hz⟩
theorem KX_band2 (hl : l.stackTraces = false) (hA : VA A) (hW : WO A M) {x w : Int} (hx : rg x) (hw : rg w) (h : kBand (jS A) x w = 2) : CtX l yX6_band cX6_band 3 (some .int) rxband [.ref 0, iv x, iv w] M nIA (WO A) := by
  obtain ⟨S, cnt, nx, σ, P0, P1, sv⟩ := A
  obtain ⟨kn, nk, sz, tx, c0, r0, m0, ct, B, F, Z, Br, Q, Fo, No, Ho, Mo, In, Sn, Qn, S2, c1, r1, m1, ct1, B1, F1, Z1, Br1, Q1, Fo1, No1, sd, rt, lf, wy, gb, rfl, h9, hr, hz⟩ := hW
  obtain ⟨hS, hc, hx9, hG, hP0, hP1, hsv⟩ := hA
  refine CtX.mono (CtX.up (av2 := [.ref 0, iv x, iv w]) (M := (oW kn nk sz tx S (ringP 7) cnt nx σ (slotP 95) sv c0 r0 m0 ct B F Z Br Q Fo No Ho Mo In Sn Qn S2 c1 r1 m1 ct1 B1 F1 Z1 Br1 Q1 Fo1 No1 sd rt lf wy gb P0 P1)) (M2 := clB S kn nk c0 r0 m0 ct B F Z Br Q Fo No Ho Mo In Sn Qn) πOB 19 rfl rfl (by decide) (fun _ h => by first | (rw [h]; done) | (rw [h]; rfl)) (cx_band2 hl hS h hx hw)) ?_
  rintro _ ⟨M2, hp, rfl⟩
  subst hp
  exact ⟨kn, nk, sz, tx, c0, r0, m0, ct, B, F, Z, Br, Q, Fo, No, Ho, Mo, In, Sn, Qn, S2, c1, r1, m1, ct1, B1, F1, Z1, Br1, Q1, Fo1, No1, sd, rt, lf, wy, gb, rfl, h9, hr, hz⟩
theorem KN_ifLeast (hA : VA A) (hW : WO A M) {v w : Int} (hv : rg v) (hw : rg w) (h : kIfL v w = 0) : Ct l yX6_ifLeast cX6_ifLeast 3 (some .int) rmX6_ifLeast [.ref 0, iv v, iv w] M (fun u M8 => u = some (iv (w32 (aIfL (jS A) v w))) ∧ WO (A) M8) := by
  obtain ⟨S, cnt, nx, σ, P0, P1, sv⟩ := A
  obtain ⟨kn, nk, sz, tx, c0, r0, m0, ct, B, F, Z, Br, Q, Fo, No, Ho, Mo, In, Sn, Qn, S2, c1, r1, m1, ct1, B1, F1, Z1, Br1, Q1, Fo1, No1, sd, rt, lf, wy, gb, rfl, h9, hr, hz⟩ := hW
  obtain ⟨hS, hc, hx9, hG, hP0, hP1, hsv⟩ := hA
  refine Ct.mono (Ct.up (av2 := [.ref 0, iv v, iv w]) (M := (oW kn nk sz tx S (ringP 7) cnt nx σ (slotP 95) sv c0 r0 m0 ct B F Z Br Q Fo No Ho Mo In Sn Qn S2 c1 r1 m1 ct1 B1 F1 Z1 Br1 Q1 Fo1 No1 sd rt lf wy gb P0 P1)) (M2 := clU kn nk S2 c1 r1 m1 ct1 B1 F1 Z1 Br1 Q1 Fo1 No1 gb S) πOU 18 rfl rfl (by decide) (fun _ _ h => RU_len h.2) (c_ifLeast hS hr h hv hw)) ?_
  rintro _ _ ⟨v2, M2, rfl, ⟨rfl, hp⟩, rfl⟩
  obtain ⟨S2', c1', r1', m1', ct1', B1', F1', Z1', Br1', Q1', Fo1', No1', gb', rfl, hr'⟩ := hp
  exact ⟨congrArg some (iv_w _), kn, nk, sz, tx, c0, r0, m0, ct, B, F, Z, Br, Q, Fo, No, Ho, Mo, In, Sn, Qn, (S2'), (c1'), (r1'), (m1'), (ct1'), (B1'), (F1'), (Z1'), (Br1'), (Q1'), (Fo1'), (No1'), sd, rt, lf, wy, (gb'), rfl, h9, hr', hz⟩
theorem KX_ifLeast (hl : l.stackTraces = false) (hA : VA A) (hW : WO A M) {v w : Int} (hv : rg v) (hw : rg w) (h : kIfL v w = 1) : CtX l yX6_ifLeast cX6_ifLeast 3 (some .int) rxifLeast [.ref 0, iv v, iv w] M nIA (WO A) := by
  obtain ⟨S, cnt, nx, σ, P0, P1, sv⟩ := A
  obtain ⟨kn, nk, sz, tx, c0, r0, m0, ct, B, F, Z, Br, Q, Fo, No, Ho, Mo, In, Sn, Qn, S2, c1, r1, m1, ct1, B1, F1, Z1, Br1, Q1, Fo1, No1, sd, rt, lf, wy, gb, rfl, h9, hr, hz⟩ := hW
  obtain ⟨hS, hc, hx9, hG, hP0, hP1, hsv⟩ := hA
  refine CtX.mono (CtX.up (av2 := [.ref 0, iv v, iv w]) (M := (oW kn nk sz tx S (ringP 7) cnt nx σ (slotP 95) sv c0 r0 m0 ct B F Z Br Q Fo No Ho Mo In Sn Qn S2 c1 r1 m1 ct1 B1 F1 Z1 Br1 Q1 Fo1 No1 sd rt lf wy gb P0 P1)) (M2 := clU kn nk S2 c1 r1 m1 ct1 B1 F1 Z1 Br1 Q1 Fo1 No1 gb S) πOU 18 rfl rfl (by decide) (fun _ h => by first | (rw [h]; done) | (rw [h]; rfl)) (cx_ifLeast hl (by rw [h]; decide) hv hw)) ?_
  rintro _ ⟨M2, hp, rfl⟩
  subst hp
  exact ⟨kn, nk, sz, tx, c0, r0, m0, ct, B, F, Z, Br, Q, Fo, No, Ho, Mo, In, Sn, Qn, S2, c1, r1, m1, ct1, B1, F1, Z1, Br1, Q1, Fo1, No1, sd, rt, lf, wy, gb, rfl, h9, hr, hz⟩
theorem KN_leastFor (hA : VA A) (hW : WO A M) {n : Int} (hn : rg n) (h : kIn n 1 144 = 0) : Ct l yX6_leastFor cX6_leastFor 3 (some .int) rmX6_leastFor [.ref 0, iv n] M (fun u M8 => u = some (iv (w32 (lfK (jS A) n 30 1))) ∧ WO (A) M8) := by
  obtain ⟨S, cnt, nx, σ, P0, P1, sv⟩ := A
  obtain ⟨kn, nk, sz, tx, c0, r0, m0, ct, B, F, Z, Br, Q, Fo, No, Ho, Mo, In, Sn, Qn, S2, c1, r1, m1, ct1, B1, F1, Z1, Br1, Q1, Fo1, No1, sd, rt, lf, wy, gb, rfl, h9, hr, hz⟩ := hW
  obtain ⟨hS, hc, hx9, hG, hP0, hP1, hsv⟩ := hA
  refine Ct.mono (Ct.up (av2 := [.ref 0, iv n]) (M := (oW kn nk sz tx S (ringP 7) cnt nx σ (slotP 95) sv c0 r0 m0 ct B F Z Br Q Fo No Ho Mo In Sn Qn S2 c1 r1 m1 ct1 B1 F1 Z1 Br1 Q1 Fo1 No1 sd rt lf wy gb P0 P1)) (M2 := clU kn nk S2 c1 r1 m1 ct1 B1 F1 Z1 Br1 Q1 Fo1 No1 gb S) πOU 18 rfl rfl (by decide) (fun _ _ h => RU_len h.2) (c_leastFor hS hr h hn)) ?_
  rintro _ _ ⟨v2, M2, rfl, ⟨rfl, hp⟩, rfl⟩
  obtain ⟨S2', c1', r1', m1', ct1', B1', F1', Z1', Br1', Q1', Fo1', No1', gb', rfl, hr'⟩ := hp
  exact ⟨congrArg some (iv_w _), kn, nk, sz, tx, c0, r0, m0, ct, B, F, Z, Br, Q, Fo, No, Ho, Mo, In, Sn, Qn, (S2'), (c1'), (r1'), (m1'), (ct1'), (B1'), (F1'), (Z1'), (Br1'), (Q1'), (Fo1'), (No1'), sd, rt, lf, wy, (gb'), rfl, h9, hr', hz⟩
theorem KX_leastFor (hl : l.stackTraces = false) (hA : VA A) (hW : WO A M) {n : Int} (hn : rg n) (h : kIn n 1 144 = 1) : CtX l yX6_leastFor cX6_leastFor 3 (some .int) rxleastFor [.ref 0, iv n] M nIA (WO A) := by
  obtain ⟨S, cnt, nx, σ, P0, P1, sv⟩ := A
  obtain ⟨kn, nk, sz, tx, c0, r0, m0, ct, B, F, Z, Br, Q, Fo, No, Ho, Mo, In, Sn, Qn, S2, c1, r1, m1, ct1, B1, F1, Z1, Br1, Q1, Fo1, No1, sd, rt, lf, wy, gb, rfl, h9, hr, hz⟩ := hW
  obtain ⟨hS, hc, hx9, hG, hP0, hP1, hsv⟩ := hA
  refine CtX.mono (CtX.up (av2 := [.ref 0, iv n]) (M := (oW kn nk sz tx S (ringP 7) cnt nx σ (slotP 95) sv c0 r0 m0 ct B F Z Br Q Fo No Ho Mo In Sn Qn S2 c1 r1 m1 ct1 B1 F1 Z1 Br1 Q1 Fo1 No1 sd rt lf wy gb P0 P1)) (M2 := clU kn nk S2 c1 r1 m1 ct1 B1 F1 Z1 Br1 Q1 Fo1 No1 gb S) πOU 18 rfl rfl (by decide) (fun _ h => by first | (rw [h]; done) | (rw [h]; rfl)) (cx_leastFor hl (by rw [h]; decide) hn)) ?_
  rintro _ ⟨M2, hp, rfl⟩
  subst hp
  exact ⟨kn, nk, sz, tx, c0, r0, m0, ct, B, F, Z, Br, Q, Fo, No, Ho, Mo, In, Sn, Qn, S2, c1, r1, m1, ct1, B1, F1, Z1, Br1, Q1, Fo1, No1, sd, rt, lf, wy, gb, rfl, h9, hr, hz⟩
theorem KN_bestMove (hA : VA A) (hW : WO A M) {k : Int} (hk : rg k) (h : kIn k 0 (sN (jS A) - 1) = 0) : Ct l yX6_bestMove cX6_bestMove 9 (some .int) rmX6_bestMove [.ref 0, iv k] M (fun u M8 => u = some (iv (w32 (aBest (jS A) k))) ∧ WO (A) M8) := by
  obtain ⟨S, cnt, nx, σ, P0, P1, sv⟩ := A
  obtain ⟨kn, nk, sz, tx, c0, r0, m0, ct, B, F, Z, Br, Q, Fo, No, Ho, Mo, In, Sn, Qn, S2, c1, r1, m1, ct1, B1, F1, Z1, Br1, Q1, Fo1, No1, sd, rt, lf, wy, gb, rfl, h9, hr, hz⟩ := hW
  obtain ⟨hS, hc, hx9, hG, hP0, hP1, hsv⟩ := hA
  refine Ct.mono (Ct.up (av2 := [.ref 0, iv k]) (M := (oW kn nk sz tx S (ringP 7) cnt nx σ (slotP 95) sv c0 r0 m0 ct B F Z Br Q Fo No Ho Mo In Sn Qn S2 c1 r1 m1 ct1 B1 F1 Z1 Br1 Q1 Fo1 No1 sd rt lf wy gb P0 P1)) (M2 := clU kn nk S2 c1 r1 m1 ct1 B1 F1 Z1 Br1 Q1 Fo1 No1 gb S) πOU 18 rfl rfl (by decide) (fun _ _ h => RU_len h.2) (c_bestMove hS hr h hk)) ?_
  rintro _ _ ⟨v2, M2, rfl, ⟨rfl, hp⟩, rfl⟩
  obtain ⟨S2', c1', r1', m1', ct1', B1', F1', Z1', Br1', Q1', Fo1', No1', gb', rfl, hr'⟩ := hp
  exact ⟨congrArg some (iv_w _), kn, nk, sz, tx, c0, r0, m0, ct, B, F, Z, Br, Q, Fo, No, Ho, Mo, In, Sn, Qn, (S2'), (c1'), (r1'), (m1'), (ct1'), (B1'), (F1'), (Z1'), (Br1'), (Q1'), (Fo1'), (No1'), sd, rt, lf, wy, (gb'), rfl, h9, hr', hz⟩
theorem KX_bestMove (hl : l.stackTraces = false) (hA : VA A) (hW : WO A M) {k : Int} (hk : rg k) (h : kIn k 0 (sN (jS A) - 1) = 1) : CtX l yX6_bestMove cX6_bestMove 9 (some .int) rxbestMove [.ref 0, iv k] M nIO (WO A) := by
  obtain ⟨S, cnt, nx, σ, P0, P1, sv⟩ := A
  obtain ⟨kn, nk, sz, tx, c0, r0, m0, ct, B, F, Z, Br, Q, Fo, No, Ho, Mo, In, Sn, Qn, S2, c1, r1, m1, ct1, B1, F1, Z1, Br1, Q1, Fo1, No1, sd, rt, lf, wy, gb, rfl, h9, hr, hz⟩ := hW
  obtain ⟨hS, hc, hx9, hG, hP0, hP1, hsv⟩ := hA
  refine CtX.mono (CtX.up (av2 := [.ref 0, iv k]) (M := (oW kn nk sz tx S (ringP 7) cnt nx σ (slotP 95) sv c0 r0 m0 ct B F Z Br Q Fo No Ho Mo In Sn Qn S2 c1 r1 m1 ct1 B1 F1 Z1 Br1 Q1 Fo1 No1 sd rt lf wy gb P0 P1)) (M2 := clU kn nk S2 c1 r1 m1 ct1 B1 F1 Z1 Br1 Q1 Fo1 No1 gb S) πOU 18 rfl rfl (by decide) (fun _ h => by first | (rw [h]; done) | (rw [h]; rfl)) (cx_bestMove hl hS (by rw [h]; decide) hk)) ?_
  rintro _ ⟨M2, hp, rfl⟩
  subst hp
  exact ⟨kn, nk, sz, tx, c0, r0, m0, ct, B, F, Z, Br, Q, Fo, No, Ho, Mo, In, Sn, Qn, S2, c1, r1, m1, ct1, B1, F1, Z1, Br1, Q1, Fo1, No1, sd, rt, lf, wy, gb, rfl, h9, hr, hz⟩
theorem KN_ifCell (hA : VA A) (hW : WO A M) {x y g w : Int} (hx : rg x) (hy : rg y) (hg : rg g) (hw : rg w) (h : kIfC (jS A) x y g w = 0) : Ct l yX6_ifCell cX6_ifCell 5 (some .int) rmX6_ifCell [.ref 0, iv x, iv y, iv g, iv w] M (fun u M8 => u = some (iv (w32 (aIfC (jS A) (gP (jS A) x y g) x y w))) ∧ WO (A) M8) := by
  obtain ⟨S, cnt, nx, σ, P0, P1, sv⟩ := A
  obtain ⟨kn, nk, sz, tx, c0, r0, m0, ct, B, F, Z, Br, Q, Fo, No, Ho, Mo, In, Sn, Qn, S2, c1, r1, m1, ct1, B1, F1, Z1, Br1, Q1, Fo1, No1, sd, rt, lf, wy, gb, rfl, h9, hr, hz⟩ := hW
  obtain ⟨hS, hc, hx9, hG, hP0, hP1, hsv⟩ := hA
  refine Ct.mono (Ct.up (av2 := [.ref 0, iv x, iv y, iv g, iv w]) (M := (oW kn nk sz tx S (ringP 7) cnt nx σ (slotP 95) sv c0 r0 m0 ct B F Z Br Q Fo No Ho Mo In Sn Qn S2 c1 r1 m1 ct1 B1 F1 Z1 Br1 Q1 Fo1 No1 sd rt lf wy gb P0 P1)) (M2 := clD S kn nk c0 r0 m0 ct B F Z Br Q Fo No Ho Mo In Sn Qn sd rt lf wy S2 c1 r1 m1 ct1 B1 F1 Z1 Br1 Q1 Fo1 No1 gb) πOD 33 rfl rfl (by decide) (fun _ _ h => RD_len h.2) (c_ifCell hS h9 hr h hx hy hg hw)) ?_
  rintro _ _ ⟨v2, M2, rfl, ⟨rfl, hp⟩, rfl⟩
  obtain ⟨kn', nk', c0', r0', m0', ct', B', F', Z', Br', Q', Fo', No', Ho', Mo', In', Sn', Qn', sd', rt', lf', wy', S2', c1', r1', m1', ct1', B1', F1', Z1', Br1', Q1', Fo1', No1', gb', rfl, h9', hr'⟩ := hp
  exact ⟨congrArg some (iv_w _), (kn'), (nk'), sz, tx, (c0'), (r0'), (m0'), (ct'), (B'), (F'), (Z'), (Br'), (Q'), (Fo'), (No'), (Ho'), (Mo'), (In'), (Sn'), (Qn'), (S2'), (c1'), (r1'), (m1'), (ct1'), (B1'), (F1'), (Z1'), (Br1'), (Q1'), (Fo1'), (No1'), (sd'), (rt'), (lf'), (wy'), (gb'), rfl, h9', hr', hz⟩
theorem KX_ifCell1 (hl : l.stackTraces = false) (hA : VA A) (hW : WO A M) {x y g w : Int} (hx : rg x) (hy : rg y) (hg : rg g) (hw : rg w) (h : kIfC (jS A) x y g w = 1) : CtX l yX6_ifCell cX6_ifCell 5 (some .int) rxifCell [.ref 0, iv x, iv y, iv g, iv w] M nIO (WO A) := by
  obtain ⟨S, cnt, nx, σ, P0, P1, sv⟩ := A
  obtain ⟨kn, nk, sz, tx, c0, r0, m0, ct, B, F, Z, Br, Q, Fo, No, Ho, Mo, In, Sn, Qn, S2, c1, r1, m1, ct1, B1, F1, Z1, Br1, Q1, Fo1, No1, sd, rt, lf, wy, gb, rfl, h9, hr, hz⟩ := hW
  obtain ⟨hS, hc, hx9, hG, hP0, hP1, hsv⟩ := hA
  refine CtX.mono (CtX.up (av2 := [.ref 0, iv x, iv y, iv g, iv w]) (M := (oW kn nk sz tx S (ringP 7) cnt nx σ (slotP 95) sv c0 r0 m0 ct B F Z Br Q Fo No Ho Mo In Sn Qn S2 c1 r1 m1 ct1 B1 F1 Z1 Br1 Q1 Fo1 No1 sd rt lf wy gb P0 P1)) (M2 := clD S kn nk c0 r0 m0 ct B F Z Br Q Fo No Ho Mo In Sn Qn sd rt lf wy S2 c1 r1 m1 ct1 B1 F1 Z1 Br1 Q1 Fo1 No1 gb) πOD 33 rfl rfl (by decide) (fun _ h => by first | (rw [h]; done) | (rw [h]; rfl)) (cx_ifCell1 hl hS h hx hy)) ?_
  rintro _ ⟨M2, hp, rfl⟩
  subst hp
  exact ⟨kn, nk, sz, tx, c0, r0, m0, ct, B, F, Z, Br, Q, Fo, No, Ho, Mo, In, Sn, Qn, S2, c1, r1, m1, ct1, B1, F1, Z1, Br1, Q1, Fo1, No1, sd, rt, lf, wy, gb, rfl, h9, hr, hz⟩
theorem KX_ifCell2 (hl : l.stackTraces = false) (hA : VA A) (hW : WO A M) {x y g w : Int} (hx : rg x) (hy : rg y) (hg : rg g) (hw : rg w) (h : kIfC (jS A) x y g w = 2) : CtX l yX6_ifCell cX6_ifCell 5 (some .int) rxifCell [.ref 0, iv x, iv y, iv g, iv w] M nIA (WO A) := by
  obtain ⟨S, cnt, nx, σ, P0, P1, sv⟩ := A
  obtain ⟨kn, nk, sz, tx, c0, r0, m0, ct, B, F, Z, Br, Q, Fo, No, Ho, Mo, In, Sn, Qn, S2, c1, r1, m1, ct1, B1, F1, Z1, Br1, Q1, Fo1, No1, sd, rt, lf, wy, gb, rfl, h9, hr, hz⟩ := hW
  obtain ⟨hS, hc, hx9, hG, hP0, hP1, hsv⟩ := hA
  refine CtX.mono (CtX.up (av2 := [.ref 0, iv x, iv y, iv g, iv w]) (M := (oW kn nk sz tx S (ringP 7) cnt nx σ (slotP 95) sv c0 r0 m0 ct B F Z Br Q Fo No Ho Mo In Sn Qn S2 c1 r1 m1 ct1 B1 F1 Z1 Br1 Q1 Fo1 No1 sd rt lf wy gb P0 P1)) (M2 := clD S kn nk c0 r0 m0 ct B F Z Br Q Fo No Ho Mo In Sn Qn sd rt lf wy S2 c1 r1 m1 ct1 B1 F1 Z1 Br1 Q1 Fo1 No1 gb) πOD 33 rfl rfl (by decide) (fun _ h => by first | (rw [h]; done) | (rw [h]; rfl)) (cx_ifCell2 hl hS h hx hy hg hw)) ?_
  rintro _ ⟨M2, hp, rfl⟩
  subst hp
  exact ⟨kn, nk, sz, tx, c0, r0, m0, ct, B, F, Z, Br, Q, Fo, No, Ho, Mo, In, Sn, Qn, S2, c1, r1, m1, ct1, B1, F1, Z1, Br1, Q1, Fo1, No1, sd, rt, lf, wy, gb, rfl, h9, hr, hz⟩
theorem KN_runScript (hA : VA A) (hW : WO A M) {n x : Int} (hn : rg n) (hx : rgL x) (h : kRun n x = 0) : Ct l yX6_runScript cX6_runScript 9 (some .int) rmX6_runScript [.ref 0, iv n, jv x] M (fun u M8 => u = some (iv (w32 (aRun (jS A) n x))) ∧ WO (A) M8) := by
  obtain ⟨S, cnt, nx, σ, P0, P1, sv⟩ := A
  obtain ⟨kn, nk, sz, tx, c0, r0, m0, ct, B, F, Z, Br, Q, Fo, No, Ho, Mo, In, Sn, Qn, S2, c1, r1, m1, ct1, B1, F1, Z1, Br1, Q1, Fo1, No1, sd, rt, lf, wy, gb, rfl, h9, hr, hz⟩ := hW
  obtain ⟨hS, hc, hx9, hG, hP0, hP1, hsv⟩ := hA
  refine Ct.mono (Ct.up (av2 := [.ref 0, iv n, jv x]) (M := (oW kn nk sz tx S (ringP 7) cnt nx σ (slotP 95) sv c0 r0 m0 ct B F Z Br Q Fo No Ho Mo In Sn Qn S2 c1 r1 m1 ct1 B1 F1 Z1 Br1 Q1 Fo1 No1 sd rt lf wy gb P0 P1)) (M2 := clU kn nk S2 c1 r1 m1 ct1 B1 F1 Z1 Br1 Q1 Fo1 No1 gb S) πOU 18 rfl rfl (by decide) (fun _ _ h => RU_len h.2) (c_runScript hS hr h hn hx)) ?_
  rintro _ _ ⟨v2, M2, rfl, ⟨rfl, hp⟩, rfl⟩
  obtain ⟨S2', c1', r1', m1', ct1', B1', F1', Z1', Br1', Q1', Fo1', No1', gb', rfl, hr'⟩ := hp
  exact ⟨congrArg some (iv_w _), kn, nk, sz, tx, c0, r0, m0, ct, B, F, Z, Br, Q, Fo, No, Ho, Mo, In, Sn, Qn, (S2'), (c1'), (r1'), (m1'), (ct1'), (B1'), (F1'), (Z1'), (Br1'), (Q1'), (Fo1'), (No1'), sd, rt, lf, wy, (gb'), rfl, h9, hr', hz⟩
theorem KX_runScript (hl : l.stackTraces = false) (hA : VA A) (hW : WO A M) {n x : Int} (hn : rg n) (hx : rgL x) (h : kRun n x = 1) : CtX l yX6_runScript cX6_runScript 9 (some .int) rxrunScript [.ref 0, iv n, jv x] M nIA (WO A) := by
  obtain ⟨S, cnt, nx, σ, P0, P1, sv⟩ := A
  obtain ⟨kn, nk, sz, tx, c0, r0, m0, ct, B, F, Z, Br, Q, Fo, No, Ho, Mo, In, Sn, Qn, S2, c1, r1, m1, ct1, B1, F1, Z1, Br1, Q1, Fo1, No1, sd, rt, lf, wy, gb, rfl, h9, hr, hz⟩ := hW
  obtain ⟨hS, hc, hx9, hG, hP0, hP1, hsv⟩ := hA
  refine CtX.mono (CtX.up (av2 := [.ref 0, iv n, jv x]) (M := (oW kn nk sz tx S (ringP 7) cnt nx σ (slotP 95) sv c0 r0 m0 ct B F Z Br Q Fo No Ho Mo In Sn Qn S2 c1 r1 m1 ct1 B1 F1 Z1 Br1 Q1 Fo1 No1 sd rt lf wy gb P0 P1)) (M2 := clU kn nk S2 c1 r1 m1 ct1 B1 F1 Z1 Br1 Q1 Fo1 No1 gb S) πOU 18 rfl rfl (by decide) (fun _ h => by first | (rw [h]; done) | (rw [h]; rfl)) (cx_runScript hl (by rw [h]; decide) hn hx)) ?_
  rintro _ ⟨M2, hp, rfl⟩
  subst hp
  exact ⟨kn, nk, sz, tx, c0, r0, m0, ct, B, F, Z, Br, Q, Fo, No, Ho, Mo, In, Sn, Qn, S2, c1, r1, m1, ct1, B1, F1, Z1, Br1, Q1, Fo1, No1, sd, rt, lf, wy, gb, rfl, h9, hr, hz⟩
theorem KN_simulate (hA : VA A) (hW : WO A M) {x n : Int} (hn : rg n) (h : kIn n 1 60 = 0) : Ct l yX6_simulate cX6_simulate 7 (some .int) rmX6_simulate [.ref 0, jv x, iv n] M (fun u M8 => u = some (iv (w32 (aSim (siK (jS A) x n.toNat)))) ∧ WO (A) M8) := by
  obtain ⟨S, cnt, nx, σ, P0, P1, sv⟩ := A
  obtain ⟨kn, nk, sz, tx, c0, r0, m0, ct, B, F, Z, Br, Q, Fo, No, Ho, Mo, In, Sn, Qn, S2, c1, r1, m1, ct1, B1, F1, Z1, Br1, Q1, Fo1, No1, sd, rt, lf, wy, gb, rfl, h9, hr, hz⟩ := hW
  obtain ⟨hS, hc, hx9, hG, hP0, hP1, hsv⟩ := hA
  refine Ct.mono (Ct.up (av2 := [.ref 0, jv x, iv n]) (M := (oW kn nk sz tx S (ringP 7) cnt nx σ (slotP 95) sv c0 r0 m0 ct B F Z Br Q Fo No Ho Mo In Sn Qn S2 c1 r1 m1 ct1 B1 F1 Z1 Br1 Q1 Fo1 No1 sd rt lf wy gb P0 P1)) (M2 := clU kn nk S2 c1 r1 m1 ct1 B1 F1 Z1 Br1 Q1 Fo1 No1 gb S) πOU 18 rfl rfl (by decide) (fun _ _ h => RU_len h.2) (c_simulate hS hr h hn)) ?_
  rintro _ _ ⟨v2, M2, rfl, ⟨rfl, hp⟩, rfl⟩
  obtain ⟨S2', c1', r1', m1', ct1', B1', F1', Z1', Br1', Q1', Fo1', No1', gb', rfl, hr'⟩ := hp
  exact ⟨congrArg some (iv_w _), kn, nk, sz, tx, c0, r0, m0, ct, B, F, Z, Br, Q, Fo, No, Ho, Mo, In, Sn, Qn, (S2'), (c1'), (r1'), (m1'), (ct1'), (B1'), (F1'), (Z1'), (Br1'), (Q1'), (Fo1'), (No1'), sd, rt, lf, wy, (gb'), rfl, h9, hr', hz⟩
theorem KX_simulate (hl : l.stackTraces = false) (hA : VA A) (hW : WO A M) {x n : Int} (hn : rg n) (h : kIn n 1 60 = 1) : CtX l yX6_simulate cX6_simulate 7 (some .int) rxsimulate [.ref 0, jv x, iv n] M nIA (WO A) := by
  obtain ⟨S, cnt, nx, σ, P0, P1, sv⟩ := A
  obtain ⟨kn, nk, sz, tx, c0, r0, m0, ct, B, F, Z, Br, Q, Fo, No, Ho, Mo, In, Sn, Qn, S2, c1, r1, m1, ct1, B1, F1, Z1, Br1, Q1, Fo1, No1, sd, rt, lf, wy, gb, rfl, h9, hr, hz⟩ := hW
  obtain ⟨hS, hc, hx9, hG, hP0, hP1, hsv⟩ := hA
  refine CtX.mono (CtX.up (av2 := [.ref 0, jv x, iv n]) (M := (oW kn nk sz tx S (ringP 7) cnt nx σ (slotP 95) sv c0 r0 m0 ct B F Z Br Q Fo No Ho Mo In Sn Qn S2 c1 r1 m1 ct1 B1 F1 Z1 Br1 Q1 Fo1 No1 sd rt lf wy gb P0 P1)) (M2 := clU kn nk S2 c1 r1 m1 ct1 B1 F1 Z1 Br1 Q1 Fo1 No1 gb S) πOU 18 rfl rfl (by decide) (fun _ h => by first | (rw [h]; done) | (rw [h]; rfl)) (cx_simulate hl (by rw [h]; decide) hn)) ?_
  rintro _ ⟨M2, hp, rfl⟩
  subst hp
  exact ⟨kn, nk, sz, tx, c0, r0, m0, ct, B, F, Z, Br, Q, Fo, No, Ho, Mo, In, Sn, Qn, S2, c1, r1, m1, ct1, B1, F1, Z1, Br1, Q1, Fo1, No1, sd, rt, lf, wy, gb, rfl, h9, hr, hz⟩
end KU
