/-! THE CLASS over one object's whole world: actions. Printed by wip/p37/gen/mkob.py. -/
section KU2
variable {l : Launch} {A : Ob} {M : List va_E}
theorem KN_plate (hA : VA A) (hW : WO A M) {c r : Int} (h1 : rg c) (h2 : rg r) (h : kPlate c r = 0) : Ct l yX6_plate cX6_plate 3 (some .int) rmX6_plate [.ref 0, iv c, iv r] M (fun u M8 => u = some (iv (w32 (c * r))) ∧ WO (jAct A (stN (jS A) c r)) M8) := by
  obtain ⟨S, cnt, nx, σ, P0, P1, sv⟩ := A
  obtain ⟨kn, nk, sz, tx, c0, r0, m0, ct, B, F, Z, Br, Q, Fo, No, Ho, Mo, In, Sn, Qn, S2, c1, r1, m1, ct1, B1, F1, Z1, Br1, Q1, Fo1, No1, sd, rt, lf, wy, gb, rfl, h9, hr, hz⟩ := hW
  obtain ⟨hS, hc, hx9, hG, hP0, hP1, hsv⟩ := hA
  rw [← ringO]
  refine Ct.mono (Ct.up (av2 := [.ref 0, iv c, iv r]) (M := (oW kn nk sz tx S (fun i => (ringP 6 i).map (rn πOM)) cnt nx σ (slotP 95) sv c0 r0 m0 ct B F Z Br Q Fo No Ho Mo In Sn Qn S2 c1 r1 m1 ct1 B1 F1 Z1 Br1 Q1 Fo1 No1 sd rt lf wy gb P0 P1)) (M2 := clM (ringP 6) kn nk S gb cnt nx σ) πOM 64 rfl rfl (by decide) (fun _ _ h => by first | (rw [h.2]; done) | (rw [h.2]; rfl)) (c_aplate hS hc hx9 h h1 h2)) ?_
  rintro _ _ ⟨v2, M2, rfl, ⟨rfl, hp⟩, rfl⟩
  subst hp
  exact ⟨congrArg some (iv_w _), (0), (0), sz, tx, c0, r0, m0, ct, B, F, Z, Br, Q, Fo, No, Ho, Mo, In, Sn, Qn, S2, c1, r1, m1, ct1, B1, F1, Z1, Br1, Q1, Fo1, No1, sd, rt, lf, wy, gb, congrArg (fun f => (oW (0) (0) sz tx (stN S c r) (f) (min (cnt + 1) 14) ((nx + 1) % 14) (σP S nx σ) (slotP 95) (sv) c0 r0 m0 ct B F Z Br Q Fo No Ho Mo In Sn Qn S2 c1 r1 m1 ct1 B1 F1 Z1 Br1 Q1 Fo1 No1 sd rt lf wy gb (P0) (P1))) ringO, CN_z h9, hr, hz⟩
theorem KX_plate (hl : l.stackTraces = false) (hA : VA A) (hW : WO A M) {c r : Int} (h1 : rg c) (h2 : rg r) (h : kPlate c r = 1) : CtX l yX6_plate cX6_plate 3 (some .int) rxplate [.ref 0, iv c, iv r] M nIA (WO A) := by
  obtain ⟨S, cnt, nx, σ, P0, P1, sv⟩ := A
  obtain ⟨kn, nk, sz, tx, c0, r0, m0, ct, B, F, Z, Br, Q, Fo, No, Ho, Mo, In, Sn, Qn, S2, c1, r1, m1, ct1, B1, F1, Z1, Br1, Q1, Fo1, No1, sd, rt, lf, wy, gb, rfl, h9, hr, hz⟩ := hW
  obtain ⟨hS, hc, hx9, hG, hP0, hP1, hsv⟩ := hA
  rw [← ringO]
  refine CtX.mono (CtX.up (av2 := [.ref 0, iv c, iv r]) (M := (oW kn nk sz tx S (fun i => (ringP 6 i).map (rn πOM)) cnt nx σ (slotP 95) sv c0 r0 m0 ct B F Z Br Q Fo No Ho Mo In Sn Qn S2 c1 r1 m1 ct1 B1 F1 Z1 Br1 Q1 Fo1 No1 sd rt lf wy gb P0 P1)) (M2 := clM (ringP 6) kn nk S gb cnt nx σ) πOM 64 rfl rfl (by decide) (fun _ h => by first | (rw [h]; done) | (rw [h]; rfl)) (cx_plate hl (by rw [h]; decide) h1 h2)) ?_
  rintro _ ⟨M2, hp, rfl⟩
  subst hp
  exact ⟨kn, nk, sz, tx, c0, r0, m0, ct, B, F, Z, Br, Q, Fo, No, Ho, Mo, In, Sn, Qn, S2, c1, r1, m1, ct1, B1, F1, Z1, Br1, Q1, Fo1, No1, sd, rt, lf, wy, gb, congrArg (fun f => (oW kn nk sz tx S (f) cnt nx σ (slotP 95) sv c0 r0 m0 ct B F Z Br Q Fo No Ho Mo In Sn Qn S2 c1 r1 m1 ct1 B1 F1 Z1 Br1 Q1 Fo1 No1 sd rt lf wy gb P0 P1)) ringO, h9, hr, hz⟩
theorem KN_cell (hA : VA A) (hW : WO A M) {x y g : Int} (h1 : rg x) (h2 : rg y) (h3 : rg g) (h : kPut (jS A) x y g = 0) : Ct l yX6_cell cX6_cell 4 (some .int) rmX6_cell [.ref 0, iv x, iv y, iv g] M (fun u M8 => u = some (iv (w32 (sG (jS A) (y * sC (jS A) + x)))) ∧ WO (jAct A (gP (jS A) x y g)) M8) := by
  obtain ⟨S, cnt, nx, σ, P0, P1, sv⟩ := A
  obtain ⟨kn, nk, sz, tx, c0, r0, m0, ct, B, F, Z, Br, Q, Fo, No, Ho, Mo, In, Sn, Qn, S2, c1, r1, m1, ct1, B1, F1, Z1, Br1, Q1, Fo1, No1, sd, rt, lf, wy, gb, rfl, h9, hr, hz⟩ := hW
  obtain ⟨hS, hc, hx9, hG, hP0, hP1, hsv⟩ := hA
  rw [← ringO]
  refine Ct.mono (Ct.up (av2 := [.ref 0, iv x, iv y, iv g]) (M := (oW kn nk sz tx S (fun i => (ringP 6 i).map (rn πOM)) cnt nx σ (slotP 95) sv c0 r0 m0 ct B F Z Br Q Fo No Ho Mo In Sn Qn S2 c1 r1 m1 ct1 B1 F1 Z1 Br1 Q1 Fo1 No1 sd rt lf wy gb P0 P1)) (M2 := clM (ringP 6) kn nk S gb cnt nx σ) πOM 64 rfl rfl (by decide) (fun _ _ h => by first | (rw [h.2]; done) | (rw [h.2]; rfl)) (c_acell hS hc hx9 h h1 h2 h3)) ?_
  rintro _ _ ⟨v2, M2, rfl, ⟨rfl, hp⟩, rfl⟩
  subst hp
  exact ⟨congrArg some (iv_w _), (0), (0), sz, tx, c0, r0, m0, ct, B, F, Z, Br, Q, Fo, No, Ho, Mo, In, Sn, Qn, S2, c1, r1, m1, ct1, B1, F1, Z1, Br1, Q1, Fo1, No1, sd, rt, lf, wy, gb, congrArg (fun f => (oW (0) (0) sz tx (gP S x y g) (f) (min (cnt + 1) 14) ((nx + 1) % 14) (σP S nx σ) (slotP 95) (sv) c0 r0 m0 ct B F Z Br Q Fo No Ho Mo In Sn Qn S2 c1 r1 m1 ct1 B1 F1 Z1 Br1 Q1 Fo1 No1 sd rt lf wy gb (P0) (P1))) ringO, CN_z h9, hr, hz⟩
theorem KX_cell1 (hl : l.stackTraces = false) (hA : VA A) (hW : WO A M) {x y g : Int} (h1 : rg x) (h2 : rg y) (h3 : rg g) (h : kPut (jS A) x y g = 1) : CtX l yX6_cell cX6_cell 4 (some .int) rxcell [.ref 0, iv x, iv y, iv g] M nIO (WO A) := by
  obtain ⟨S, cnt, nx, σ, P0, P1, sv⟩ := A
  obtain ⟨kn, nk, sz, tx, c0, r0, m0, ct, B, F, Z, Br, Q, Fo, No, Ho, Mo, In, Sn, Qn, S2, c1, r1, m1, ct1, B1, F1, Z1, Br1, Q1, Fo1, No1, sd, rt, lf, wy, gb, rfl, h9, hr, hz⟩ := hW
  obtain ⟨hS, hc, hx9, hG, hP0, hP1, hsv⟩ := hA
  rw [← ringO]
  refine CtX.mono (CtX.up (av2 := [.ref 0, iv x, iv y, iv g]) (M := (oW kn nk sz tx S (fun i => (ringP 6 i).map (rn πOM)) cnt nx σ (slotP 95) sv c0 r0 m0 ct B F Z Br Q Fo No Ho Mo In Sn Qn S2 c1 r1 m1 ct1 B1 F1 Z1 Br1 Q1 Fo1 No1 sd rt lf wy gb P0 P1)) (M2 := clM (ringP 6) kn nk S gb cnt nx σ) πOM 64 rfl rfl (by decide) (fun _ h => by first | (rw [h]; done) | (rw [h]; rfl)) (cx_cell1 hl hS h h1 h2)) ?_
  rintro _ ⟨M2, hp, rfl⟩
  subst hp
  exact ⟨kn, nk, sz, tx, c0, r0, m0, ct, B, F, Z, Br, Q, Fo, No, Ho, Mo, In, Sn, Qn, S2, c1, r1, m1, ct1, B1, F1, Z1, Br1, Q1, Fo1, No1, sd, rt, lf, wy, gb, congrArg (fun f => (oW kn nk sz tx S (f) cnt nx σ (slotP 95) sv c0 r0 m0 ct B F Z Br Q Fo No Ho Mo In Sn Qn S2 c1 r1 m1 ct1 B1 F1 Z1 Br1 Q1 Fo1 No1 sd rt lf wy gb P0 P1)) ringO, h9, hr, hz⟩
theorem KX_cell2 (hl : l.stackTraces = false) (hA : VA A) (hW : WO A M) {x y g : Int} (h1 : rg x) (h2 : rg y) (h3 : rg g) (h : kPut (jS A) x y g = 2) : CtX l yX6_cell cX6_cell 4 (some .int) rxcell [.ref 0, iv x, iv y, iv g] M nIA (WO A) := by
  obtain ⟨S, cnt, nx, σ, P0, P1, sv⟩ := A
  obtain ⟨kn, nk, sz, tx, c0, r0, m0, ct, B, F, Z, Br, Q, Fo, No, Ho, Mo, In, Sn, Qn, S2, c1, r1, m1, ct1, B1, F1, Z1, Br1, Q1, Fo1, No1, sd, rt, lf, wy, gb, rfl, h9, hr, hz⟩ := hW
  obtain ⟨hS, hc, hx9, hG, hP0, hP1, hsv⟩ := hA
  rw [← ringO]
  refine CtX.mono (CtX.up (av2 := [.ref 0, iv x, iv y, iv g]) (M := (oW kn nk sz tx S (fun i => (ringP 6 i).map (rn πOM)) cnt nx σ (slotP 95) sv c0 r0 m0 ct B F Z Br Q Fo No Ho Mo In Sn Qn S2 c1 r1 m1 ct1 B1 F1 Z1 Br1 Q1 Fo1 No1 sd rt lf wy gb P0 P1)) (M2 := clM (ringP 6) kn nk S gb cnt nx σ) πOM 64 rfl rfl (by decide) (fun _ h => by first | (rw [h]; done) | (rw [h]; rfl)) (cx_cell2 hl hS h h1 h2 h3)) ?_
  rintro _ ⟨M2, hp, rfl⟩
  subst hp
  exact ⟨kn, nk, sz, tx, c0, r0, m0, ct, B, F, Z, Br, Q, Fo, No, Ho, Mo, In, Sn, Qn, S2, c1, r1, m1, ct1, B1, F1, Z1, Br1, Q1, Fo1, No1, sd, rt, lf, wy, gb, congrArg (fun f => (oW kn nk sz tx S (f) cnt nx σ (slotP 95) sv c0 r0 m0 ct B F Z Br Q Fo No Ho Mo In Sn Qn S2 c1 r1 m1 ct1 B1 F1 Z1 Br1 Q1 Fo1 No1 sd rt lf wy gb P0 P1)) ringO, h9, hr, hz⟩
theorem KN_box (hA : VA A) (hW : WO A M) {x0 x1 y0 y1 g : Int} (h1 : rg x0) (h2 : rg x1) (h3 : rg y0) (h4 : rg y1) (h5 : rg g) (h : kBox (jS A) x0 x1 y0 y1 g = 0) : Ct l yX6_box cX6_box 6 (some .int) rmX6_box [.ref 0, iv x0, iv x1, iv y0, iv y1, iv g] M (fun u M8 => u = some (iv (w32 ((boxF (sC (jS A)) g x0 (x1 - x0 + 1).toNat y0 (y1 - y0 + 1).toNat (sG (jS A), 0)).2))) ∧ WO (jAct A (gB (jS A) x0 x1 y0 y1 g)) M8) := by
  obtain ⟨S, cnt, nx, σ, P0, P1, sv⟩ := A
  obtain ⟨kn, nk, sz, tx, c0, r0, m0, ct, B, F, Z, Br, Q, Fo, No, Ho, Mo, In, Sn, Qn, S2, c1, r1, m1, ct1, B1, F1, Z1, Br1, Q1, Fo1, No1, sd, rt, lf, wy, gb, rfl, h9, hr, hz⟩ := hW
  obtain ⟨hS, hc, hx9, hG, hP0, hP1, hsv⟩ := hA
  rw [← ringO]
  refine Ct.mono (Ct.up (av2 := [.ref 0, iv x0, iv x1, iv y0, iv y1, iv g]) (M := (oW kn nk sz tx S (fun i => (ringP 6 i).map (rn πOM)) cnt nx σ (slotP 95) sv c0 r0 m0 ct B F Z Br Q Fo No Ho Mo In Sn Qn S2 c1 r1 m1 ct1 B1 F1 Z1 Br1 Q1 Fo1 No1 sd rt lf wy gb P0 P1)) (M2 := clM (ringP 6) kn nk S gb cnt nx σ) πOM 64 rfl rfl (by decide) (fun _ _ h => by first | (rw [h.2]; done) | (rw [h.2]; rfl)) (c_abox hS hc hx9 h h1 h2 h3 h4 h5)) ?_
  rintro _ _ ⟨v2, M2, rfl, ⟨rfl, hp⟩, rfl⟩
  subst hp
  exact ⟨congrArg some (iv_w _), (0), (0), sz, tx, c0, r0, m0, ct, B, F, Z, Br, Q, Fo, No, Ho, Mo, In, Sn, Qn, S2, c1, r1, m1, ct1, B1, F1, Z1, Br1, Q1, Fo1, No1, sd, rt, lf, wy, gb, congrArg (fun f => (oW (0) (0) sz tx (gB S x0 x1 y0 y1 g) (f) (min (cnt + 1) 14) ((nx + 1) % 14) (σP S nx σ) (slotP 95) (sv) c0 r0 m0 ct B F Z Br Q Fo No Ho Mo In Sn Qn S2 c1 r1 m1 ct1 B1 F1 Z1 Br1 Q1 Fo1 No1 sd rt lf wy gb (P0) (P1))) ringO, CN_z h9, hr, hz⟩
theorem KX_box1 (hl : l.stackTraces = false) (hA : VA A) (hW : WO A M) {x0 x1 y0 y1 g : Int} (h1 : rg x0) (h2 : rg x1) (h3 : rg y0) (h4 : rg y1) (h5 : rg g) (h : kBox (jS A) x0 x1 y0 y1 g = 1) : CtX l yX6_box cX6_box 6 (some .int) rxbox [.ref 0, iv x0, iv x1, iv y0, iv y1, iv g] M nIO (WO A) := by
  obtain ⟨S, cnt, nx, σ, P0, P1, sv⟩ := A
  obtain ⟨kn, nk, sz, tx, c0, r0, m0, ct, B, F, Z, Br, Q, Fo, No, Ho, Mo, In, Sn, Qn, S2, c1, r1, m1, ct1, B1, F1, Z1, Br1, Q1, Fo1, No1, sd, rt, lf, wy, gb, rfl, h9, hr, hz⟩ := hW
  obtain ⟨hS, hc, hx9, hG, hP0, hP1, hsv⟩ := hA
  rw [← ringO]
  refine CtX.mono (CtX.up (av2 := [.ref 0, iv x0, iv x1, iv y0, iv y1, iv g]) (M := (oW kn nk sz tx S (fun i => (ringP 6 i).map (rn πOM)) cnt nx σ (slotP 95) sv c0 r0 m0 ct B F Z Br Q Fo No Ho Mo In Sn Qn S2 c1 r1 m1 ct1 B1 F1 Z1 Br1 Q1 Fo1 No1 sd rt lf wy gb P0 P1)) (M2 := clM (ringP 6) kn nk S gb cnt nx σ) πOM 64 rfl rfl (by decide) (fun _ h => by first | (rw [h]; done) | (rw [h]; rfl)) (cx_box1 hl hS h h1 h2 h3 h4)) ?_
  rintro _ ⟨M2, hp, rfl⟩
  subst hp
  exact ⟨kn, nk, sz, tx, c0, r0, m0, ct, B, F, Z, Br, Q, Fo, No, Ho, Mo, In, Sn, Qn, S2, c1, r1, m1, ct1, B1, F1, Z1, Br1, Q1, Fo1, No1, sd, rt, lf, wy, gb, congrArg (fun f => (oW kn nk sz tx S (f) cnt nx σ (slotP 95) sv c0 r0 m0 ct B F Z Br Q Fo No Ho Mo In Sn Qn S2 c1 r1 m1 ct1 B1 F1 Z1 Br1 Q1 Fo1 No1 sd rt lf wy gb P0 P1)) ringO, h9, hr, hz⟩
theorem KX_box2 (hl : l.stackTraces = false) (hA : VA A) (hW : WO A M) {x0 x1 y0 y1 g : Int} (h1 : rg x0) (h2 : rg x1) (h3 : rg y0) (h4 : rg y1) (h5 : rg g) (h : kBox (jS A) x0 x1 y0 y1 g = 2) : CtX l yX6_box cX6_box 6 (some .int) rxbox [.ref 0, iv x0, iv x1, iv y0, iv y1, iv g] M nIA (WO A) := by
  obtain ⟨S, cnt, nx, σ, P0, P1, sv⟩ := A
  obtain ⟨kn, nk, sz, tx, c0, r0, m0, ct, B, F, Z, Br, Q, Fo, No, Ho, Mo, In, Sn, Qn, S2, c1, r1, m1, ct1, B1, F1, Z1, Br1, Q1, Fo1, No1, sd, rt, lf, wy, gb, rfl, h9, hr, hz⟩ := hW
  obtain ⟨hS, hc, hx9, hG, hP0, hP1, hsv⟩ := hA
  rw [← ringO]
  refine CtX.mono (CtX.up (av2 := [.ref 0, iv x0, iv x1, iv y0, iv y1, iv g]) (M := (oW kn nk sz tx S (fun i => (ringP 6 i).map (rn πOM)) cnt nx σ (slotP 95) sv c0 r0 m0 ct B F Z Br Q Fo No Ho Mo In Sn Qn S2 c1 r1 m1 ct1 B1 F1 Z1 Br1 Q1 Fo1 No1 sd rt lf wy gb P0 P1)) (M2 := clM (ringP 6) kn nk S gb cnt nx σ) πOM 64 rfl rfl (by decide) (fun _ h => by first | (rw [h]; done) | (rw [h]; rfl)) (cx_box2 hl hS h h1 h2 h3 h4 h5)) ?_
  rintro _ ⟨M2, hp, rfl⟩
  subst hp
  exact ⟨kn, nk, sz, tx, c0, r0, m0, ct, B, F, Z, Br, Q, Fo, No, Ho, Mo, In, Sn, Qn, S2, c1, r1, m1, ct1, B1, F1, Z1, Br1, Q1, Fo1, No1, sd, rt, lf, wy, gb, congrArg (fun f => (oW kn nk sz tx S (f) cnt nx σ (slotP 95) sv c0 r0 m0 ct B F Z Br Q Fo No Ho Mo In Sn Qn S2 c1 r1 m1 ct1 B1 F1 Z1 Br1 Q1 Fo1 No1 sd rt lf wy gb P0 P1)) ringO, h9, hr, hz⟩
theorem KN_threshold (hA : VA A) (hW : WO A M) {v b : Int} (h1 : rg v) (h2 : rg b) (h : kPart (jS A) v b = 0) : Ct l yX6_threshold cX6_threshold 3 (some .int) rmX6_threshold [.ref 0, iv v, iv b] M (fun u M8 => u = some (iv (w32 ((chN (sN (jS A)) b : Int)))) ∧ WO (jAct A (gT (jS A) v b)) M8) := by
  obtain ⟨S, cnt, nx, σ, P0, P1, sv⟩ := A
  obtain ⟨kn, nk, sz, tx, c0, r0, m0, ct, B, F, Z, Br, Q, Fo, No, Ho, Mo, In, Sn, Qn, S2, c1, r1, m1, ct1, B1, F1, Z1, Br1, Q1, Fo1, No1, sd, rt, lf, wy, gb, rfl, h9, hr, hz⟩ := hW
  obtain ⟨hS, hc, hx9, hG, hP0, hP1, hsv⟩ := hA
  rw [← ringO]
  refine Ct.mono (Ct.up (av2 := [.ref 0, iv v, iv b]) (M := (oW kn nk sz tx S (fun i => (ringP 6 i).map (rn πOM)) cnt nx σ (slotP 95) sv c0 r0 m0 ct B F Z Br Q Fo No Ho Mo In Sn Qn S2 c1 r1 m1 ct1 B1 F1 Z1 Br1 Q1 Fo1 No1 sd rt lf wy gb P0 P1)) (M2 := clM (ringP 6) kn nk S gb cnt nx σ) πOM 64 rfl rfl (by decide) (fun _ _ h => by first | (rw [h.2]; done) | (rw [h.2]; rfl)) (c_athreshold hS hc hx9 h h1 h2)) ?_
  rintro _ _ ⟨v2, M2, rfl, ⟨rfl, hp⟩, rfl⟩
  subst hp
  exact ⟨congrArg some (iv_w _), (0), (0), sz, tx, c0, r0, m0, ct, B, F, Z, Br, Q, Fo, No, Ho, Mo, In, Sn, Qn, S2, c1, r1, m1, ct1, B1, F1, Z1, Br1, Q1, Fo1, No1, sd, rt, lf, wy, gb, congrArg (fun f => (oW (0) (0) sz tx (gT S v b) (f) (min (cnt + 1) 14) ((nx + 1) % 14) (σP S nx σ) (slotP 95) (sv) c0 r0 m0 ct B F Z Br Q Fo No Ho Mo In Sn Qn S2 c1 r1 m1 ct1 B1 F1 Z1 Br1 Q1 Fo1 No1 sd rt lf wy gb (P0) (P1))) ringO, CN_z h9, hr, hz⟩
theorem KX_threshold1 (hl : l.stackTraces = false) (hA : VA A) (hW : WO A M) {v b : Int} (h1 : rg v) (h2 : rg b) (h : kPart (jS A) v b = 1) : CtX l yX6_threshold cX6_threshold 3 (some .int) rxthreshold [.ref 0, iv v, iv b] M nIA (WO A) := by
  obtain ⟨S, cnt, nx, σ, P0, P1, sv⟩ := A
  obtain ⟨kn, nk, sz, tx, c0, r0, m0, ct, B, F, Z, Br, Q, Fo, No, Ho, Mo, In, Sn, Qn, S2, c1, r1, m1, ct1, B1, F1, Z1, Br1, Q1, Fo1, No1, sd, rt, lf, wy, gb, rfl, h9, hr, hz⟩ := hW
  obtain ⟨hS, hc, hx9, hG, hP0, hP1, hsv⟩ := hA
  rw [← ringO]
  refine CtX.mono (CtX.up (av2 := [.ref 0, iv v, iv b]) (M := (oW kn nk sz tx S (fun i => (ringP 6 i).map (rn πOM)) cnt nx σ (slotP 95) sv c0 r0 m0 ct B F Z Br Q Fo No Ho Mo In Sn Qn S2 c1 r1 m1 ct1 B1 F1 Z1 Br1 Q1 Fo1 No1 sd rt lf wy gb P0 P1)) (M2 := clM (ringP 6) kn nk S gb cnt nx σ) πOM 64 rfl rfl (by decide) (fun _ h => by first | (rw [h]; done) | (rw [h]; rfl)) (cx_threshold1 hl h h1)) ?_
  rintro _ ⟨M2, hp, rfl⟩
  subst hp
  exact ⟨kn, nk, sz, tx, c0, r0, m0, ct, B, F, Z, Br, Q, Fo, No, Ho, Mo, In, Sn, Qn, S2, c1, r1, m1, ct1, B1, F1, Z1, Br1, Q1, Fo1, No1, sd, rt, lf, wy, gb, congrArg (fun f => (oW kn nk sz tx S (f) cnt nx σ (slotP 95) sv c0 r0 m0 ct B F Z Br Q Fo No Ho Mo In Sn Qn S2 c1 r1 m1 ct1 B1 F1 Z1 Br1 Q1 Fo1 No1 sd rt lf wy gb P0 P1)) ringO, h9, hr, hz⟩
theorem KX_threshold2 (hl : l.stackTraces = false) (hA : VA A) (hW : WO A M) {v b : Int} (h1 : rg v) (h2 : rg b) (h : kPart (jS A) v b = 2) : CtX l yX6_threshold cX6_threshold 3 (some .int) rxthreshold [.ref 0, iv v, iv b] M nIS (WO A) := by
  obtain ⟨S, cnt, nx, σ, P0, P1, sv⟩ := A
  obtain ⟨kn, nk, sz, tx, c0, r0, m0, ct, B, F, Z, Br, Q, Fo, No, Ho, Mo, In, Sn, Qn, S2, c1, r1, m1, ct1, B1, F1, Z1, Br1, Q1, Fo1, No1, sd, rt, lf, wy, gb, rfl, h9, hr, hz⟩ := hW
  obtain ⟨hS, hc, hx9, hG, hP0, hP1, hsv⟩ := hA
  rw [← ringO]
  refine CtX.mono (CtX.up (av2 := [.ref 0, iv v, iv b]) (M := (oW kn nk sz tx S (fun i => (ringP 6 i).map (rn πOM)) cnt nx σ (slotP 95) sv c0 r0 m0 ct B F Z Br Q Fo No Ho Mo In Sn Qn S2 c1 r1 m1 ct1 B1 F1 Z1 Br1 Q1 Fo1 No1 sd rt lf wy gb P0 P1)) (M2 := clM (ringP 6) kn nk S gb cnt nx σ) πOM 64 rfl rfl (by decide) (fun _ h => by first | (rw [h]; done) | (rw [h]; rfl)) (cx_threshold2 hl hS h h1 h2)) ?_
  rintro _ ⟨M2, hp, rfl⟩
  subst hp
  exact ⟨kn, nk, sz, tx, c0, r0, m0, ct, B, F, Z, Br, Q, Fo, No, Ho, Mo, In, Sn, Qn, S2, c1, r1, m1, ct1, B1, F1, Z1, Br1, Q1, Fo1, No1, sd, rt, lf, wy, gb, congrArg (fun f => (oW kn nk sz tx S (f) cnt nx σ (slotP 95) sv c0 r0 m0 ct B F Z Br Q Fo No Ho Mo In Sn Qn S2 c1 r1 m1 ct1 B1 F1 Z1 Br1 Q1 Fo1 No1 sd rt lf wy gb P0 P1)) ringO, h9, hr, hz⟩
theorem KN_share (hA : VA A) (hW : WO A M) {v : Int} (h1 : rg v) (h : kIn v 0 5 = 0) : Ct l yX6_share cX6_share 2 (some .int) rmX6_share [.ref 0, iv v] M (fun u M8 => u = some (iv (w32 (((shK (sG (jS A)) (sC (jS A) * sR (jS A)).toNat v (sT (jS A)) v.toNat).2 : Int)))) ∧ WO (jAct A (gH (jS A) v)) M8) := by
  obtain ⟨S, cnt, nx, σ, P0, P1, sv⟩ := A
  obtain ⟨kn, nk, sz, tx, c0, r0, m0, ct, B, F, Z, Br, Q, Fo, No, Ho, Mo, In, Sn, Qn, S2, c1, r1, m1, ct1, B1, F1, Z1, Br1, Q1, Fo1, No1, sd, rt, lf, wy, gb, rfl, h9, hr, hz⟩ := hW
  obtain ⟨hS, hc, hx9, hG, hP0, hP1, hsv⟩ := hA
  rw [← ringO]
  refine Ct.mono (Ct.up (av2 := [.ref 0, iv v]) (M := (oW kn nk sz tx S (fun i => (ringP 6 i).map (rn πOM)) cnt nx σ (slotP 95) sv c0 r0 m0 ct B F Z Br Q Fo No Ho Mo In Sn Qn S2 c1 r1 m1 ct1 B1 F1 Z1 Br1 Q1 Fo1 No1 sd rt lf wy gb P0 P1)) (M2 := clM (ringP 6) kn nk S gb cnt nx σ) πOM 64 rfl rfl (by decide) (fun _ _ h => by first | (rw [h.2]; done) | (rw [h.2]; rfl)) (c_ashare hS hc hx9 h h1)) ?_
  rintro _ _ ⟨v2, M2, rfl, ⟨rfl, hp⟩, rfl⟩
  subst hp
  exact ⟨congrArg some (iv_w _), (0), (0), sz, tx, c0, r0, m0, ct, B, F, Z, Br, Q, Fo, No, Ho, Mo, In, Sn, Qn, S2, c1, r1, m1, ct1, B1, F1, Z1, Br1, Q1, Fo1, No1, sd, rt, lf, wy, gb, congrArg (fun f => (oW (0) (0) sz tx (gH S v) (f) (min (cnt + 1) 14) ((nx + 1) % 14) (σP S nx σ) (slotP 95) (sv) c0 r0 m0 ct B F Z Br Q Fo No Ho Mo In Sn Qn S2 c1 r1 m1 ct1 B1 F1 Z1 Br1 Q1 Fo1 No1 sd rt lf wy gb (P0) (P1))) ringO, CN_z h9, hr, hz⟩
theorem KX_share (hl : l.stackTraces = false) (hA : VA A) (hW : WO A M) {v : Int} (h1 : rg v) (h : kIn v 0 5 = 1) : CtX l yX6_share cX6_share 2 (some .int) rxshare [.ref 0, iv v] M nIA (WO A) := by
  obtain ⟨S, cnt, nx, σ, P0, P1, sv⟩ := A
  obtain ⟨kn, nk, sz, tx, c0, r0, m0, ct, B, F, Z, Br, Q, Fo, No, Ho, Mo, In, Sn, Qn, S2, c1, r1, m1, ct1, B1, F1, Z1, Br1, Q1, Fo1, No1, sd, rt, lf, wy, gb, rfl, h9, hr, hz⟩ := hW
  obtain ⟨hS, hc, hx9, hG, hP0, hP1, hsv⟩ := hA
  rw [← ringO]
  refine CtX.mono (CtX.up (av2 := [.ref 0, iv v]) (M := (oW kn nk sz tx S (fun i => (ringP 6 i).map (rn πOM)) cnt nx σ (slotP 95) sv c0 r0 m0 ct B F Z Br Q Fo No Ho Mo In Sn Qn S2 c1 r1 m1 ct1 B1 F1 Z1 Br1 Q1 Fo1 No1 sd rt lf wy gb P0 P1)) (M2 := clM (ringP 6) kn nk S gb cnt nx σ) πOM 64 rfl rfl (by decide) (fun _ h => by first | (rw [h]; done) | (rw [h]; rfl)) (cx_share hl (by rw [h]; decide) h1)) ?_
  rintro _ ⟨M2, hp, rfl⟩
  subst hp
  exact ⟨kn, nk, sz, tx, c0, r0, m0, ct, B, F, Z, Br, Q, Fo, No, Ho, Mo, In, Sn, Qn, S2, c1, r1, m1, ct1, B1, F1, Z1, Br1, Q1, Fo1, No1, sd, rt, lf, wy, gb, congrArg (fun f => (oW kn nk sz tx S (f) cnt nx σ (slotP 95) sv c0 r0 m0 ct B F Z Br Q Fo No Ho Mo In Sn Qn S2 c1 r1 m1 ct1 B1 F1 Z1 Br1 Q1 Fo1 No1 sd rt lf wy gb P0 P1)) ringO, h9, hr, hz⟩
theorem KN_least (hA : VA A) (hW : WO A M) {v : Int} (h1 : rg v) (h : kIn v 1 30 = 0) : Ct l yX6_least cX6_least 3 (some .int) rmX6_least [.ref 0, iv v] M (fun u M8 => u = some (iv (w32 (sE (jS A)))) ∧ WO (jAct A (setE (jS A) v)) M8) := by
  obtain ⟨S, cnt, nx, σ, P0, P1, sv⟩ := A
  obtain ⟨kn, nk, sz, tx, c0, r0, m0, ct, B, F, Z, Br, Q, Fo, No, Ho, Mo, In, Sn, Qn, S2, c1, r1, m1, ct1, B1, F1, Z1, Br1, Q1, Fo1, No1, sd, rt, lf, wy, gb, rfl, h9, hr, hz⟩ := hW
  obtain ⟨hS, hc, hx9, hG, hP0, hP1, hsv⟩ := hA
  rw [← ringO]
  refine Ct.mono (Ct.up (av2 := [.ref 0, iv v]) (M := (oW kn nk sz tx S (fun i => (ringP 6 i).map (rn πOM)) cnt nx σ (slotP 95) sv c0 r0 m0 ct B F Z Br Q Fo No Ho Mo In Sn Qn S2 c1 r1 m1 ct1 B1 F1 Z1 Br1 Q1 Fo1 No1 sd rt lf wy gb P0 P1)) (M2 := clM (ringP 6) kn nk S gb cnt nx σ) πOM 64 rfl rfl (by decide) (fun _ _ h => by first | (rw [h.2]; done) | (rw [h.2]; rfl)) (c_aleast hS hc hx9 h h1)) ?_
  rintro _ _ ⟨v2, M2, rfl, ⟨rfl, hp⟩, rfl⟩
  subst hp
  exact ⟨congrArg some (iv_w _), (0), (0), sz, tx, c0, r0, m0, ct, B, F, Z, Br, Q, Fo, No, Ho, Mo, In, Sn, Qn, S2, c1, r1, m1, ct1, B1, F1, Z1, Br1, Q1, Fo1, No1, sd, rt, lf, wy, gb, congrArg (fun f => (oW (0) (0) sz tx (setE S v) (f) (min (cnt + 1) 14) ((nx + 1) % 14) (σP S nx σ) (slotP 95) (sv) c0 r0 m0 ct B F Z Br Q Fo No Ho Mo In Sn Qn S2 c1 r1 m1 ct1 B1 F1 Z1 Br1 Q1 Fo1 No1 sd rt lf wy gb (P0) (P1))) ringO, CN_z h9, hr, hz⟩
theorem KX_least (hl : l.stackTraces = false) (hA : VA A) (hW : WO A M) {v : Int} (h1 : rg v) (h : kIn v 1 30 = 1) : CtX l yX6_least cX6_least 3 (some .int) rxleast [.ref 0, iv v] M nIA (WO A) := by
  obtain ⟨S, cnt, nx, σ, P0, P1, sv⟩ := A
  obtain ⟨kn, nk, sz, tx, c0, r0, m0, ct, B, F, Z, Br, Q, Fo, No, Ho, Mo, In, Sn, Qn, S2, c1, r1, m1, ct1, B1, F1, Z1, Br1, Q1, Fo1, No1, sd, rt, lf, wy, gb, rfl, h9, hr, hz⟩ := hW
  obtain ⟨hS, hc, hx9, hG, hP0, hP1, hsv⟩ := hA
  rw [← ringO]
  refine CtX.mono (CtX.up (av2 := [.ref 0, iv v]) (M := (oW kn nk sz tx S (fun i => (ringP 6 i).map (rn πOM)) cnt nx σ (slotP 95) sv c0 r0 m0 ct B F Z Br Q Fo No Ho Mo In Sn Qn S2 c1 r1 m1 ct1 B1 F1 Z1 Br1 Q1 Fo1 No1 sd rt lf wy gb P0 P1)) (M2 := clM (ringP 6) kn nk S gb cnt nx σ) πOM 64 rfl rfl (by decide) (fun _ h => by first | (rw [h]; done) | (rw [h]; rfl)) (cx_least hl (by rw [h]; decide) h1)) ?_
  rintro _ ⟨M2, hp, rfl⟩
  subst hp
  exact ⟨kn, nk, sz, tx, c0, r0, m0, ct, B, F, Z, Br, Q, Fo, No, Ho, Mo, In, Sn, Qn, S2, c1, r1, m1, ct1, B1, F1, Z1, Br1, Q1, Fo1, No1, sd, rt, lf, wy, gb, congrArg (fun f => (oW kn nk sz tx S (f) cnt nx σ (slotP 95) sv c0 r0 m0 ct B F Z Br Q Fo No Ho Mo In Sn Qn S2 c1 r1 m1 ct1 B1 F1 Z1 Br1 Q1 Fo1 No1 sd rt lf wy gb P0 P1)) ringO, h9, hr, hz⟩
theorem KN_hatch (hA : VA A) (hW : WO A M) {b v : Int} (h1 : rg b) (h2 : rg v) (h : kHatch b v = 0) : Ct l yX6_hatch cX6_hatch 4 (some .int) rmX6_hatch [.ref 0, iv b, iv v] M (fun u M8 => u = some (iv (w32 (sH (jS A) b))) ∧ WO (jAct A (setH (jS A) b v)) M8) := by
  obtain ⟨S, cnt, nx, σ, P0, P1, sv⟩ := A
  obtain ⟨kn, nk, sz, tx, c0, r0, m0, ct, B, F, Z, Br, Q, Fo, No, Ho, Mo, In, Sn, Qn, S2, c1, r1, m1, ct1, B1, F1, Z1, Br1, Q1, Fo1, No1, sd, rt, lf, wy, gb, rfl, h9, hr, hz⟩ := hW
  obtain ⟨hS, hc, hx9, hG, hP0, hP1, hsv⟩ := hA
  rw [← ringO]
  refine Ct.mono (Ct.up (av2 := [.ref 0, iv b, iv v]) (M := (oW kn nk sz tx S (fun i => (ringP 6 i).map (rn πOM)) cnt nx σ (slotP 95) sv c0 r0 m0 ct B F Z Br Q Fo No Ho Mo In Sn Qn S2 c1 r1 m1 ct1 B1 F1 Z1 Br1 Q1 Fo1 No1 sd rt lf wy gb P0 P1)) (M2 := clM (ringP 6) kn nk S gb cnt nx σ) πOM 64 rfl rfl (by decide) (fun _ _ h => by first | (rw [h.2]; done) | (rw [h.2]; rfl)) (c_ahatch hS hc hx9 h h1 h2)) ?_
  rintro _ _ ⟨v2, M2, rfl, ⟨rfl, hp⟩, rfl⟩
  subst hp
  exact ⟨congrArg some (iv_w _), (0), (0), sz, tx, c0, r0, m0, ct, B, F, Z, Br, Q, Fo, No, Ho, Mo, In, Sn, Qn, S2, c1, r1, m1, ct1, B1, F1, Z1, Br1, Q1, Fo1, No1, sd, rt, lf, wy, gb, congrArg (fun f => (oW (0) (0) sz tx (setH S b v) (f) (min (cnt + 1) 14) ((nx + 1) % 14) (σP S nx σ) (slotP 95) (sv) c0 r0 m0 ct B F Z Br Q Fo No Ho Mo In Sn Qn S2 c1 r1 m1 ct1 B1 F1 Z1 Br1 Q1 Fo1 No1 sd rt lf wy gb (P0) (P1))) ringO, CN_z h9, hr, hz⟩
theorem KX_hatch1 (hl : l.stackTraces = false) (hA : VA A) (hW : WO A M) {b v : Int} (h1 : rg b) (h2 : rg v) (h : kHatch b v = 1) : CtX l yX6_hatch cX6_hatch 4 (some .int) rxhatch [.ref 0, iv b, iv v] M nIO (WO A) := by
  obtain ⟨S, cnt, nx, σ, P0, P1, sv⟩ := A
  obtain ⟨kn, nk, sz, tx, c0, r0, m0, ct, B, F, Z, Br, Q, Fo, No, Ho, Mo, In, Sn, Qn, S2, c1, r1, m1, ct1, B1, F1, Z1, Br1, Q1, Fo1, No1, sd, rt, lf, wy, gb, rfl, h9, hr, hz⟩ := hW
  obtain ⟨hS, hc, hx9, hG, hP0, hP1, hsv⟩ := hA
  rw [← ringO]
  refine CtX.mono (CtX.up (av2 := [.ref 0, iv b, iv v]) (M := (oW kn nk sz tx S (fun i => (ringP 6 i).map (rn πOM)) cnt nx σ (slotP 95) sv c0 r0 m0 ct B F Z Br Q Fo No Ho Mo In Sn Qn S2 c1 r1 m1 ct1 B1 F1 Z1 Br1 Q1 Fo1 No1 sd rt lf wy gb P0 P1)) (M2 := clM (ringP 6) kn nk S gb cnt nx σ) πOM 64 rfl rfl (by decide) (fun _ h => by first | (rw [h]; done) | (rw [h]; rfl)) (cx_hatch1 hl h h1)) ?_
  rintro _ ⟨M2, hp, rfl⟩
  subst hp
  exact ⟨kn, nk, sz, tx, c0, r0, m0, ct, B, F, Z, Br, Q, Fo, No, Ho, Mo, In, Sn, Qn, S2, c1, r1, m1, ct1, B1, F1, Z1, Br1, Q1, Fo1, No1, sd, rt, lf, wy, gb, congrArg (fun f => (oW kn nk sz tx S (f) cnt nx σ (slotP 95) sv c0 r0 m0 ct B F Z Br Q Fo No Ho Mo In Sn Qn S2 c1 r1 m1 ct1 B1 F1 Z1 Br1 Q1 Fo1 No1 sd rt lf wy gb P0 P1)) ringO, h9, hr, hz⟩
theorem KX_hatch2 (hl : l.stackTraces = false) (hA : VA A) (hW : WO A M) {b v : Int} (h1 : rg b) (h2 : rg v) (h : kHatch b v = 2) : CtX l yX6_hatch cX6_hatch 4 (some .int) rxhatch [.ref 0, iv b, iv v] M nIA (WO A) := by
  obtain ⟨S, cnt, nx, σ, P0, P1, sv⟩ := A
  obtain ⟨kn, nk, sz, tx, c0, r0, m0, ct, B, F, Z, Br, Q, Fo, No, Ho, Mo, In, Sn, Qn, S2, c1, r1, m1, ct1, B1, F1, Z1, Br1, Q1, Fo1, No1, sd, rt, lf, wy, gb, rfl, h9, hr, hz⟩ := hW
  obtain ⟨hS, hc, hx9, hG, hP0, hP1, hsv⟩ := hA
  rw [← ringO]
  refine CtX.mono (CtX.up (av2 := [.ref 0, iv b, iv v]) (M := (oW kn nk sz tx S (fun i => (ringP 6 i).map (rn πOM)) cnt nx σ (slotP 95) sv c0 r0 m0 ct B F Z Br Q Fo No Ho Mo In Sn Qn S2 c1 r1 m1 ct1 B1 F1 Z1 Br1 Q1 Fo1 No1 sd rt lf wy gb P0 P1)) (M2 := clM (ringP 6) kn nk S gb cnt nx σ) πOM 64 rfl rfl (by decide) (fun _ h => by first | (rw [h]; done) | (rw [h]; rfl)) (cx_hatch2 hl h h1 h2)) ?_
  rintro _ ⟨M2, hp, rfl⟩
  subst hp
  exact ⟨kn, nk, sz, tx, c0, r0, m0, ct, B, F, Z, Br, Q, Fo, No, Ho, Mo, In, Sn, Qn, S2, c1, r1, m1, ct1, B1, F1, Z1, Br1, Q1, Fo1, No1, sd, rt, lf, wy, gb, congrArg (fun f => (oW kn nk sz tx S (f) cnt nx σ (slotP 95) sv c0 r0 m0 ct B F Z Br Q Fo No Ho Mo In Sn Qn S2 c1 r1 m1 ct1 B1 F1 Z1 Br1 Q1 Fo1 No1 sd rt lf wy gb P0 P1)) ringO, h9, hr, hz⟩
theorem KN_line (hA : VA A) (hW : WO A M) {v : Int} (h1 : rg v) (h : kIn v 0 9 = 0) : Ct l yX6_line cX6_line 3 (some .int) rmX6_line [.ref 0, iv v] M (fun u M8 => u = some (iv (w32 (sI (jS A)))) ∧ WO (jAct A (setI (jS A) v)) M8) := by
  obtain ⟨S, cnt, nx, σ, P0, P1, sv⟩ := A
  obtain ⟨kn, nk, sz, tx, c0, r0, m0, ct, B, F, Z, Br, Q, Fo, No, Ho, Mo, In, Sn, Qn, S2, c1, r1, m1, ct1, B1, F1, Z1, Br1, Q1, Fo1, No1, sd, rt, lf, wy, gb, rfl, h9, hr, hz⟩ := hW
  obtain ⟨hS, hc, hx9, hG, hP0, hP1, hsv⟩ := hA
  rw [← ringO]
  refine Ct.mono (Ct.up (av2 := [.ref 0, iv v]) (M := (oW kn nk sz tx S (fun i => (ringP 6 i).map (rn πOM)) cnt nx σ (slotP 95) sv c0 r0 m0 ct B F Z Br Q Fo No Ho Mo In Sn Qn S2 c1 r1 m1 ct1 B1 F1 Z1 Br1 Q1 Fo1 No1 sd rt lf wy gb P0 P1)) (M2 := clM (ringP 6) kn nk S gb cnt nx σ) πOM 64 rfl rfl (by decide) (fun _ _ h => by first | (rw [h.2]; done) | (rw [h.2]; rfl)) (c_aline hS hc hx9 h h1)) ?_
  rintro _ _ ⟨v2, M2, rfl, ⟨rfl, hp⟩, rfl⟩
  subst hp
  exact ⟨congrArg some (iv_w _), (0), (0), sz, tx, c0, r0, m0, ct, B, F, Z, Br, Q, Fo, No, Ho, Mo, In, Sn, Qn, S2, c1, r1, m1, ct1, B1, F1, Z1, Br1, Q1, Fo1, No1, sd, rt, lf, wy, gb, congrArg (fun f => (oW (0) (0) sz tx (setI S v) (f) (min (cnt + 1) 14) ((nx + 1) % 14) (σP S nx σ) (slotP 95) (sv) c0 r0 m0 ct B F Z Br Q Fo No Ho Mo In Sn Qn S2 c1 r1 m1 ct1 B1 F1 Z1 Br1 Q1 Fo1 No1 sd rt lf wy gb (P0) (P1))) ringO, CN_z h9, hr, hz⟩
theorem KX_line (hl : l.stackTraces = false) (hA : VA A) (hW : WO A M) {v : Int} (h1 : rg v) (h : kIn v 0 9 = 1) : CtX l yX6_line cX6_line 3 (some .int) rxline [.ref 0, iv v] M nIA (WO A) := by
  obtain ⟨S, cnt, nx, σ, P0, P1, sv⟩ := A
  obtain ⟨kn, nk, sz, tx, c0, r0, m0, ct, B, F, Z, Br, Q, Fo, No, Ho, Mo, In, Sn, Qn, S2, c1, r1, m1, ct1, B1, F1, Z1, Br1, Q1, Fo1, No1, sd, rt, lf, wy, gb, rfl, h9, hr, hz⟩ := hW
  obtain ⟨hS, hc, hx9, hG, hP0, hP1, hsv⟩ := hA
  rw [← ringO]
  refine CtX.mono (CtX.up (av2 := [.ref 0, iv v]) (M := (oW kn nk sz tx S (fun i => (ringP 6 i).map (rn πOM)) cnt nx σ (slotP 95) sv c0 r0 m0 ct B F Z Br Q Fo No Ho Mo In Sn Qn S2 c1 r1 m1 ct1 B1 F1 Z1 Br1 Q1 Fo1 No1 sd rt lf wy gb P0 P1)) (M2 := clM (ringP 6) kn nk S gb cnt nx σ) πOM 64 rfl rfl (by decide) (fun _ h => by first | (rw [h]; done) | (rw [h]; rfl)) (cx_line hl (by rw [h]; decide) h1)) ?_
  rintro _ ⟨M2, hp, rfl⟩
  subst hp
  exact ⟨kn, nk, sz, tx, c0, r0, m0, ct, B, F, Z, Br, Q, Fo, No, Ho, Mo, In, Sn, Qn, S2, c1, r1, m1, ct1, B1, F1, Z1, Br1, Q1, Fo1, No1, sd, rt, lf, wy, gb, congrArg (fun f => (oW kn nk sz tx S (f) cnt nx σ (slotP 95) sv c0 r0 m0 ct B F Z Br Q Fo No Ho Mo In Sn Qn S2 c1 r1 m1 ct1 B1 F1 Z1 Br1 Q1 Fo1 No1 sd rt lf wy gb P0 P1)) ringO, h9, hr, hz⟩
theorem KN_spread (hA : VA A) (hW : WO A M) {v : Int} (h1 : rg v) (h : kIn v 1 49 = 0) : Ct l yX6_spread cX6_spread 2 (some .int) rmX6_spread [.ref 0, iv v] M (fun u M8 => u = some (iv (w32 (cntK (fun j => decide (spF v (sG (jS A) j) ≠ sG (jS A) j)) (sC (jS A) * sR (jS A)).toNat))) ∧ WO (jAct A (gQ (jS A) v)) M8) := by
  obtain ⟨S, cnt, nx, σ, P0, P1, sv⟩ := A
  obtain ⟨kn, nk, sz, tx, c0, r0, m0, ct, B, F, Z, Br, Q, Fo, No, Ho, Mo, In, Sn, Qn, S2, c1, r1, m1, ct1, B1, F1, Z1, Br1, Q1, Fo1, No1, sd, rt, lf, wy, gb, rfl, h9, hr, hz⟩ := hW
  obtain ⟨hS, hc, hx9, hG, hP0, hP1, hsv⟩ := hA
  rw [← ringO]
  refine Ct.mono (Ct.up (av2 := [.ref 0, iv v]) (M := (oW kn nk sz tx S (fun i => (ringP 6 i).map (rn πOM)) cnt nx σ (slotP 95) sv c0 r0 m0 ct B F Z Br Q Fo No Ho Mo In Sn Qn S2 c1 r1 m1 ct1 B1 F1 Z1 Br1 Q1 Fo1 No1 sd rt lf wy gb P0 P1)) (M2 := clM (ringP 6) kn nk S gb cnt nx σ) πOM 64 rfl rfl (by decide) (fun _ _ h => by first | (rw [h.2]; done) | (rw [h.2]; rfl)) (c_aspread hS hc hx9 h h1)) ?_
  rintro _ _ ⟨v2, M2, rfl, ⟨rfl, hp⟩, rfl⟩
  subst hp
  exact ⟨congrArg some (iv_w _), (0), (0), sz, tx, c0, r0, m0, ct, B, F, Z, Br, Q, Fo, No, Ho, Mo, In, Sn, Qn, S2, c1, r1, m1, ct1, B1, F1, Z1, Br1, Q1, Fo1, No1, sd, rt, lf, wy, gb, congrArg (fun f => (oW (0) (0) sz tx (gQ S v) (f) (min (cnt + 1) 14) ((nx + 1) % 14) (σP S nx σ) (slotP 95) (sv) c0 r0 m0 ct B F Z Br Q Fo No Ho Mo In Sn Qn S2 c1 r1 m1 ct1 B1 F1 Z1 Br1 Q1 Fo1 No1 sd rt lf wy gb (P0) (P1))) ringO, CN_z h9, hr, hz⟩
theorem KX_spread (hl : l.stackTraces = false) (hA : VA A) (hW : WO A M) {v : Int} (h1 : rg v) (h : kIn v 1 49 = 1) : CtX l yX6_spread cX6_spread 2 (some .int) rxspread [.ref 0, iv v] M nIA (WO A) := by
  obtain ⟨S, cnt, nx, σ, P0, P1, sv⟩ := A
  obtain ⟨kn, nk, sz, tx, c0, r0, m0, ct, B, F, Z, Br, Q, Fo, No, Ho, Mo, In, Sn, Qn, S2, c1, r1, m1, ct1, B1, F1, Z1, Br1, Q1, Fo1, No1, sd, rt, lf, wy, gb, rfl, h9, hr, hz⟩ := hW
  obtain ⟨hS, hc, hx9, hG, hP0, hP1, hsv⟩ := hA
  rw [← ringO]
  refine CtX.mono (CtX.up (av2 := [.ref 0, iv v]) (M := (oW kn nk sz tx S (fun i => (ringP 6 i).map (rn πOM)) cnt nx σ (slotP 95) sv c0 r0 m0 ct B F Z Br Q Fo No Ho Mo In Sn Qn S2 c1 r1 m1 ct1 B1 F1 Z1 Br1 Q1 Fo1 No1 sd rt lf wy gb P0 P1)) (M2 := clM (ringP 6) kn nk S gb cnt nx σ) πOM 64 rfl rfl (by decide) (fun _ h => by first | (rw [h]; done) | (rw [h]; rfl)) (cx_spread hl (by rw [h]; decide) h1)) ?_
  rintro _ ⟨M2, hp, rfl⟩
  subst hp
  exact ⟨kn, nk, sz, tx, c0, r0, m0, ct, B, F, Z, Br, Q, Fo, No, Ho, Mo, In, Sn, Qn, S2, c1, r1, m1, ct1, B1, F1, Z1, Br1, Q1, Fo1, No1, sd, rt, lf, wy, gb, congrArg (fun f => (oW kn nk sz tx S (f) cnt nx σ (slotP 95) sv c0 r0 m0 ct B F Z Br Q Fo No Ho Mo In Sn Qn S2 c1 r1 m1 ct1 B1 F1 Z1 Br1 Q1 Fo1 No1 sd rt lf wy gb P0 P1)) ringO, h9, hr, hz⟩
theorem KN_noise (hA : VA A) (hW : WO A M) {x v : Int} (h1 : rg v) (h : kIn v 1 50 = 0) : Ct l yX6_noise cX6_noise 4 (some .int) rmX6_noise [.ref 0, jv x, iv v] M (fun u M8 => u = some (iv (w32 (cntK (fun j => decide (noF (sG (jS A)) x v j ≠ sG (jS A) j)) (sC (jS A) * sR (jS A)).toNat))) ∧ WO (jAct A (gO (jS A) x v)) M8) := by
  obtain ⟨S, cnt, nx, σ, P0, P1, sv⟩ := A
  obtain ⟨kn, nk, sz, tx, c0, r0, m0, ct, B, F, Z, Br, Q, Fo, No, Ho, Mo, In, Sn, Qn, S2, c1, r1, m1, ct1, B1, F1, Z1, Br1, Q1, Fo1, No1, sd, rt, lf, wy, gb, rfl, h9, hr, hz⟩ := hW
  obtain ⟨hS, hc, hx9, hG, hP0, hP1, hsv⟩ := hA
  rw [← ringO]
  refine Ct.mono (Ct.up (av2 := [.ref 0, jv x, iv v]) (M := (oW kn nk sz tx S (fun i => (ringP 6 i).map (rn πOM)) cnt nx σ (slotP 95) sv c0 r0 m0 ct B F Z Br Q Fo No Ho Mo In Sn Qn S2 c1 r1 m1 ct1 B1 F1 Z1 Br1 Q1 Fo1 No1 sd rt lf wy gb P0 P1)) (M2 := clM (ringP 6) kn nk S gb cnt nx σ) πOM 64 rfl rfl (by decide) (fun _ _ h => by first | (rw [h.2]; done) | (rw [h.2]; rfl)) (c_anoise hS hc hx9 h h1)) ?_
  rintro _ _ ⟨v2, M2, rfl, ⟨rfl, hp⟩, rfl⟩
  subst hp
  exact ⟨congrArg some (iv_w _), (0), (0), sz, tx, c0, r0, m0, ct, B, F, Z, Br, Q, Fo, No, Ho, Mo, In, Sn, Qn, S2, c1, r1, m1, ct1, B1, F1, Z1, Br1, Q1, Fo1, No1, sd, rt, lf, wy, gb, congrArg (fun f => (oW (0) (0) sz tx (gO S x v) (f) (min (cnt + 1) 14) ((nx + 1) % 14) (σP S nx σ) (slotP 95) (sv) c0 r0 m0 ct B F Z Br Q Fo No Ho Mo In Sn Qn S2 c1 r1 m1 ct1 B1 F1 Z1 Br1 Q1 Fo1 No1 sd rt lf wy gb (P0) (P1))) ringO, CN_z h9, hr, hz⟩
theorem KX_noise (hl : l.stackTraces = false) (hA : VA A) (hW : WO A M) {x v : Int} (h1 : rg v) (h : kIn v 1 50 = 1) : CtX l yX6_noise cX6_noise 4 (some .int) rxnoise [.ref 0, jv x, iv v] M nIA (WO A) := by
  obtain ⟨S, cnt, nx, σ, P0, P1, sv⟩ := A
  obtain ⟨kn, nk, sz, tx, c0, r0, m0, ct, B, F, Z, Br, Q, Fo, No, Ho, Mo, In, Sn, Qn, S2, c1, r1, m1, ct1, B1, F1, Z1, Br1, Q1, Fo1, No1, sd, rt, lf, wy, gb, rfl, h9, hr, hz⟩ := hW
  obtain ⟨hS, hc, hx9, hG, hP0, hP1, hsv⟩ := hA
  rw [← ringO]
  refine CtX.mono (CtX.up (av2 := [.ref 0, jv x, iv v]) (M := (oW kn nk sz tx S (fun i => (ringP 6 i).map (rn πOM)) cnt nx σ (slotP 95) sv c0 r0 m0 ct B F Z Br Q Fo No Ho Mo In Sn Qn S2 c1 r1 m1 ct1 B1 F1 Z1 Br1 Q1 Fo1 No1 sd rt lf wy gb P0 P1)) (M2 := clM (ringP 6) kn nk S gb cnt nx σ) πOM 64 rfl rfl (by decide) (fun _ h => by first | (rw [h]; done) | (rw [h]; rfl)) (cx_noise hl (by rw [h]; decide) h1)) ?_
  rintro _ ⟨M2, hp, rfl⟩
  subst hp
  exact ⟨kn, nk, sz, tx, c0, r0, m0, ct, B, F, Z, Br, Q, Fo, No, Ho, Mo, In, Sn, Qn, S2, c1, r1, m1, ct1, B1, F1, Z1, Br1, Q1, Fo1, No1, sd, rt, lf, wy, gb, congrArg (fun f => (oW kn nk sz tx S (f) cnt nx σ (slotP 95) sv c0 r0 m0 ct B F Z Br Q Fo No Ho Mo In Sn Qn S2 c1 r1 m1 ct1 B1 F1 Z1 Br1 Q1 Fo1 No1 sd rt lf wy gb P0 P1)) ringO, h9, hr, hz⟩
theorem KN_undo (hA : VA A) (hW : WO A M)  (h : kUndo (jC A) = 0) : Ct l yX6_undo cX6_undo 1 (some .int) rmX6_undo [.ref 0] M (fun u M8 => u = some (iv (w32 ((jC A) - 1))) ∧ WO (jUndo A) M8) := by
  obtain ⟨S, cnt, nx, σ, P0, P1, sv⟩ := A
  obtain ⟨kn, nk, sz, tx, c0, r0, m0, ct, B, F, Z, Br, Q, Fo, No, Ho, Mo, In, Sn, Qn, S2, c1, r1, m1, ct1, B1, F1, Z1, Br1, Q1, Fo1, No1, sd, rt, lf, wy, gb, rfl, h9, hr, hz⟩ := hW
  obtain ⟨hS, hc, hx9, hG, hP0, hP1, hsv⟩ := hA
  rw [← ringO]
  refine Ct.mono (Ct.up (av2 := [.ref 0]) (M := (oW kn nk sz tx S (fun i => (ringP 6 i).map (rn πOM)) cnt nx σ (slotP 95) sv c0 r0 m0 ct B F Z Br Q Fo No Ho Mo In Sn Qn S2 c1 r1 m1 ct1 B1 F1 Z1 Br1 Q1 Fo1 No1 sd rt lf wy gb P0 P1)) (M2 := clM (ringP 6) kn nk S gb cnt nx σ) πOM 64 rfl rfl (by decide) (fun _ _ h => by first | (rw [h.2]; done) | (rw [h.2]; rfl)) (c_undo ⟨by have h1 : cnt ≠ 0 := kUndo_0 h; have h2 : 0 ≤ cnt ∧ cnt ≤ 14 := hc; omega, hc.2⟩ hx9)) ?_
  rintro _ _ ⟨v2, M2, rfl, ⟨rfl, hp⟩, rfl⟩
  subst hp
  exact ⟨congrArg some (iv_w _), (0), (0), sz, tx, c0, r0, m0, ct, B, F, Z, Br, Q, Fo, No, Ho, Mo, In, Sn, Qn, S2, c1, r1, m1, ct1, B1, F1, Z1, Br1, Q1, Fo1, No1, sd, rt, lf, wy, gb, congrArg (fun f => (oW (0) (0) sz tx (σ ((nx + 13) % 14).toNat) (f) (cnt - 1) ((nx + 13) % 14) (σ) (slotP 95) (sv) c0 r0 m0 ct B F Z Br Q Fo No Ho Mo In Sn Qn S2 c1 r1 m1 ct1 B1 F1 Z1 Br1 Q1 Fo1 No1 sd rt lf wy gb (P0) (P1))) ringO, CN_z h9, hr, hz⟩
theorem KX_undo (hl : l.stackTraces = false) (hA : VA A) (hW : WO A M)  (h : kUndo (jC A) = 1) : CtX l yX6_undo cX6_undo 1 (some .int) rxundo [.ref 0] M nIS (WO A) := by
  obtain ⟨S, cnt, nx, σ, P0, P1, sv⟩ := A
  obtain ⟨kn, nk, sz, tx, c0, r0, m0, ct, B, F, Z, Br, Q, Fo, No, Ho, Mo, In, Sn, Qn, S2, c1, r1, m1, ct1, B1, F1, Z1, Br1, Q1, Fo1, No1, sd, rt, lf, wy, gb, rfl, h9, hr, hz⟩ := hW
  obtain ⟨hS, hc, hx9, hG, hP0, hP1, hsv⟩ := hA
  rw [← ringO]
  refine CtX.mono (CtX.up (av2 := [.ref 0]) (M := (oW kn nk sz tx S (fun i => (ringP 6 i).map (rn πOM)) cnt nx σ (slotP 95) sv c0 r0 m0 ct B F Z Br Q Fo No Ho Mo In Sn Qn S2 c1 r1 m1 ct1 B1 F1 Z1 Br1 Q1 Fo1 No1 sd rt lf wy gb P0 P1)) (M2 := clM (ringP 6) kn nk S gb cnt nx σ) πOM 64 rfl rfl (by decide) (fun _ h => by first | (rw [h]; done) | (rw [h]; rfl)) (cx_undo hl (kUndo_1 h))) ?_
  rintro _ ⟨M2, hp, rfl⟩
  subst hp
  exact ⟨kn, nk, sz, tx, c0, r0, m0, ct, B, F, Z, Br, Q, Fo, No, Ho, Mo, In, Sn, Qn, S2, c1, r1, m1, ct1, B1, F1, Z1, Br1, Q1, Fo1, No1, sd, rt, lf, wy, gb, congrArg (fun f => (oW kn nk sz tx S (f) cnt nx σ (slotP 95) sv c0 r0 m0 ct B F Z Br Q Fo No Ho Mo In Sn Qn S2 c1 r1 m1 ct1 B1 F1 Z1 Br1 Q1 Fo1 No1 sd rt lf wy gb P0 P1)) ringO, h9, hr, hz⟩
theorem KN_save (hA : VA A) (hW : WO A M) {v : Int} (h1 : rg v) (h : kIn v 0 1 = 0) : Ct l yX6_save cX6_save 2 (some .int) rmX6_save [.ref 0, iv v] M (fun u M8 => u = some (iv (w32 (sumK (sG (jS A)) (sC (jS A) * sR (jS A)).toNat))) ∧ WO (jSave A v) M8) := by
  obtain ⟨S, cnt, nx, σ, P0, P1, sv⟩ := A
  obtain ⟨kn, nk, sz, tx, c0, r0, m0, ct, B, F, Z, Br, Q, Fo, No, Ho, Mo, In, Sn, Qn, S2, c1, r1, m1, ct1, B1, F1, Z1, Br1, Q1, Fo1, No1, sd, rt, lf, wy, gb, rfl, h9, hr, hz⟩ := hW
  obtain ⟨hS, hc, hx9, hG, hP0, hP1, hsv⟩ := hA
  rw [← slotO]
  refine Ct.mono (Ct.up (av2 := [.ref 0, iv v]) (M := (oW kn nk sz tx S (ringP 7) cnt nx σ (fun i => (slotP 6 i).map (rn πOS)) sv c0 r0 m0 ct B F Z Br Q Fo No Ho Mo In Sn Qn S2 c1 r1 m1 ct1 B1 F1 Z1 Br1 Q1 Fo1 No1 sd rt lf wy gb P0 P1)) (M2 := clS (slotP 6) kn nk S P0 P1 sv cnt nx) πOS 16 rfl rfl (by decide) (fun _ _ h => by first | (rw [h.2]; done) | (rw [h.2]; rfl)) (c_save hS h h1)) ?_
  rintro _ _ ⟨v2, M2, rfl, ⟨rfl, hp⟩, rfl⟩
  subst hp
  exact ⟨congrArg some (iv_w _), kn, nk, sz, tx, c0, r0, m0, ct, B, F, Z, Br, Q, Fo, No, Ho, Mo, In, Sn, Qn, S2, c1, r1, m1, ct1, B1, F1, Z1, Br1, Q1, Fo1, No1, sd, rt, lf, wy, gb, congrArg (fun f => (oW kn nk sz tx (S) (ringP 7) (cnt) (nx) (σ) (f) (up sv v 1) c0 r0 m0 ct B F Z Br Q Fo No Ho Mo In Sn Qn S2 c1 r1 m1 ct1 B1 F1 Z1 Br1 Q1 Fo1 No1 sd rt lf wy gb (if v = 0 then S else P0) (if v = 0 then P1 else S))) slotO, h9, hr, hz⟩
theorem KX_save (hl : l.stackTraces = false) (hA : VA A) (hW : WO A M) {v : Int} (h1 : rg v) (h : kIn v 0 1 = 1) : CtX l yX6_save cX6_save 2 (some .int) rxsave [.ref 0, iv v] M nIO (WO A) := by
  obtain ⟨S, cnt, nx, σ, P0, P1, sv⟩ := A
  obtain ⟨kn, nk, sz, tx, c0, r0, m0, ct, B, F, Z, Br, Q, Fo, No, Ho, Mo, In, Sn, Qn, S2, c1, r1, m1, ct1, B1, F1, Z1, Br1, Q1, Fo1, No1, sd, rt, lf, wy, gb, rfl, h9, hr, hz⟩ := hW
  obtain ⟨hS, hc, hx9, hG, hP0, hP1, hsv⟩ := hA
  rw [← slotO]
  refine CtX.mono (CtX.up (av2 := [.ref 0, iv v]) (M := (oW kn nk sz tx S (ringP 7) cnt nx σ (fun i => (slotP 6 i).map (rn πOS)) sv c0 r0 m0 ct B F Z Br Q Fo No Ho Mo In Sn Qn S2 c1 r1 m1 ct1 B1 F1 Z1 Br1 Q1 Fo1 No1 sd rt lf wy gb P0 P1)) (M2 := clS (slotP 6) kn nk S P0 P1 sv cnt nx) πOS 16 rfl rfl (by decide) (fun _ h => by first | (rw [h]; done) | (rw [h]; rfl)) (cx_save hl (by rw [h]; decide) h1)) ?_
  rintro _ ⟨M2, hp, rfl⟩
  subst hp
  exact ⟨kn, nk, sz, tx, c0, r0, m0, ct, B, F, Z, Br, Q, Fo, No, Ho, Mo, In, Sn, Qn, S2, c1, r1, m1, ct1, B1, F1, Z1, Br1, Q1, Fo1, No1, sd, rt, lf, wy, gb, congrArg (fun f => (oW kn nk sz tx S (ringP 7) cnt nx σ (f) sv c0 r0 m0 ct B F Z Br Q Fo No Ho Mo In Sn Qn S2 c1 r1 m1 ct1 B1 F1 Z1 Br1 Q1 Fo1 No1 sd rt lf wy gb P0 P1)) slotO, h9, hr, hz⟩
theorem KN_restore (hA : VA A) (hW : WO A M) {v : Int} (h1 : rg v) (h : kRes (jV A) v = 0) : Ct l yX6_restore cX6_restore 2 (some .int) rmX6_restore [.ref 0, iv v] M (fun u M8 => u = some (iv (w32 (sumK (sG (if v = 0 then (j0 A) else (j1 A))) (sC (if v = 0 then (j0 A) else (j1 A)) * sR (if v = 0 then (j0 A) else (j1 A))).toNat))) ∧ WO (jRest A v) M8) := by
  obtain ⟨S, cnt, nx, σ, P0, P1, sv⟩ := A
  obtain ⟨kn, nk, sz, tx, c0, r0, m0, ct, B, F, Z, Br, Q, Fo, No, Ho, Mo, In, Sn, Qn, S2, c1, r1, m1, ct1, B1, F1, Z1, Br1, Q1, Fo1, No1, sd, rt, lf, wy, gb, rfl, h9, hr, hz⟩ := hW
  obtain ⟨hS, hc, hx9, hG, hP0, hP1, hsv⟩ := hA
  rw [← slotO]
  refine Ct.mono (Ct.up (av2 := [.ref 0, iv v]) (M := (oW kn nk sz tx S (ringP 7) cnt nx σ (fun i => (slotP 6 i).map (rn πOS)) sv c0 r0 m0 ct B F Z Br Q Fo No Ho Mo In Sn Qn S2 c1 r1 m1 ct1 B1 F1 Z1 Br1 Q1 Fo1 No1 sd rt lf wy gb P0 P1)) (M2 := clS (slotP 6) kn nk S P0 P1 sv cnt nx) πOS 16 rfl rfl (by decide) (fun _ _ h => by first | (rw [h.2]; done) | (rw [h.2]; rfl)) (c_restore (by split; exact hP0; exact hP1) h h1 hsv)) ?_
  rintro _ _ ⟨v2, M2, rfl, ⟨rfl, hp⟩, rfl⟩
  subst hp
  exact ⟨congrArg some (iv_w _), (0), (0), sz, tx, c0, r0, m0, ct, B, F, Z, Br, Q, Fo, No, Ho, Mo, In, Sn, Qn, S2, c1, r1, m1, ct1, B1, F1, Z1, Br1, Q1, Fo1, No1, sd, rt, lf, wy, gb, congrArg (fun f => (oW (0) (0) sz tx (if v = 0 then P0 else P1) (ringP 7) (0) (nx) (σ) (f) (sv) c0 r0 m0 ct B F Z Br Q Fo No Ho Mo In Sn Qn S2 c1 r1 m1 ct1 B1 F1 Z1 Br1 Q1 Fo1 No1 sd rt lf wy gb (P0) (P1))) slotO, CN_z h9, hr, hz⟩
theorem KX_restore1 (hl : l.stackTraces = false) (hA : VA A) (hW : WO A M) {v : Int} (h1 : rg v) (h : kRes (jV A) v = 1) : CtX l yX6_restore cX6_restore 2 (some .int) rxrestore [.ref 0, iv v] M nIO (WO A) := by
  obtain ⟨S, cnt, nx, σ, P0, P1, sv⟩ := A
  obtain ⟨kn, nk, sz, tx, c0, r0, m0, ct, B, F, Z, Br, Q, Fo, No, Ho, Mo, In, Sn, Qn, S2, c1, r1, m1, ct1, B1, F1, Z1, Br1, Q1, Fo1, No1, sd, rt, lf, wy, gb, rfl, h9, hr, hz⟩ := hW
  obtain ⟨hS, hc, hx9, hG, hP0, hP1, hsv⟩ := hA
  rw [← slotO]
  refine CtX.mono (CtX.up (av2 := [.ref 0, iv v]) (M := (oW kn nk sz tx S (ringP 7) cnt nx σ (fun i => (slotP 6 i).map (rn πOS)) sv c0 r0 m0 ct B F Z Br Q Fo No Ho Mo In Sn Qn S2 c1 r1 m1 ct1 B1 F1 Z1 Br1 Q1 Fo1 No1 sd rt lf wy gb P0 P1)) (M2 := clS (slotP 6) kn nk S P0 P1 sv cnt nx) πOS 16 rfl rfl (by decide) (fun _ h => by first | (rw [h]; done) | (rw [h]; rfl)) (cx_restore1 hl h h1)) ?_
  rintro _ ⟨M2, hp, rfl⟩
  subst hp
  exact ⟨kn, nk, sz, tx, c0, r0, m0, ct, B, F, Z, Br, Q, Fo, No, Ho, Mo, In, Sn, Qn, S2, c1, r1, m1, ct1, B1, F1, Z1, Br1, Q1, Fo1, No1, sd, rt, lf, wy, gb, congrArg (fun f => (oW kn nk sz tx S (ringP 7) cnt nx σ (f) sv c0 r0 m0 ct B F Z Br Q Fo No Ho Mo In Sn Qn S2 c1 r1 m1 ct1 B1 F1 Z1 Br1 Q1 Fo1 No1 sd rt lf wy gb P0 P1)) slotO, h9, hr, hz⟩
theorem KX_restore2 (hl : l.stackTraces = false) (hA : VA A) (hW : WO A M) {v : Int} (h1 : rg v) (h : kRes (jV A) v = 2) : CtX l yX6_restore cX6_restore 2 (some .int) rxrestore [.ref 0, iv v] M nIS (WO A) := by
  obtain ⟨S, cnt, nx, σ, P0, P1, sv⟩ := A
  obtain ⟨kn, nk, sz, tx, c0, r0, m0, ct, B, F, Z, Br, Q, Fo, No, Ho, Mo, In, Sn, Qn, S2, c1, r1, m1, ct1, B1, F1, Z1, Br1, Q1, Fo1, No1, sd, rt, lf, wy, gb, rfl, h9, hr, hz⟩ := hW
  obtain ⟨hS, hc, hx9, hG, hP0, hP1, hsv⟩ := hA
  rw [← slotO]
  refine CtX.mono (CtX.up (av2 := [.ref 0, iv v]) (M := (oW kn nk sz tx S (ringP 7) cnt nx σ (fun i => (slotP 6 i).map (rn πOS)) sv c0 r0 m0 ct B F Z Br Q Fo No Ho Mo In Sn Qn S2 c1 r1 m1 ct1 B1 F1 Z1 Br1 Q1 Fo1 No1 sd rt lf wy gb P0 P1)) (M2 := clS (slotP 6) kn nk S P0 P1 sv cnt nx) πOS 16 rfl rfl (by decide) (fun _ h => by first | (rw [h]; done) | (rw [h]; rfl)) (cx_restore2 hl h h1)) ?_
  rintro _ ⟨M2, hp, rfl⟩
  subst hp
  exact ⟨kn, nk, sz, tx, c0, r0, m0, ct, B, F, Z, Br, Q, Fo, No, Ho, Mo, In, Sn, Qn, S2, c1, r1, m1, ct1, B1, F1, Z1, Br1, Q1, Fo1, No1, sd, rt, lf, wy, gb, congrArg (fun f => (oW kn nk sz tx S (ringP 7) cnt nx σ (f) sv c0 r0 m0 ct B F Z Br Q Fo No Ho Mo In Sn Qn S2 c1 r1 m1 ct1 B1 F1 Z1 Br1 Q1 Fo1 No1 sd rt lf wy gb P0 P1)) slotO, h9, hr, hz⟩
theorem KX_append (hl : l.stackTraces = false) (hA : VA A) (hW : WO A M) {x : Int} (hx : rg x) (h : ¬ (0 ≤ x ∧ x ≤ 255)) : CtX l yX6_append cX6_append 2 (some .int) rxappend [.ref 0, iv x] M nIA (WO A) := by
  obtain ⟨S, cnt, nx, σ, P0, P1, sv⟩ := A
  obtain ⟨kn, nk, sz, tx, c0, r0, m0, ct, B, F, Z, Br, Q, Fo, No, Ho, Mo, In, Sn, Qn, S2, c1, r1, m1, ct1, B1, F1, Z1, Br1, Q1, Fo1, No1, sd, rt, lf, wy, gb, rfl, h9, hr, hz⟩ := hW
  obtain ⟨hS, hc, hx9, hG, hP0, hP1, hsv⟩ := hA
  refine CtX.mono (CtX.up (av2 := [.ref 0, iv x]) (M := (oW kn nk sz tx S (ringP 7) cnt nx σ (slotP 95) sv c0 r0 m0 ct B F Z Br Q Fo No Ho Mo In Sn Qn S2 c1 r1 m1 ct1 B1 F1 Z1 Br1 Q1 Fo1 No1 sd rt lf wy gb P0 P1)) (M2 := clX kn nk sz tx) πOX 3 rfl rfl (by decide) (fun _ h => by first | (rw [h]; done) | (rw [h]; rfl)) (cx_append1 hl (sz := sz) (by unfold kAppend; rw [if_pos h]) hx)) ?_
  rintro _ ⟨M2, hp, rfl⟩
  subst hp
  exact ⟨kn, nk, sz, tx, c0, r0, m0, ct, B, F, Z, Br, Q, Fo, No, Ho, Mo, In, Sn, Qn, S2, c1, r1, m1, ct1, B1, F1, Z1, Br1, Q1, Fo1, No1, sd, rt, lf, wy, gb, rfl, h9, hr, hz⟩
noncomputable def aInk (S : St) : Int := inkF (sC S) (sR S) (bS S) (sH S) (sI S)
theorem KN_ink (hA : VA A) (hW : WO A M) : Ct l yX6_ink cX6_ink 1 (some .int) rmX6_ink [.ref 0] M (fun u M8 => u = some (iv (w32 (aInk (jS A)))) ∧ WO A M8) := by
  obtain ⟨S, cnt, nx, σ, P0, P1, sv⟩ := A
  obtain ⟨kn, nk, sz, tx, c0, r0, m0, ct, B, F, Z, Br, Q, Fo, No, Ho, Mo, In, Sn, Qn, S2, c1, r1, m1, ct1, B1, F1, Z1, Br1, Q1, Fo1, No1, sd, rt, lf, wy, gb, rfl, h9, hr, hz⟩ := hW
  obtain ⟨hS, hc, hx9, hG, hP0, hP1, hsv⟩ := hA
  refine Ct.mono (Ct.up (av2 := [.ref 0]) (M := (oW kn nk sz tx S (ringP 7) cnt nx σ (slotP 95) sv c0 r0 m0 ct B F Z Br Q Fo No Ho Mo In Sn Qn S2 c1 r1 m1 ct1 B1 F1 Z1 Br1 Q1 Fo1 No1 sd rt lf wy gb P0 P1)) (M2 := clB S kn nk c0 r0 m0 ct B F Z Br Q Fo No Ho Mo In Sn Qn) πOB 19 rfl rfl (by decide) (fun _ _ h => RB_len h.2) (c_ink hS h9)) ?_
  rintro _ _ ⟨v2, M2, rfl, ⟨rfl, hp⟩, rfl⟩
  obtain ⟨kn', nk', c0', r0', m0', ct', B', F', Z', Br', Q', Fo', No', Ho', Mo', In', Sn', Qn', rfl, h9'⟩ := hp
  exact ⟨congrArg some (iv_w _), (kn'), (nk'), sz, tx, (c0'), (r0'), (m0'), (ct'), (B'), (F'), (Z'), (Br'), (Q'), (Fo'), (No'), (Ho'), (Mo'), (In'), (Sn'), (Qn'), S2, c1, r1, m1, ct1, B1, F1, Z1, Br1, Q1, Fo1, No1, sd, rt, lf, wy, gb, rfl, h9', hr, hz⟩
noncomputable def aBlur (S : St) : Int := cntK (fun j => decide (blF (sC S) (sR S) (sG S) j ≠ sG S j)) (sC S * sR S).toNat
noncomputable def aInv (S : St) : Int := sumK (sG (gI S)) (sC S * sR S).toNat
theorem KN_blur (hA : VA A) (hW : WO A M) : Ct l yX6_blur cX6_blur 1 (some .int) rmX6_blur [.ref 0] M (fun u M8 => u = some (iv (w32 (aBlur (jS A)))) ∧ WO (jAct A (gU (jS A))) M8) := by
  obtain ⟨S, cnt, nx, σ, P0, P1, sv⟩ := A
  obtain ⟨kn, nk, sz, tx, c0, r0, m0, ct, B, F, Z, Br, Q, Fo, No, Ho, Mo, In, Sn, Qn, S2, c1, r1, m1, ct1, B1, F1, Z1, Br1, Q1, Fo1, No1, sd, rt, lf, wy, gb, rfl, h9, hr, hz⟩ := hW
  obtain ⟨hS, hc, hx9, hG, hP0, hP1, hsv⟩ := hA
  rw [← ringO]
  refine Ct.mono (Ct.up (av2 := [.ref 0]) (M := (oW kn nk sz tx S (fun i => (ringP 6 i).map (rn πOM)) cnt nx σ (slotP 95) sv c0 r0 m0 ct B F Z Br Q Fo No Ho Mo In Sn Qn S2 c1 r1 m1 ct1 B1 F1 Z1 Br1 Q1 Fo1 No1 sd rt lf wy gb P0 P1)) (M2 := clM (ringP 6) kn nk S gb cnt nx σ) πOM 64 rfl rfl (by decide) (fun _ _ h => by first | (rw [h.2]; done) | (rw [h.2]; rfl)) (c_ablur hS hc hx9)) ?_
  rintro _ _ ⟨v2, M2, rfl, ⟨rfl, hp⟩, rfl⟩
  subst hp
  exact ⟨congrArg some (iv_w _), (0), (0), sz, tx, c0, r0, m0, ct, B, F, Z, Br, Q, Fo, No, Ho, Mo, In, Sn, Qn, S2, c1, r1, m1, ct1, B1, F1, Z1, Br1, Q1, Fo1, No1, sd, rt, lf, wy, (sG S), congrArg (fun f => (oW (0) (0) sz tx (gU S) (f) (min (cnt + 1) 14) ((nx + 1) % 14) (σP S nx σ) (slotP 95) sv c0 r0 m0 ct B F Z Br Q Fo No Ho Mo In Sn Qn S2 c1 r1 m1 ct1 B1 F1 Z1 Br1 Q1 Fo1 No1 sd rt lf wy (sG S) P0 P1)) ringO, CN_z h9, hr, hz⟩
theorem KN_invert (hA : VA A) (hW : WO A M) : Ct l yX6_invert cX6_invert 1 (some .int) rmX6_invert [.ref 0] M (fun u M8 => u = some (iv (w32 (aInv (jS A)))) ∧ WO (jAct A (gI (jS A))) M8) := by
  obtain ⟨S, cnt, nx, σ, P0, P1, sv⟩ := A
  obtain ⟨kn, nk, sz, tx, c0, r0, m0, ct, B, F, Z, Br, Q, Fo, No, Ho, Mo, In, Sn, Qn, S2, c1, r1, m1, ct1, B1, F1, Z1, Br1, Q1, Fo1, No1, sd, rt, lf, wy, gb, rfl, h9, hr, hz⟩ := hW
  obtain ⟨hS, hc, hx9, hG, hP0, hP1, hsv⟩ := hA
  rw [← ringO]
  refine Ct.mono (Ct.up (av2 := [.ref 0]) (M := (oW kn nk sz tx S (fun i => (ringP 6 i).map (rn πOM)) cnt nx σ (slotP 95) sv c0 r0 m0 ct B F Z Br Q Fo No Ho Mo In Sn Qn S2 c1 r1 m1 ct1 B1 F1 Z1 Br1 Q1 Fo1 No1 sd rt lf wy gb P0 P1)) (M2 := clM (ringP 6) kn nk S gb cnt nx σ) πOM 64 rfl rfl (by decide) (fun _ _ h => by first | (rw [h.2]; done) | (rw [h.2]; rfl)) (c_ainvert hS hc hx9)) ?_
  rintro _ _ ⟨v2, M2, rfl, ⟨rfl, hp⟩, rfl⟩
  subst hp
  exact ⟨congrArg some (iv_w _), (0), (0), sz, tx, c0, r0, m0, ct, B, F, Z, Br, Q, Fo, No, Ho, Mo, In, Sn, Qn, S2, c1, r1, m1, ct1, B1, F1, Z1, Br1, Q1, Fo1, No1, sd, rt, lf, wy, (gb), congrArg (fun f => (oW (0) (0) sz tx (gI S) (f) (min (cnt + 1) 14) ((nx + 1) % 14) (σP S nx σ) (slotP 95) sv c0 r0 m0 ct B F Z Br Q Fo No Ho Mo In Sn Qn S2 c1 r1 m1 ct1 B1 F1 Z1 Br1 Q1 Fo1 No1 sd rt lf wy (gb) P0 P1)) ringO, CN_z h9, hr, hz⟩
end KU2
