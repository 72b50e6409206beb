/-! ONE OBJECT as a value, and its world of 103 cells. Printed by wip/p37/gen/mkob.py. -/
abbrev Ob : Type := St × Int × Int × (Nat → St) × St × St × (Int → Int)
abbrev jS (A : Ob) : St := A.1
abbrev jC (A : Ob) : Int := A.2.1
abbrev jX (A : Ob) : Int := A.2.2.1
abbrev jG (A : Ob) : Nat → St := A.2.2.2.1
abbrev j0 (A : Ob) : St := A.2.2.2.2.1
abbrev j1 (A : Ob) : St := A.2.2.2.2.2.1
abbrev jV (A : Ob) : Int → Int := A.2.2.2.2.2.2
def VA (A : Ob) : Prop := SV (jS A) ∧ (0 ≤ jC A ∧ jC A ≤ 14) ∧ (0 ≤ jX A ∧ jX A < 14) ∧ (∀ i, SV (jG A i)) ∧ SV (j0 A) ∧ SV (j1 A) ∧ (∀ i, 0 ≤ jV A i ∧ jV A i ≤ 1)
def jAct (A : Ob) (T : St) : Ob := (T, min (jC A + 1) 14, (jX A + 1) % 14, σP (jS A) (jX A) (jG A), j0 A, j1 A, jV A)
def jUndo (A : Ob) : Ob := (jG A ((jX A + 13) % 14).toNat, jC A - 1, (jX A + 13) % 14, jG A, j0 A, j1 A, jV A)
def jSave (A : Ob) (v : Int) : Ob := (jS A, jC A, jX A, jG A, if v = 0 then jS A else j0 A, if v = 0 then j1 A else jS A, up (jV A) v 1)
def jRest (A : Ob) (v : Int) : Ob := (if v = 0 then j0 A else j1 A, 0, jX A, jG A, j0 A, j1 A, jV A)
theorem VA_act {A : Ob} (h : VA A) {T : St} (hT : SV T) : VA (jAct A T) := by
  obtain ⟨h1, h2, h3, h4, h5⟩ := h
  refine ⟨hT, ?_, ?_, fun i => ?_, h5⟩
  · show 0 ≤ min (jC A + 1) 14 ∧ min (jC A + 1) 14 ≤ 14; omega
  · show 0 ≤ (jX A + 1) % 14 ∧ (jX A + 1) % 14 < 14; omega
  · show SV (σP (jS A) (jX A) (jG A) i)
    unfold σP; split; exact h1; exact h4 i
theorem VA_undo {A : Ob} (h : VA A) (hc : jC A ≠ 0) : VA (jUndo A) := by
  obtain ⟨h1, h2, h3, h4, h5⟩ := h
  refine ⟨h4 _, ?_, ?_, h4, h5⟩
  · show 0 ≤ jC A - 1 ∧ jC A - 1 ≤ 14; omega
  · show 0 ≤ (jX A + 13) % 14 ∧ (jX A + 13) % 14 < 14; omega
theorem VA_save {A : Ob} (h : VA A) {v : Int} : VA (jSave A v) := by
  obtain ⟨h1, h2, h3, h4, h5, h6, h7⟩ := h
  refine ⟨h1, h2, h3, h4, ?_, ?_, fun i => ?_⟩
  · show SV (if v = 0 then jS A else j0 A); split; exact h1; exact h5
  · show SV (if v = 0 then j1 A else jS A); split; exact h6; exact h1
  · show 0 ≤ up (jV A) v 1 i ∧ up (jV A) v 1 i ≤ 1; unfold up; split; omega; exact h7 i
theorem VA_rest {A : Ob} (h : VA A) {v : Int} : VA (jRest A v) := by
  obtain ⟨h1, h2, h3, h4, h5, h6, h7⟩ := h
  refine ⟨?_, ⟨Int.le_refl _, by show (0 : Int) ≤ 14; omega⟩, h3, h4, h5, h6, h7⟩
  show SV (if v = 0 then j0 A else j1 A); split; exact h5; exact h6
abbrev oW (kn : Int) (nk : Int) (sz : Int) (tx : Int → Int) (S : St) (Rg : Nat → Option Nat) (cnt : Int) (nx : Int) (σ : Nat → St) (Rs : Nat → Option Nat) (sv : Int → Int) (c0 : Int) (r0 : Int) (m0 : Int) (ct : Int) (B : Int → Int) (F : Int → Int) (Z : Int → Int) (Br : Int → Int) (Q : Int → Int) (Fo : Int → Int) (No : Int → Int) (Ho : Int → Int) (Mo : Int → Int) (In : Int → Int) (Sn : Int → Int) (Qn : Int → Int) (S2 : St) (c1 : Int) (r1 : Int) (m1 : Int) (ct1 : Int) (B1 : Int → Int) (F1 : Int → Int) (Z1 : Int → Int) (Br1 : Int → Int) (Q1 : Int → Int) (Fo1 : Int → Int) (No1 : Int → Int) (sd : Int) (rt : Int) (lf : Int) (wy : Int) (gb : Int → Int) (P0 : St) (P1 : St) : List va_E := ob 6 [.ref 1, .ref 3, .ref 7, .ref 65, .ref 66, .ref 67, .ref 75, iv kn, iv nk, .ref 81, .ref 85, .ref 93, .ref 94] :: (txA 1 sz tx ++ (stS 3 S ++ (mmA 7 Rg cnt nx σ ++ (qa 2 Rs :: za 2 sv :: (isA 67 c0 r0 m0 ct B F Z Br Q Fo No ++ (nsA 75 Ho Mo In Sn Qn ++ (stS 81 S2 ++ (isA 85 c1 r1 m1 ct1 B1 F1 Z1 Br1 Q1 Fo1 No1 ++ (ob 3 [iv sd, iv rt, iv lf, iv wy] :: ia 144 gb :: (stS 95 P0 ++ stS 99 P1))))))))))
def WO : Ob → List va_E → Prop
  | (S, cnt, nx, σ, P0, P1, sv), M => ∃ (kn : Int) (nk : Int) (sz : Int) (tx : Int → Int) (c0 : Int) (r0 : Int) (m0 : Int) (ct : Int) (B : Int → Int) (F : Int → Int) (Z : Int → Int) (Br : Int → Int) (Q : Int → Int) (Fo : Int → Int) (No : Int → Int) (Ho : Int → Int) (Mo : Int → Int) (In : Int → Int) (Sn : Int → Int) (Qn : Int → Int) (S2 : St) (c1 : Int) (r1 : Int) (m1 : Int) (ct1 : Int) (B1 : Int → Int) (F1 : Int → Int) (Z1 : Int → Int) (Br1 : Int → Int) (Q1 : Int → Int) (Fo1 : Int → Int) (No1 : Int → Int) (sd : Int) (rt : Int) (lf : Int) (wy : Int) (gb : Int → Int), M = (oW kn nk sz tx S (ringP 7) cnt nx σ (slotP 95) sv c0 r0 m0 ct B F Z Br Q Fo No Ho Mo In Sn Qn S2 c1 r1 m1 ct1 B1 F1 Z1 Br1 Q1 Fo1 No1 sd rt lf wy gb P0 P1) ∧ CN S kn nk c0 r0 m0 ct B F Z Fo No Ho Mo In ∧ rwI B1 F1 Z1 ∧ (0 ≤ sz ∧ sz ≤ 120)
theorem WO_len {A : Ob} {M : List va_E} (h : WO A M) : M.length = 103 := by
  obtain ⟨S, cnt, nx, σ, P0, P1, sv⟩ := A
  obtain ⟨kn, nk, sz, tx, c0, r0, m0, ct, B, F, Z, Br, Q, Fo, No, Ho, Mo, In, Sn, Qn, S2, c1, r1, m1, ct1, B1, F1, Z1, Br1, Q1, Fo1, No1, sd, rt, lf, wy, gb, rfl, -⟩ := h
  rfl
theorem WO_ob {A : Ob} {M : List va_E} (h : WO A M) : ∃ fs, M[0]? = some (.inr (6, fs)) := by
  obtain ⟨S, cnt, nx, σ, P0, P1, sv⟩ := A
  obtain ⟨kn, nk, sz, tx, c0, r0, m0, ct, B, F, Z, Br, Q, Fo, No, Ho, Mo, In, Sn, Qn, S2, c1, r1, m1, ct1, B1, F1, Z1, Br1, Q1, Fo1, No1, sd, rt, lf, wy, gb, rfl, -⟩ := h
  exact ⟨_, rfl⟩
theorem WO_kc {A : Ob} {M : List va_E} (h : WO A M) : kcM 103 M := by
  obtain ⟨S, cnt, nx, σ, P0, P1, sv⟩ := A
  obtain ⟨kn, nk, sz, tx, c0, r0, m0, ct, B, F, Z, Br, Q, Fo, No, Ho, Mo, In, Sn, Qn, S2, c1, r1, m1, ct1, B1, F1, Z1, Br1, Q1, Fo1, No1, sd, rt, lf, wy, gb, rfl, -⟩ := h
  repeat' (first | exact True.intro | exact rfl | exact ringP_k (by decide) | exact slotP_k (by decide) | refine ⟨?_, ?_⟩)
theorem CN_z {S A : St} {kn nk c0 r0 m0 ct : Int} {B F Z Fo No Ho Mo In : Int → Int} (h : CN S kn nk c0 r0 m0 ct B F Z Fo No Ho Mo In) : CN A 0 0 c0 r0 m0 ct B F Z Fo No Ho Mo In := ⟨⟨h.1.1, Or.inl rfl⟩, Or.inl rfl⟩
def tw (k e1 e2 z : Int) : Int := if k = 0 then w32 z else if k = 1 then e1 else e2
theorem fit_1 {n : Nat} {M : List va_E} (h : M.length = n) (hc : kcM n M) : fitX (List.range' 0 n) n M M := by
  have := fit_id (T := []) (R := []) h hc
  rw [List.append_nil, List.append_nil] at this; exact this
theorem pb_1 {n : Nat} {M M' : List va_E} (h : M.length = n) (h' : M'.length = n) (hc : kcM n M') : pb (List.range' 0 n) M M' = M' := by
  have := pb_id (T := []) (R := []) h h' hc
  rw [List.append_nil, List.append_nil, List.append_nil] at this; exact this
theorem nd_1 (n : Nat) : ((List.range' 0 n).take n).Nodup := by
  have := nd_id n []
  rw [List.append_nil] at this; exact this
