/-! THE LAW: its world; what holds between two commands. Printed by wip/whole/gen/mk90.py. -/
abbrev lwW (kn : Int) (nk : Int) (sz : Int) (tx : Int → Int) (S : St) (Rg : Nat → Option Nat) (cnt : Int) (nx : Int) (σ : Nat → St) (Rs : Nat → Option Nat) (sv : Int → Int) (c0 : Int) (r0 : Int) (m0 : Int) (ct : Int) (B : Int → Int) (F : Int → Int) (Z : Int → Int) (Br : Int → Int) (Q : Int → Int) (Fo : Int → Int) (No : Int → Int) (Ho : Int → Int) (Mo : Int → Int) (In : Int → Int) (Sn : Int → Int) (Qn : Int → Int) (S2 : St) (c1 : Int) (r1 : Int) (m1 : Int) (ct1 : Int) (B1 : Int → Int) (F1 : Int → Int) (Z1 : Int → Int) (Br1 : Int → Int) (Q1 : Int → Int) (Fo1 : Int → Int) (No1 : Int → Int) (sd : Int) (rt : Int) (lf : Int) (wy : Int) (gb : Int → Int) (P0 : St) (P1 : St) (rf : Int) (S3 : St) (S4 : St) (ac : Int) (Bm : Int → Int) (Im : Int → Int) (mm : Int) (Fi : Int → Int) (Co : Int → Int) (Bq : Int → Int) (Wt : Int → Int) (mk : Int → Int) (gy : Int → Int) (di : Int → Int) (ke : Int → Int) (ik : Int → Int) (ea : Int → Int) (sd2 : Int) (rt2 : Int) (lf2 : Int) (wy2 : Int) (sp : Int) (ou : Int) (fo : Int → Int) : List va_E := ob 6 [.ref 1, .ref 3, .ref 7, .ref 65, .ref 66, .ref 67, .ref 75, iv kn, iv nk, .ref 81, .ref 85, .ref 93, .ref 94] :: (txA 1 sz tx ++ (stS 3 S ++ (mmA 7 Rg cnt nx σ ++ (qa 2 Rs :: za 2 sv :: (isA 67 c0 r0 m0 ct B F Z Br Q Fo No ++ (nsA 75 Ho Mo In Sn Qn ++ (stS 81 S2 ++ (isA 85 c1 r1 m1 ct1 B1 F1 Z1 Br1 Q1 Fo1 No1 ++ (ob 3 [iv sd, iv rt, iv lf, iv wy] :: ia 144 gb :: (stS 95 P0 ++ (stS 99 P1 ++ (ob 7 [iv rf, .ref 104, iv sz, .ref 105, .ref 106, .ref 107, iv ac, .ref 108, .ref 109, .ref 110, .ref 111, iv mm, .ref 112, .ref 113, .ref 114, .ref 115, .ref 116, .ref 117, .ref 118, iv sd2, iv rt2, iv lf2, iv wy2, iv sp, iv ou] :: [ia 120 tx, ia 160 (rowS S3), ia 160 (rowS S4), ia 2240 di, ia 320 ke, za 2 ik, ia 144 Bm, ia 144 Im, ia 144 Fi, ia 144 Co, ia 144 Bq, ia 144 Wt, ia 144 mk, ia 144 gy, ia 144 ea, la 1 fo]))))))))))))
def INV (M : List va_E) : Prop := ∃ (kn : Int) (nk : Int) (sz : Int) (tx : Int → Int) (S : St) (cnt : Int) (nx : Int) (σ : Nat → St) (sv : Int → Int) (c0 : Int) (r0 : Int) (m0 : Int) (ct : Int) (B : Int → Int) (F : Int → Int) (Z : Int → Int) (Br : Int → Int) (Q : Int → Int) (Fo : Int → Int) (No : Int → Int) (Ho : Int → Int) (Mo : Int → Int) (In : Int → Int) (Sn : Int → Int) (Qn : Int → Int) (S2 : St) (c1 : Int) (r1 : Int) (m1 : Int) (ct1 : Int) (B1 : Int → Int) (F1 : Int → Int) (Z1 : Int → Int) (Br1 : Int → Int) (Q1 : Int → Int) (Fo1 : Int → Int) (No1 : Int → Int) (sd : Int) (rt : Int) (lf : Int) (wy : Int) (gb : Int → Int) (P0 : St) (P1 : St) (rf : Int) (S3 : St) (S4 : St) (ac : Int) (Bm : Int → Int) (Im : Int → Int) (mm : Int) (Fi : Int → Int) (Co : Int → Int) (Bq : Int → Int) (Wt : Int → Int) (mk : Int → Int) (gy : Int → Int) (di : Int → Int) (ke : Int → Int) (ik : Int → Int) (ea : Int → Int) (sd2 : Int) (rt2 : Int) (lf2 : Int) (wy2 : Int) (sp : Int) (ou : Int) (fo : Int → Int), M = (lwW kn nk sz tx S (ringP 7) cnt nx σ (slotP 95) sv c0 r0 m0 ct B F Z Br Q Fo No Ho Mo In Sn Qn S2 c1 r1 m1 ct1 B1 F1 Z1 Br1 Q1 Fo1 No1 sd rt lf wy gb P0 P1 rf S3 S4 ac Bm Im mm Fi Co Bq Wt mk gy di ke ik ea sd2 rt2 lf2 wy2 sp ou fo) ∧ CN S kn nk c0 r0 m0 ct B F Z Fo No Ho Mo In ∧ rwI B1 F1 Z1 ∧ (∀ i, 0 ≤ Bm i ∧ Bm i ≤ 5) ∧ (∀ i, rg (Im i)) ∧ TW S S3 ∧ RM cnt nx σ ac di ∧ RK P0 P1 sv ik ke ∧ REt sz tx
abbrev πL_X : List Nat := [0, 1, 2, 119, 3, 7, 65, 66, 67, 75, 81, 85, 93, 94]
theorem nd_X : (πL_X.take 4).Nodup := by decide
abbrev πL_L : List Nat := [0, 3, 4, 5, 6, 94, 1, 2, 66, 7, 119, 65, 67, 75, 81, 85, 93, 8]
theorem nd_L : (πL_L.take 11).Nodup := by decide
abbrev πL_T : List Nat := [0, 3, 4, 5, 6, 119, 67, 0, 0, 0, 0, 0, 0, 0, 75, 0, 0, 0, 0, 0, 93, 81, 0, 0, 0, 85, 0, 0, 0, 0, 0, 0, 0, 94, 1, 0, 65, 0, 0, 0, 0, 0, 0, 0, 0, 66, 7]
theorem nd_T : (πL_T.take 6).Nodup := by decide
abbrev πL_B : List Nat := [0, 3, 4, 5, 6, 67, 68, 69, 70, 71, 72, 73, 74, 75, 76, 77, 78, 79, 80, 119, 93, 81, 0, 0, 0, 85, 0, 0, 0, 0, 0, 0, 0, 94, 1, 0, 65, 0, 0, 0, 0, 0, 0, 0, 0, 66, 7]
theorem nd_B : (πL_B.take 20).Nodup := by decide
abbrev πL_C : List Nat := [0, 3, 4, 5, 6, 67, 68, 69, 70, 71, 72, 73, 74, 75, 76, 77, 78, 79, 80, 93, 119, 81, 0, 0, 0, 85, 0, 0, 0, 0, 0, 0, 0, 94, 1, 0, 65, 0, 0, 0, 0, 0, 0, 0, 0, 66, 7]
theorem nd_C : (πL_C.take 21).Nodup := by decide
abbrev πL_D : List Nat := [0, 3, 4, 5, 6, 67, 68, 69, 70, 71, 72, 73, 74, 75, 76, 77, 78, 79, 80, 93, 81, 82, 83, 84, 85, 86, 87, 88, 89, 90, 91, 92, 94, 119, 1, 0, 65, 0, 0, 0, 0, 0, 0, 0, 0, 66, 7]
theorem nd_D : (πL_D.take 34).Nodup := by decide
abbrev πL_U : List Nat := [0, 81, 82, 83, 84, 85, 86, 87, 88, 89, 90, 91, 92, 94, 3, 4, 5, 6, 119, 1, 7, 65, 66, 67, 75, 93]
theorem nd_U : (πL_U.take 19).Nodup := by decide
abbrev πL_M : List Nat := [0, 3, 4, 5, 6, 94, 7, 8, 9, 10, 11, 12, 13, 14, 15, 16, 17, 18, 19, 20, 21, 22, 23, 24, 25, 26, 27, 28, 29, 30, 31, 32, 33, 34, 35, 36, 37, 38, 39, 40, 41, 42, 43, 44, 45, 46, 47, 48, 49, 50, 51, 52, 53, 54, 55, 56, 57, 58, 59, 60, 61, 62, 63, 64, 119, 1, 65, 66, 67, 75, 81, 85, 93]
theorem nd_M : (πL_M.take 65).Nodup := by decide
abbrev πL_S : List Nat := [0, 3, 4, 5, 6, 65, 95, 96, 97, 98, 99, 100, 101, 102, 66, 7, 119, 1, 67, 75, 81, 85, 93, 94, 8]
theorem nd_S : (πL_S.take 17).Nodup := by decide
abbrev πMd : List Nat := [0, 3, 4, 5, 6, 94, 7, 8, 9, 10, 11, 12, 13, 14, 15, 16, 17, 18, 19, 20, 21, 22, 23, 24, 25, 26, 27, 28, 29, 30, 31, 32, 33, 34, 35, 36, 37, 38, 39, 40, 41, 42, 43, 44, 45, 46, 47, 48, 49, 50, 51, 52, 53, 54, 55, 56, 57, 58, 59, 60, 61, 62, 63, 64, 1, 65, 66, 67, 75, 81, 85, 93]
def ρM : Nat → Option Nat := fun i => ((ringP 6 i).map (rn (πs 64 72))).map (rn πL_M)
theorem ρM_eq : ρM = ringP 7 := by
  have e1 := ring_eq 6 6 (πs 64 72) (by decide)
  have e2 := ring_eq 6 7 πL_M (by decide)
  rw [← e2]; funext i; unfold ρM; rw [show (ringP 6 i).map (rn (πs 64 72)) = ringP 6 i from congrFun e1 i]
def ρD : Nat → Option Nat := fun i => (ringP 6 i).map (rn πMd)
theorem ρD_eq : ρD = ringP 7 := ring_eq 6 7 πMd (by decide)
def ρS : Nat → Option Nat := fun i => ((slotP 6 i).map (rn (πs 16 24))).map (rn πL_S)
theorem ρS_eq : ρS = slotP 95 := by
  have e1 := slot_eq 6 6 (πs 16 24) (by decide)
  have e2 := slot_eq 6 95 πL_S (by decide)
  rw [← e2]; funext i; unfold ρS; rw [show (slotP 6 i).map (rn (πs 16 24)) = slotP 6 i from congrFun e1 i]
abbrev ll (a b : Int) : Int := (Int64.ofInt (shl a 32) ||| Int64.ofInt (Int64.ofInt b &&& Int64.ofInt 4294967295).toInt).toInt
abbrev OKL (X : Cx) : Prop := OK X cL_law RL (some .boolean) room_1 (fun _ _ => False) 601024 7293034
def PRE (X : Cx) (b L : Nat) (xs : Nat → Int32) (i : Int) (kc ks : Nat) : Prop := EX X ∧ nLof X = 7 ∧ SCR X b L xs ∧ (0 ≤ i ∧ i + 6 ≤ L) ∧ L ≤ 3072 ∧ X.1.2.1.stackTraces = false ∧ kc + 1 ≤ 601024 ∧ ks + 6 ≤ 7293034
theorem TW_if {K K3 : Int} {S S3 A A3 : St} (e : K3 = K) (t : TW S S3) (h : K = 0 → TW A A3) : TW (if K = 0 then A else S) (if K3 = 0 then A3 else S3) := by
  subst e
  by_cases z : K3 = 0
  · rw [if_pos z, if_pos z]; exact h z
  · rw [if_neg z, if_neg z]; exact t
theorem RM_if {K K3 cnt nx ac : Int} {σ : Nat → St} {di : Int → Int} {S S3 : St} (e : K3 = K) (h : RM cnt nx σ ac di) (t : TW S S3) : RM (if K = 0 then min (cnt + 1) 14 else cnt) (if K = 0 then (nx + 1) % 14 else nx) (if K = 0 then σP S nx σ else σ) (if K3 = 0 then aP ac else ac) (if K3 = 0 then dP S3 ac di else di) := by
  subst e
  by_cases z : K3 = 0
  · simp only [if_pos z]; exact RM_act h t
  · simp only [if_neg z]; exact h
theorem CN_if {K : Int} {S A : St} {kn nk c0 r0 m0 ct : Int} {B F Z Fo No Ho Mo In : Int → Int} (h : CN S kn nk c0 r0 m0 ct B F Z Fo No Ho Mo In) : CN (if K = 0 then A else S) (if K = 0 then 0 else kn) (if K = 0 then 0 else nk) c0 r0 m0 ct B F Z Fo No Ho Mo In := by
  by_cases z : K = 0
  · simp only [if_pos z]; exact ⟨⟨h.1.1, Or.inl rfl⟩, Or.inl rfl⟩
  · simp only [if_neg z]; exact h
theorem CN_z {S A : St} {kn nk c0 r0 m0 ct : Int} {B F Z Fo No Ho Mo In : Int → Int} (h : CN S kn nk c0 r0 m0 ct B F Z Fo No Ho Mo In) : CN A 0 0 c0 r0 m0 ct B F Z Fo No Ho Mo In := ⟨⟨h.1.1, Or.inl rfl⟩, Or.inl rfl⟩
