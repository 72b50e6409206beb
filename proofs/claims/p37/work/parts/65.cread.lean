/-! THE CLASS: what there is. -/
section CW2
variable {l : Launch} {S : St} {kn nk c0 r0 m0 ct : Int} {B F Z Br Q Fo No Ho Mo In Sn Qn : Int → Int} {sd rt lf wy : Int} {S2 : St} {c1 r1 m1 ct1 : Int} {B1 F1 Z1 Br1 Q1 Fo1 No1 gb : Int → Int} {sz : Int} {tx : Int → Int} {c r : Int} {b : Int → Int} {L i : Int}
def RB (S : St) (M : List va_E) : Prop := ∃ (kn nk c0 r0 m0 ct : Int) (B F Z Br Q Fo No Ho Mo In Sn Qn : Int → Int), M = (clB S kn nk c0 r0 m0 ct B F Z Br Q Fo No Ho Mo In Sn Qn) ∧ CN S kn nk c0 r0 m0 ct B F Z Fo No Ho Mo In
def RC (S : St) (M : List va_E) : Prop := ∃ (kn nk c0 r0 m0 ct : Int) (B F Z Br Q Fo No Ho Mo In Sn Qn : Int → Int) (sd rt lf wy : Int), M = (clC S kn nk c0 r0 m0 ct B F Z Br Q Fo No Ho Mo In Sn Qn sd rt lf wy) ∧ CN S kn nk c0 r0 m0 ct B F Z Fo No Ho Mo In
def RD (S : St) (M : List va_E) : Prop := ∃ (kn nk c0 r0 m0 ct : Int) (B F Z Br Q Fo No Ho Mo In Sn Qn : Int → Int) (sd rt lf wy : Int) (S2 : St) (c1 r1 m1 ct1 : Int) (B1 F1 Z1 Br1 Q1 Fo1 No1 gb : Int → Int), M = (clD S kn nk c0 r0 m0 ct B F Z Br Q Fo No Ho Mo In Sn Qn sd rt lf wy S2 c1 r1 m1 ct1 B1 F1 Z1 Br1 Q1 Fo1 No1 gb) ∧ CN S kn nk c0 r0 m0 ct B F Z Fo No Ho Mo In ∧ rwI B1 F1 Z1
theorem RB_mk (h : CN S kn nk c0 r0 m0 ct B F Z Fo No Ho Mo In) : RB S (clB S kn nk c0 r0 m0 ct B F Z Br Q Fo No Ho Mo In Sn Qn) := ⟨kn, nk, c0, r0, m0, ct, B, F, Z, Br, Q, Fo, No, Ho, Mo, In, Sn, Qn, rfl, h⟩
theorem RC_mk (h : CN S kn nk c0 r0 m0 ct B F Z Fo No Ho Mo In) : RC S (clC S kn nk c0 r0 m0 ct B F Z Br Q Fo No Ho Mo In Sn Qn sd rt lf wy) := ⟨kn, nk, c0, r0, m0, ct, B, F, Z, Br, Q, Fo, No, Ho, Mo, In, Sn, Qn, sd, rt, lf, wy, rfl, h⟩
theorem RD_mk (h : CN S kn nk c0 r0 m0 ct B F Z Fo No Ho Mo In) (h2 : rwI B1 F1 Z1) : RD S (clD S kn nk c0 r0 m0 ct B F Z Br Q Fo No Ho Mo In Sn Qn sd rt lf wy S2 c1 r1 m1 ct1 B1 F1 Z1 Br1 Q1 Fo1 No1 gb) := ⟨kn, nk, c0, r0, m0, ct, B, F, Z, Br, Q, Fo, No, Ho, Mo, In, Sn, Qn, sd, rt, lf, wy, S2, c1, r1, m1, ct1, B1, F1, Z1, Br1, Q1, Fo1, No1, gb, rfl, h, h2⟩
theorem RB_len {M : List va_E} (h : RB S M) : M.length = 19 := by obtain ⟨kn, nk, c0, r0, m0, ct, B, F, Z, Br, Q, Fo, No, Ho, Mo, In, Sn, Qn, rfl, -⟩ := h; rfl
theorem RC_len {M : List va_E} (h : RC S M) : M.length = 20 := by obtain ⟨kn, nk, c0, r0, m0, ct, B, F, Z, Br, Q, Fo, No, Ho, Mo, In, Sn, Qn, sd, rt, lf, wy, rfl, -⟩ := h; rfl
theorem RD_len {M : List va_E} (h : RD S M) : M.length = 33 := by obtain ⟨kn, nk, c0, r0, m0, ct, B, F, Z, Br, Q, Fo, No, Ho, Mo, In, Sn, Qn, sd, rt, lf, wy, S2, c1, r1, m1, ct1, B1, F1, Z1, Br1, Q1, Fo1, No1, gb, rfl, -, -⟩ := h; rfl
theorem CN_p {ct' : Int} {B' F' Z' Fo' No' : Int → Int} (h : CN S kn nk c0 r0 m0 ct B F Z Fo No Ho Mo In) (hI : IS S ct' B' F' Z' Fo' No') : CN S 1 nk (sC S) (sR S) (sC S * sR S) ct' B' F' Z' Fo' No' Ho Mo In := ⟨CI_1 hI, h.2.imp id fun z => ⟨z.1, rfl, z.2.2⟩⟩
theorem CN_n {Ho' Mo' In' : Int → Int} (hI : IS S ct B F Z Fo No) (hN : NS S Ho' Mo' In') : CN S 1 1 (sC S) (sR S) (sC S * sR S) ct B F Z Fo No Ho' Mo' In' := ⟨CI_1 hI, Or.inr ⟨rfl, rfl, hN⟩⟩
/-! an island's number for its first cell -/
theorem c_firstCellI (hd : dim c r) (hL : cel c r L) (hl : lw c r b L = L) (hi : rk c r b L = i) (hI : IW c r b ct B F Z Fo No) : Cd l yX0_firstCell cX0_firstCell 2 (some .int) rmX0_firstCell [.ref 0, iv i] (isM c r (c * r) ct B F Z Br Q Fo No) (some (iv L)) (isM c r (c * r) ct B F Z Br Q Fo No) := by subst hi; exact c_firstCell hd hL hl hI
theorem c_sizeI (hd : dim c r) (hL : cel c r L) (hl : lw c r b L = L) (hi : rk c r b L = i) (hI : IW c r b ct B F Z Fo No) : Cd l yX0_size cX0_size 2 (some .int) rmX0_size [.ref 0, iv i] (isM c r (c * r) ct B F Z Br Q Fo No) (some (iv (siz c r b L))) (isM c r (c * r) ct B F Z Br Q Fo No) := by subst hi; exact c_size hd hL hl hI
theorem c_bandOfI (hd : dim c r) (hL : cel c r L) (hl : lw c r b L = L) (hi : rk c r b L = i) (hI : IW c r b ct B F Z Fo No) : Cd l yX0_bandOf cX0_bandOf 2 (some .int) rmX0_bandOf [.ref 0, iv i] (isM c r (c * r) ct B F Z Br Q Fo No) (some (iv (b L))) (isM c r (c * r) ct B F Z Br Q Fo No) := by subst hi; exact c_ibandOf hd hL hl hI
theorem c_sidesToOthersI (hd : dim c r) (hL : cel c r L) (hl : lw c r b L = L) (hi : rk c r b L = i) (hI : IW c r b ct B F Z Fo No) : Cd l yX0_sidesToOthers cX0_sidesToOthers 4 (some .int) rmX0_sidesToOthers [.ref 0, iv i] (isM c r (c * r) ct B F Z Br Q Fo No) (some (iv (soK c r b L (c * r).toNat))) (isM c r (c * r) ct B F Z (fun j => brd c r b L j) Q Fo No) := by subst hi; rw [← so_brd hd L]; exact c_sidesToOthers hd hL hl hI
theorem c_sidesAtEdgeI (hd : dim c r) (hL : cel c r L) (hl : lw c r b L = L) (hi : rk c r b L = i) (hI : IW c r b ct B F Z Fo No) : Cd l yX0_sidesAtEdge cX0_sidesAtEdge 5 (some .int) rmX0_sidesAtEdge [.ref 0, iv i] (isM c r (c * r) ct B F Z Br Q Fo No) (some (iv (esK c r b L (c * r).toNat))) (isM c r (c * r) ct B F Z Br Q Fo No) := by subst hi; exact c_sidesAtEdge hd hL hl hI
theorem c_neighbourCountI (hd : dim c r) (hL : cel c r L) (hl : lw c r b L = L) (hi : rk c r b L = i) (hI : IW c r b ct B F Z Fo No) : Cd l yX0_neighbourCount cX0_neighbourCount 4 (some .int) rmX0_neighbourCount [.ref 0, iv i] (isM c r (c * r) ct B F Z Br Q Fo No) (some (iv (cntK (fun j => decide (0 < brd c r b L j)) (c * r).toNat))) (isM c r (c * r) ct B F Z (fun j => brd c r b L j) Q Fo No) := by subst hi; exact c_neighbourCount hd hL hl hI
theorem c_commonSidesI {L' j : Int} (hd : dim c r) (hL : cel c r L) (hl : lw c r b L = L) (hi : rk c r b L = i) (hL' : cel c r L') (hl' : lw c r b L' = L') (hj : rk c r b L' = j) (hI : IW c r b ct B F Z Fo No) : Cd l yX0_commonSides cX0_commonSides 3 (some .int) rmX0_commonSides [.ref 0, iv i, iv j] (isM c r (c * r) ct B F Z Br Q Fo No) (some (iv (brd c r b L L'))) (isM c r (c * r) ct B F Z (fun j => brd c r b L j) Q Fo No) := by subst hi; subst hj; exact c_commonSides hd hL hl hL' hl' hI
theorem siz_pos (hd : dim c r) (hL : cel c r L) (hl : lw c r b L = L) : 1 ≤ siz c r b L := by
  have h := cntK_pos (p := fun j => decide (lw c r b j = L)) (k := L.toNat) (by rw [Int.toNat_of_nonneg hL.1]; exact decide_eq_true hl) (c * r).toNat (by have a := hL.1; have d := hL.2; omega)
  unfold siz; omega
theorem mrg_1 (hd : dim c r) : mrg c r 1 144 b = b := mrg_f _ fun z => by
  rcases smK_ok (c := c) (r := r) (B := b) (le := 1) (c * r).toNat with h | ⟨h1, h2, h3, h4⟩
  · exact z.2 h
  · have := siz_pos hd ⟨h1, by omega⟩ h3
    omega
theorem mS_IS (hI : IS S ct B F Z Fo No) : ct = mS S := hI.2.2.2.2.2.2.1
theorem dX6_thresholdAt_0 : decode cX6_thresholdAt 0 = .ok (.aload_n 0, 1) := by decide +kernel
theorem dX6_thresholdAt_1 : decode cX6_thresholdAt 1 = .ok (.getfield 19, 3) := by decide +kernel
theorem dX6_thresholdAt_4 : decode cX6_thresholdAt 4 = .ok (.iload_n 1, 1) := by decide +kernel
theorem dX6_thresholdAt_5 : decode cX6_thresholdAt 5 = .ok (.invokevirtual 229, 3) := by decide +kernel
theorem dX6_thresholdAt_8 : decode cX6_thresholdAt 8 = .ok (.invokestatic 203, 3) := by decide +kernel
theorem dX6_thresholdAt_11 : decode cX6_thresholdAt 11 = .ok (.aload_n 0, 1) := by decide +kernel
theorem dX6_thresholdAt_12 : decode cX6_thresholdAt 12 = .ok (.getfield 19, 3) := by decide +kernel
theorem dX6_thresholdAt_15 : decode cX6_thresholdAt 15 = .ok (.getfield 232, 3) := by decide +kernel
theorem dX6_thresholdAt_18 : decode cX6_thresholdAt 18 = .ok (.iload_n 1, 1) := by decide +kernel
theorem dX6_thresholdAt_19 : decode cX6_thresholdAt 19 = .ok (.iaload, 1) := by decide +kernel
theorem dX6_thresholdAt_20 : decode cX6_thresholdAt 20 = .ok (.ireturn, 1) := by decide +kernel
theorem c_thresholdAt {k : Int} (hS : SV S) (h : kIn k 0 (sN S - 1) = 0) (hk : rg k) : Cd l yX6_thresholdAt cX6_thresholdAt 2 (some .int) rmX6_thresholdAt [.ref 0, iv k] (obC kn nk :: stS 1 S) (some (iv (sT S k))) (obC kn nk :: stS 1 S) := by
  refine Ct.of miX6_thresholdAt (Nat.le_of_ble_eq_true rfl) ?_
  intro X hXl hN ok
  refine AW.cast (L2 := [some (.ref 0), some (iv k)]) ?_ rfl rfl rfl
  have hn := hS.2.2.2.2.1
  have h2 := kIn_0 h
  refine a_aload_n (pc := 0) ok dX6_thresholdAt_0 rfl ?_
  refine a_getf (pc := 1) ok dX6_thresholdAt_1 fl6_19 rfl rfl ?_
  refine a_iload_n (pc := 4) ok dX6_thresholdAt_4 rfl ?_
  refine a_callVp (pc := 5) ok [1, 2, 3, 4] dX6_thresholdAt_5 mv6_229 miX4_hasThreshold (c_hasThreshold (by omega) hk) ⟨by decide, by decide, rfl, rfl, Nat.zero_le _, Nat.zero_le _⟩ rfl rfl (Nat.le_of_ble_eq_true rfl) rfl (by decide) rfl rfl ?_
  refine a_callSv (pc := 8) ok [] dX6_thresholdAt_8 mv6_203 miX6_mustExist (c_mustExist (bz_pos (by omega))) ⟨by decide, by decide, rfl, rfl, Nat.zero_le _, Nat.zero_le _⟩ rfl rfl (Nat.le_of_ble_eq_true rfl) rfl (by decide) rfl ?_
  refine a_aload_n (pc := 11) ok dX6_thresholdAt_11 rfl ?_
  refine a_getf (pc := 12) ok dX6_thresholdAt_12 fl6_19 rfl rfl ?_
  refine a_getf (pc := 15) ok dX6_thresholdAt_15 fl6_232 rfl rfl ?_
  refine a_iload_n (pc := 18) ok dX6_thresholdAt_18 rfl ?_
  refine a_iald (pc := 19) ok dX6_thresholdAt_19 rfl (by first | decide | omega) (by first | omega | (unfold rg; omega) | (simp only [rg] at *; omega) | exact bz_rg _ | grind [rg]) ?_
  exact a_iret (pc := 20) ok dX6_thresholdAt_20 (⟨rfl, rfl⟩)
theorem dX6_cellOf_0 : decode cX6_cellOf 0 = .ok (.aload_n 0, 1) := by decide +kernel
theorem dX6_cellOf_1 : decode cX6_cellOf 1 = .ok (.getfield 19, 3) := by decide +kernel
theorem dX6_cellOf_4 : decode cX6_cellOf 4 = .ok (.iload_n 1, 1) := by decide +kernel
theorem dX6_cellOf_5 : decode cX6_cellOf 5 = .ok (.iload_n 2, 1) := by decide +kernel
theorem dX6_cellOf_6 : decode cX6_cellOf 6 = .ok (.invokevirtual 199, 3) := by decide +kernel
theorem dX6_cellOf_9 : decode cX6_cellOf 9 = .ok (.invokestatic 203, 3) := by decide +kernel
theorem dX6_cellOf_12 : decode cX6_cellOf 12 = .ok (.iload_n 3, 1) := by decide +kernel
theorem dX6_cellOf_13 : decode cX6_cellOf 13 = .ok (.iconst 0, 1) := by decide +kernel
theorem dX6_cellOf_14 : decode cX6_cellOf 14 = .ok (.iconst 5, 1) := by decide +kernel
theorem dX6_cellOf_15 : decode cX6_cellOf 15 = .ok (.invokestatic 76, 3) := by decide +kernel
theorem dX6_cellOf_18 : decode cX6_cellOf 18 = .ok (.aload_n 0, 1) := by decide +kernel
theorem dX6_cellOf_19 : decode cX6_cellOf 19 = .ok (.getfield 19, 3) := by decide +kernel
theorem dX6_cellOf_22 : decode cX6_cellOf 22 = .ok (.iload_n 1, 1) := by decide +kernel
theorem dX6_cellOf_23 : decode cX6_cellOf 23 = .ok (.iload_n 2, 1) := by decide +kernel
theorem dX6_cellOf_24 : decode cX6_cellOf 24 = .ok (.invokevirtual 207, 3) := by decide +kernel
theorem dX6_cellOf_27 : decode cX6_cellOf 27 = .ok (.istore 4, 2) := by decide +kernel
theorem dX6_cellOf_29 : decode cX6_cellOf 29 = .ok (.iload_n 3, 1) := by decide +kernel
theorem dX6_cellOf_30 : decode cX6_cellOf 30 = .ok (.tableswitch 98 0 4 #[34, 37, 47, 64, 81], 34) := by decide +kernel
theorem dX6_cellOf_64 : decode cX6_cellOf 64 = .ok (.iload 4, 2) := by decide +kernel
theorem dX6_cellOf_66 : decode cX6_cellOf 66 = .ok (.ireturn, 1) := by decide +kernel
theorem dX6_cellOf_67 : decode cX6_cellOf 67 = .ok (.aload_n 0, 1) := by decide +kernel
theorem dX6_cellOf_68 : decode cX6_cellOf 68 = .ok (.getfield 19, 3) := by decide +kernel
theorem dX6_cellOf_71 : decode cX6_cellOf 71 = .ok (.iload 4, 2) := by decide +kernel
theorem dX6_cellOf_73 : decode cX6_cellOf 73 = .ok (.invokevirtual 211, 3) := by decide +kernel
theorem dX6_cellOf_76 : decode cX6_cellOf 76 = .ok (.ireturn, 1) := by decide +kernel
theorem dX6_cellOf_77 : decode cX6_cellOf 77 = .ok (.aload_n 0, 1) := by decide +kernel
theorem dX6_cellOf_78 : decode cX6_cellOf 78 = .ok (.invokevirtual 168, 3) := by decide +kernel
theorem dX6_cellOf_81 : decode cX6_cellOf 81 = .ok (.aload_n 0, 1) := by decide +kernel
theorem dX6_cellOf_82 : decode cX6_cellOf 82 = .ok (.getfield 19, 3) := by decide +kernel
theorem dX6_cellOf_85 : decode cX6_cellOf 85 = .ok (.iload_n 1, 1) := by decide +kernel
theorem dX6_cellOf_86 : decode cX6_cellOf 86 = .ok (.iload_n 2, 1) := by decide +kernel
theorem dX6_cellOf_87 : decode cX6_cellOf 87 = .ok (.invokevirtual 214, 3) := by decide +kernel
theorem dX6_cellOf_90 : decode cX6_cellOf 90 = .ok (.invokevirtual 217, 3) := by decide +kernel
theorem dX6_cellOf_93 : decode cX6_cellOf 93 = .ok (.ireturn, 1) := by decide +kernel
theorem dX6_cellOf_94 : decode cX6_cellOf 94 = .ok (.aload_n 0, 1) := by decide +kernel
theorem dX6_cellOf_95 : decode cX6_cellOf 95 = .ok (.invokevirtual 168, 3) := by decide +kernel
theorem dX6_cellOf_98 : decode cX6_cellOf 98 = .ok (.aload_n 0, 1) := by decide +kernel
theorem dX6_cellOf_99 : decode cX6_cellOf 99 = .ok (.getfield 19, 3) := by decide +kernel
theorem dX6_cellOf_102 : decode cX6_cellOf 102 = .ok (.iload_n 1, 1) := by decide +kernel
theorem dX6_cellOf_103 : decode cX6_cellOf 103 = .ok (.iload_n 2, 1) := by decide +kernel
theorem dX6_cellOf_104 : decode cX6_cellOf 104 = .ok (.invokevirtual 214, 3) := by decide +kernel
theorem dX6_cellOf_107 : decode cX6_cellOf 107 = .ok (.invokevirtual 220, 3) := by decide +kernel
theorem dX6_cellOf_110 : decode cX6_cellOf 110 = .ok (.ireturn, 1) := by decide +kernel
theorem dX6_cellOf_111 : decode cX6_cellOf 111 = .ok (.aload_n 0, 1) := by decide +kernel
theorem dX6_cellOf_112 : decode cX6_cellOf 112 = .ok (.invokevirtual 168, 3) := by decide +kernel
theorem dX6_cellOf_115 : decode cX6_cellOf 115 = .ok (.aload_n 0, 1) := by decide +kernel
theorem dX6_cellOf_116 : decode cX6_cellOf 116 = .ok (.getfield 19, 3) := by decide +kernel
theorem dX6_cellOf_119 : decode cX6_cellOf 119 = .ok (.iload_n 1, 1) := by decide +kernel
theorem dX6_cellOf_120 : decode cX6_cellOf 120 = .ok (.iload_n 2, 1) := by decide +kernel
theorem dX6_cellOf_121 : decode cX6_cellOf 121 = .ok (.invokevirtual 214, 3) := by decide +kernel
theorem dX6_cellOf_124 : decode cX6_cellOf 124 = .ok (.invokevirtual 223, 3) := by decide +kernel
theorem dX6_cellOf_127 : decode cX6_cellOf 127 = .ok (.ireturn, 1) := by decide +kernel
theorem dX6_cellOf_128 : decode cX6_cellOf 128 = .ok (.aload_n 0, 1) := by decide +kernel
theorem dX6_cellOf_129 : decode cX6_cellOf 129 = .ok (.getfield 19, 3) := by decide +kernel
theorem dX6_cellOf_132 : decode cX6_cellOf 132 = .ok (.iload 4, 2) := by decide +kernel
theorem dX6_cellOf_134 : decode cX6_cellOf 134 = .ok (.invokevirtual 226, 3) := by decide +kernel
theorem dX6_cellOf_137 : decode cX6_cellOf 137 = .ok (.ireturn, 1) := by decide +kernel
theorem c_cellOf {x y what : Int} (hS : SV S) (h : CN S kn nk c0 r0 m0 ct B F Z Fo No Ho Mo In) (h0 : kCell S x y what 5 = 0) (hx : rg x) (hy : rg y) (hw : rg what) : Ct l yX6_cellOf cX6_cellOf 5 (some .int) rmX6_cellOf [.ref 0, iv x, iv y, iv what] (clB S kn nk c0 r0 m0 ct B F Z Br Q Fo No Ho Mo In Sn Qn)
    (fun z M => z = some (iv (aCell S x y what)) ∧ RB S M) := by
  refine Ct.of miX6_cellOf (Nat.le_of_ble_eq_true rfl) ?_
  intro X hXl hN ok
  refine AW.cast (L2 := [some (.ref 0), some (iv x), some (iv y), some (iv what), none]) ?_ rfl rfl rfl
  have hd := hS.1
  obtain ⟨k1, k2, k3⟩ := kCell_0 h0
  have hcel := xy_cel hd k1 k2
  have hG := hS.2.1 (y * sC S + x)
  have hT : ∀ i, rg (sT S i) := fun i => by have := hS.2.2.1 i; unfold rg; omega
  have e0 : what = 0 → aCell S x y what = sG S (y * sC S + x) := fun e => by subst e; rfl
  have e1 : what = 1 → aCell S x y what = bandN (sT S) (sN S) (sG S (y * sC S + x)) := fun e => by subst e; rfl
  have e2 : what = 2 → aCell S x y what = bS S (y * sC S + x) := fun e => by subst e; rfl
  have e3 : what = 3 → aCell S x y what = rk (sC S) (sR S) (bS S) (lw (sC S) (sR S) (bS S) (y * sC S + x)) := fun e => by subst e; rfl
  have e4 : what = 4 → aCell S x y what = osK (sC S) (sR S) (bS S) (y * sC S + x) 4 := fun e => by subst e; rfl
  have e5 : what = 5 → aCell S x y what = dstK (sT S) (sG S (y * sC S + x)) (sN S) := fun e => by subst e; rfl
  refine a_aload_n (pc := 0) ok dX6_cellOf_0 rfl ?_
  refine a_getf (pc := 1) ok dX6_cellOf_1 fl6_19 rfl rfl ?_
  refine a_iload_n (pc := 4) ok dX6_cellOf_4 rfl ?_
  refine a_iload_n (pc := 5) ok dX6_cellOf_5 rfl ?_
  refine a_callVp (pc := 6) ok [1, 2, 3, 4] dX6_cellOf_6 mv6_199 miX4_hasCell (c_hasCell hd hx hy) ⟨by decide, by decide, rfl, rfl, Nat.zero_le _, Nat.zero_le _⟩ rfl rfl (Nat.le_of_ble_eq_true rfl) rfl (by decide) rfl rfl ?_
  refine a_callSv (pc := 9) ok [] dX6_cellOf_9 mv6_203 miX6_mustExist (c_mustExist (bz_pos ⟨k1.1, k1.2, k2.1, k2.2⟩)) ⟨by decide, by decide, rfl, rfl, Nat.zero_le _, Nat.zero_le _⟩ rfl rfl (Nat.le_of_ble_eq_true rfl) rfl (by decide) rfl ?_
  refine a_iload_n (pc := 12) ok dX6_cellOf_12 rfl ?_
  refine a_iconst (pc := 13) ok dX6_cellOf_13 ?_
  refine a_iconst (pc := 14) ok dX6_cellOf_14 ?_
  refine a_callSv (pc := 15) ok [] dX6_cellOf_15 mv6_76 miX6_mustBeWithin (c_mustBeWithin k3 hw (by unfold rg; omega) (by unfold rg; omega)) ⟨by decide, by decide, rfl, rfl, Nat.zero_le _, Nat.zero_le _⟩ rfl rfl (Nat.le_of_ble_eq_true rfl) rfl (by decide) rfl ?_
  refine a_aload_n (pc := 18) ok dX6_cellOf_18 rfl ?_
  refine a_getf (pc := 19) ok dX6_cellOf_19 fl6_19 rfl rfl ?_
  refine a_iload_n (pc := 22) ok dX6_cellOf_22 rfl ?_
  refine a_iload_n (pc := 23) ok dX6_cellOf_23 rfl ?_
  refine a_callVp (pc := 24) ok [1, 2, 3, 4] dX6_cellOf_24 mv6_207 miX4_greyAt (c_greyAt hd k1 k2) ⟨by decide, by decide, rfl, rfl, Nat.zero_le _, Nat.zero_le _⟩ rfl rfl (Nat.le_of_ble_eq_true rfl) rfl (by decide) rfl rfl ?_
  refine a_istore (pc := 27) ok dX6_cellOf_27 rfl (by rw [hN]; decide) ?_
  refine a_iload_n (pc := 29) ok dX6_cellOf_29 rfl ?_
  refine a_tab (pc := 30) (dt := 128) ok [64, 67, 77, 94, 111] dX6_cellOf_30 (by decide) (by decide) (by decide) (by first | omega | (unfold rg; omega) | (simp only [rg] at *; omega) | exact bz_rg _ | grind [rg]) (fun j30 hj30 c30 => ?_) (fun c30 => ?_)
  · rcases (show j30 = 0 ∨ j30 = 1 ∨ j30 = 2 ∨ j30 = 3 ∨ j30 = 4 by simp only [List.length_cons, List.length_nil] at hj30; omega) with rfl | rfl | rfl | rfl | rfl
    · refine a_iload (pc := 64) ok dX6_cellOf_64 rfl ?_
      exact a_iret (pc := 66) ok dX6_cellOf_66 (⟨by rw [e0 (by omega)], RB_mk h⟩)
    · refine a_aload_n (pc := 67) ok dX6_cellOf_67 rfl ?_
      refine a_getf (pc := 68) ok dX6_cellOf_68 fl6_19 rfl rfl ?_
      refine a_iload (pc := 71) ok dX6_cellOf_71 rfl ?_
      refine a_callVp (pc := 73) ok [1, 2, 3, 4] dX6_cellOf_73 mv6_211 miX4_bandOfGrey (c_bandOfGrey hS.2.2.2.2.1 hT (by unfold rg; omega)) ⟨by decide, by decide, rfl, rfl, Nat.zero_le _, Nat.zero_le _⟩ rfl rfl (Nat.le_of_ble_eq_true rfl) rfl (by decide) rfl rfl ?_
      exact a_iret (pc := 76) ok dX6_cellOf_76 (⟨by rw [e1 (by omega)], RB_mk h⟩)
    · refine a_aload_n (pc := 77) ok dX6_cellOf_77 rfl ?_
      refine x_callV (pc := 78) ok [0, 1, 2, 3, 4, 5, 6, 7, 8, 9, 10, 11, 12, 13, 14, 15, 16, 17, 18, 19, 20, 21, 22, 23, 24, 25, 26, 27, 28, 29, 30, 31, 32, 33, 34, 35, 36, 37, 38, 39, 40, 41, 42, 43, 44, 45] 13 dX6_cellOf_78 mv6_168 miX6_present (c_present hS h.1) ⟨by decide, by decide, rfl, rfl, Nat.zero_le _, Nat.zero_le _⟩ rfl rfl (Nat.le_of_ble_eq_true rfl) rfl rfl (by decide) rfl rfl (fun v M' h => by obtain ⟨_, _, _, _, _, _, _, _, _, h, _⟩ := h; rw [h]; rfl) ?_
      rintro _ M' ⟨rfl, ct', B', F', Z', Br', Q', Fo', No', rfl, hI, -⟩
      refine AW.cast (st2 := [.ref 5]) (M2 := (clB S (1) nk (sC S) (sR S) (sC S * sR S) (ct') (B') (F') (Z') (Br') (Q') (Fo') (No') Ho Mo In Sn Qn)) ?_ rfl rfl rfl
      refine a_aload_n (pc := 81) ok dX6_cellOf_81 rfl ?_
      refine a_getf (pc := 82) ok dX6_cellOf_82 fl6_19 rfl rfl ?_
      refine a_iload_n (pc := 85) ok dX6_cellOf_85 rfl ?_
      refine a_iload_n (pc := 86) ok dX6_cellOf_86 rfl ?_
      refine a_callVp (pc := 87) ok [1, 2, 3, 4] dX6_cellOf_87 mv6_214 miX4_cellNumber (c_cellNumber) ⟨by decide, by decide, rfl, rfl, Nat.zero_le _, Nat.zero_le _⟩ rfl rfl (Nat.le_of_ble_eq_true rfl) rfl (by decide) rfl rfl ?_
      refine a_callVp (pc := 90) ok [5, 6, 7, 8, 9, 10, 11, 12] dX6_cellOf_90 mv6_217 miX0_bandAt (c_bandAt hd hcel hI) ⟨by decide, by decide, rfl, rfl, Nat.zero_le _, Nat.zero_le _⟩ rfl rfl (Nat.le_of_ble_eq_true rfl) rfl (by decide) rfl rfl ?_
      exact a_iret (pc := 93) ok dX6_cellOf_93 (⟨by rw [e2 (by omega)], RB_mk (CN_p h hI)⟩)
    · refine a_aload_n (pc := 94) ok dX6_cellOf_94 rfl ?_
      refine x_callV (pc := 95) ok [0, 1, 2, 3, 4, 5, 6, 7, 8, 9, 10, 11, 12, 13, 14, 15, 16, 17, 18, 19, 20, 21, 22, 23, 24, 25, 26, 27, 28, 29, 30, 31, 32, 33, 34, 35, 36, 37, 38, 39, 40, 41, 42, 43, 44, 45] 13 dX6_cellOf_95 mv6_168 miX6_present (c_present hS h.1) ⟨by decide, by decide, rfl, rfl, Nat.zero_le _, Nat.zero_le _⟩ rfl rfl (Nat.le_of_ble_eq_true rfl) rfl rfl (by decide) rfl rfl (fun v M' h => by obtain ⟨_, _, _, _, _, _, _, _, _, h, _⟩ := h; rw [h]; rfl) ?_
      rintro _ M' ⟨rfl, ct', B', F', Z', Br', Q', Fo', No', rfl, hI, -⟩
      refine AW.cast (st2 := [.ref 5]) (M2 := (clB S (1) nk (sC S) (sR S) (sC S * sR S) (ct') (B') (F') (Z') (Br') (Q') (Fo') (No') Ho Mo In Sn Qn)) ?_ rfl rfl rfl
      refine a_aload_n (pc := 98) ok dX6_cellOf_98 rfl ?_
      refine a_getf (pc := 99) ok dX6_cellOf_99 fl6_19 rfl rfl ?_
      refine a_iload_n (pc := 102) ok dX6_cellOf_102 rfl ?_
      refine a_iload_n (pc := 103) ok dX6_cellOf_103 rfl ?_
      refine a_callVp (pc := 104) ok [1, 2, 3, 4] dX6_cellOf_104 mv6_214 miX4_cellNumber (c_cellNumber) ⟨by decide, by decide, rfl, rfl, Nat.zero_le _, Nat.zero_le _⟩ rfl rfl (Nat.le_of_ble_eq_true rfl) rfl (by decide) rfl rfl ?_
      refine a_callVp (pc := 107) ok [5, 6, 7, 8, 9, 10, 11, 12] dX6_cellOf_107 mv6_220 miX0_islandAt (c_islandAt hd hcel hI) ⟨by decide, by decide, rfl, rfl, Nat.zero_le _, Nat.zero_le _⟩ rfl rfl (Nat.le_of_ble_eq_true rfl) rfl (by decide) rfl rfl ?_
      exact a_iret (pc := 110) ok dX6_cellOf_110 (⟨by rw [e3 (by omega)], RB_mk (CN_p h hI)⟩)
    · refine a_aload_n (pc := 111) ok dX6_cellOf_111 rfl ?_
      refine x_callV (pc := 112) ok [0, 1, 2, 3, 4, 5, 6, 7, 8, 9, 10, 11, 12, 13, 14, 15, 16, 17, 18, 19, 20, 21, 22, 23, 24, 25, 26, 27, 28, 29, 30, 31, 32, 33, 34, 35, 36, 37, 38, 39, 40, 41, 42, 43, 44, 45] 13 dX6_cellOf_112 mv6_168 miX6_present (c_present hS h.1) ⟨by decide, by decide, rfl, rfl, Nat.zero_le _, Nat.zero_le _⟩ rfl rfl (Nat.le_of_ble_eq_true rfl) rfl rfl (by decide) rfl rfl (fun v M' h => by obtain ⟨_, _, _, _, _, _, _, _, _, h, _⟩ := h; rw [h]; rfl) ?_
      rintro _ M' ⟨rfl, ct', B', F', Z', Br', Q', Fo', No', rfl, hI, -⟩
      refine AW.cast (st2 := [.ref 5]) (M2 := (clB S (1) nk (sC S) (sR S) (sC S * sR S) (ct') (B') (F') (Z') (Br') (Q') (Fo') (No') Ho Mo In Sn Qn)) ?_ rfl rfl rfl
      refine a_aload_n (pc := 115) ok dX6_cellOf_115 rfl ?_
      refine a_getf (pc := 116) ok dX6_cellOf_116 fl6_19 rfl rfl ?_
      refine a_iload_n (pc := 119) ok dX6_cellOf_119 rfl ?_
      refine a_iload_n (pc := 120) ok dX6_cellOf_120 rfl ?_
      refine a_callVp (pc := 121) ok [1, 2, 3, 4] dX6_cellOf_121 mv6_214 miX4_cellNumber (c_cellNumber) ⟨by decide, by decide, rfl, rfl, Nat.zero_le _, Nat.zero_le _⟩ rfl rfl (Nat.le_of_ble_eq_true rfl) rfl (by decide) rfl rfl ?_
      refine a_callVp (pc := 124) ok [5, 6, 7, 8, 9, 10, 11, 12] dX6_cellOf_124 mv6_223 miX0_otherSidesAt (c_otherSidesAt hd hcel hI) ⟨by decide, by decide, rfl, rfl, Nat.zero_le _, Nat.zero_le _⟩ rfl rfl (Nat.le_of_ble_eq_true rfl) rfl (by decide) rfl rfl ?_
      exact a_iret (pc := 127) ok dX6_cellOf_127 (⟨by rw [e4 (by omega)], RB_mk (CN_p h hI)⟩)
  · refine a_aload_n (pc := 128) ok dX6_cellOf_128 rfl ?_
    refine a_getf (pc := 129) ok dX6_cellOf_129 fl6_19 rfl rfl ?_
    refine a_iload (pc := 132) ok dX6_cellOf_132 rfl ?_
    refine a_callVp (pc := 134) ok [1, 2, 3, 4] dX6_cellOf_134 mv6_226 miX4_distanceToOtherBand (c_distanceToOtherBand hS.2.2.2.2.1 hS.2.2.1 hG) ⟨by decide, by decide, rfl, rfl, Nat.zero_le _, Nat.zero_le _⟩ rfl rfl (Nat.le_of_ble_eq_true rfl) rfl (by decide) rfl rfl ?_
    exact a_iret (pc := 137) ok dX6_cellOf_137 (⟨by rw [e5 (by omega)], RB_mk h⟩)
theorem dX6_island_0 : decode cX6_island 0 = .ok (.aload_n 0, 1) := by decide +kernel
theorem dX6_island_1 : decode cX6_island 1 = .ok (.invokevirtual 168, 3) := by decide +kernel
theorem dX6_island_4 : decode cX6_island 4 = .ok (.astore_n 3, 1) := by decide +kernel
theorem dX6_island_5 : decode cX6_island 5 = .ok (.aload_n 3, 1) := by decide +kernel
theorem dX6_island_6 : decode cX6_island 6 = .ok (.iload_n 1, 1) := by decide +kernel
theorem dX6_island_7 : decode cX6_island 7 = .ok (.invokevirtual 235, 3) := by decide +kernel
theorem dX6_island_10 : decode cX6_island 10 = .ok (.invokestatic 203, 3) := by decide +kernel
theorem dX6_island_13 : decode cX6_island 13 = .ok (.iload_n 2, 1) := by decide +kernel
theorem dX6_island_14 : decode cX6_island 14 = .ok (.iconst 0, 1) := by decide +kernel
theorem dX6_island_15 : decode cX6_island 15 = .ok (.bipush 8, 2) := by decide +kernel
theorem dX6_island_17 : decode cX6_island 17 = .ok (.invokestatic 76, 3) := by decide +kernel
theorem dX6_island_20 : decode cX6_island 20 = .ok (.iload_n 2, 1) := by decide +kernel
theorem dX6_island_21 : decode cX6_island 21 = .ok (.tableswitch 103 0 7 #[47, 53, 59, 65, 71, 77, 83, 93], 47) := by decide +kernel
theorem dX6_island_68 : decode cX6_island 68 = .ok (.aload_n 3, 1) := by decide +kernel
theorem dX6_island_69 : decode cX6_island 69 = .ok (.iload_n 1, 1) := by decide +kernel
theorem dX6_island_70 : decode cX6_island 70 = .ok (.invokevirtual 238, 3) := by decide +kernel
theorem dX6_island_73 : decode cX6_island 73 = .ok (.ireturn, 1) := by decide +kernel
theorem dX6_island_74 : decode cX6_island 74 = .ok (.aload_n 3, 1) := by decide +kernel
theorem dX6_island_75 : decode cX6_island 75 = .ok (.iload_n 1, 1) := by decide +kernel
theorem dX6_island_76 : decode cX6_island 76 = .ok (.invokevirtual 241, 3) := by decide +kernel
theorem dX6_island_79 : decode cX6_island 79 = .ok (.ireturn, 1) := by decide +kernel
theorem dX6_island_80 : decode cX6_island 80 = .ok (.aload_n 3, 1) := by decide +kernel
theorem dX6_island_81 : decode cX6_island 81 = .ok (.iload_n 1, 1) := by decide +kernel
theorem dX6_island_82 : decode cX6_island 82 = .ok (.invokevirtual 244, 3) := by decide +kernel
theorem dX6_island_85 : decode cX6_island 85 = .ok (.ireturn, 1) := by decide +kernel
theorem dX6_island_86 : decode cX6_island 86 = .ok (.aload_n 3, 1) := by decide +kernel
theorem dX6_island_87 : decode cX6_island 87 = .ok (.iload_n 1, 1) := by decide +kernel
theorem dX6_island_88 : decode cX6_island 88 = .ok (.invokevirtual 247, 3) := by decide +kernel
theorem dX6_island_91 : decode cX6_island 91 = .ok (.ireturn, 1) := by decide +kernel
theorem dX6_island_92 : decode cX6_island 92 = .ok (.aload_n 3, 1) := by decide +kernel
theorem dX6_island_93 : decode cX6_island 93 = .ok (.iload_n 1, 1) := by decide +kernel
theorem dX6_island_94 : decode cX6_island 94 = .ok (.invokevirtual 250, 3) := by decide +kernel
theorem dX6_island_97 : decode cX6_island 97 = .ok (.ireturn, 1) := by decide +kernel
theorem dX6_island_98 : decode cX6_island 98 = .ok (.aload_n 3, 1) := by decide +kernel
theorem dX6_island_99 : decode cX6_island 99 = .ok (.iload_n 1, 1) := by decide +kernel
theorem dX6_island_100 : decode cX6_island 100 = .ok (.invokevirtual 253, 3) := by decide +kernel
theorem dX6_island_103 : decode cX6_island 103 = .ok (.ireturn, 1) := by decide +kernel
theorem dX6_island_104 : decode cX6_island 104 = .ok (.aload_n 0, 1) := by decide +kernel
theorem dX6_island_105 : decode cX6_island 105 = .ok (.invokevirtual 186, 3) := by decide +kernel
theorem dX6_island_108 : decode cX6_island 108 = .ok (.getfield 256, 3) := by decide +kernel
theorem dX6_island_111 : decode cX6_island 111 = .ok (.iload_n 1, 1) := by decide +kernel
theorem dX6_island_112 : decode cX6_island 112 = .ok (.iaload, 1) := by decide +kernel
theorem dX6_island_113 : decode cX6_island 113 = .ok (.ireturn, 1) := by decide +kernel
theorem dX6_island_114 : decode cX6_island 114 = .ok (.aload_n 0, 1) := by decide +kernel
theorem dX6_island_115 : decode cX6_island 115 = .ok (.invokevirtual 186, 3) := by decide +kernel
theorem dX6_island_118 : decode cX6_island 118 = .ok (.getfield 259, 3) := by decide +kernel
theorem dX6_island_121 : decode cX6_island 121 = .ok (.iload_n 1, 1) := by decide +kernel
theorem dX6_island_122 : decode cX6_island 122 = .ok (.iaload, 1) := by decide +kernel
theorem dX6_island_123 : decode cX6_island 123 = .ok (.ireturn, 1) := by decide +kernel
theorem dX6_island_124 : decode cX6_island 124 = .ok (.aload_n 0, 1) := by decide +kernel
theorem dX6_island_125 : decode cX6_island 125 = .ok (.invokevirtual 186, 3) := by decide +kernel
theorem dX6_island_128 : decode cX6_island 128 = .ok (.getfield 262, 3) := by decide +kernel
theorem dX6_island_131 : decode cX6_island 131 = .ok (.iload_n 1, 1) := by decide +kernel
theorem dX6_island_132 : decode cX6_island 132 = .ok (.iaload, 1) := by decide +kernel
theorem dX6_island_133 : decode cX6_island 133 = .ok (.ireturn, 1) := by decide +kernel
theorem c_island {i what : Int} (hS : SV S) (h : CN S kn nk c0 r0 m0 ct B F Z Fo No Ho Mo In) (h0 : kIsle S i what 8 = 0) (hi : rg i) (hw : rg what) : Ct l yX6_island cX6_island 4 (some .int) rmX6_island [.ref 0, iv i, iv what] (clB S kn nk c0 r0 m0 ct B F Z Br Q Fo No Ho Mo In Sn Qn)
    (fun z M => z = some (iv (aIsland S i what)) ∧ RB S M) := by
  refine Ct.of miX6_island (Nat.le_of_ble_eq_true rfl) ?_
  intro X hXl hN ok
  refine AW.cast (L2 := [some (.ref 0), some (iv i), some (iv what), none]) ?_ rfl rfl rfl
  have hd := hS.1
  have hm := mS_rg (S := S) hd
  obtain ⟨k1, k2⟩ := kIsle_0 h0
  obtain ⟨f1, f2, f3⟩ := fS_ok hS k1
  have e0 : what = 0 → aIsland S i what = fS S i := fun e => by subst e; rfl
  have e1 : what = 1 → aIsland S i what = siz (sC S) (sR S) (bS S) (fS S i) := fun e => by subst e; rfl
  have e2 : what = 2 → aIsland S i what = bS S (fS S i) := fun e => by subst e; rfl
  have e3 : what = 3 → aIsland S i what = soK (sC S) (sR S) (bS S) (fS S i) (sC S * sR S).toNat := fun e => by subst e; rfl
  have e4 : what = 4 → aIsland S i what = esK (sC S) (sR S) (bS S) (fS S i) (sC S * sR S).toNat := fun e => by subst e; rfl
  have e5 : what = 5 → aIsland S i what = cntK (fun j => decide (0 < brd (sC S) (sR S) (bS S) (fS S i) j)) (sC S * sR S).toNat := fun e => by subst e; rfl
  have e6 : what = 6 → aIsland S i what = hoF (sC S) (sR S) (bS S) (fS S i) := fun e => by subst e; rfl
  have e7 : what = 7 → aIsland S i what = moN (sC S) (sR S) (bS S) (fS S i) (mS S).toNat := fun e => by subst e; rfl
  have e8 : what = 8 → aIsland S i what = inF (sC S) (sR S) (bS S) (fS S i) := fun e => by subst e; rfl
  refine a_aload_n (pc := 0) ok dX6_island_0 rfl ?_
  refine x_callV (pc := 1) ok [0, 1, 2, 3, 4, 5, 6, 7, 8, 9, 10, 11, 12, 13, 14, 15, 16, 17, 18, 19, 20, 21, 22, 23, 24, 25, 26, 27, 28, 29, 30, 31, 32, 33, 34, 35, 36, 37, 38, 39, 40, 41, 42, 43, 44, 45] 13 dX6_island_1 mv6_168 miX6_present (c_present hS h.1) ⟨by decide, by decide, rfl, rfl, Nat.zero_le _, Nat.zero_le _⟩ rfl rfl (Nat.le_of_ble_eq_true rfl) rfl rfl (by decide) rfl rfl (fun v M' h => by obtain ⟨_, _, _, _, _, _, _, _, _, h, _⟩ := h; rw [h]; rfl) ?_
  rintro _ M' ⟨rfl, ct', B', F', Z', Br', Q', Fo', No', rfl, hI, -⟩
  refine AW.cast (st2 := [.ref 5]) (M2 := (clB S (1) nk (sC S) (sR S) (sC S * sR S) (ct') (B') (F') (Z') (Br') (Q') (Fo') (No') Ho Mo In Sn Qn)) ?_ rfl rfl rfl
  have h9 := CN_p h hI
  refine a_astore_n (pc := 4) ok dX6_island_4 rfl (by rw [hN]; decide) ?_
  refine a_aload_n (pc := 5) ok dX6_island_5 rfl ?_
  refine a_iload_n (pc := 6) ok dX6_island_6 rfl ?_
  refine a_callVp (pc := 7) ok [5, 6, 7, 8, 9, 10, 11, 12] dX6_island_7 mv6_235 miX0_has (c_has hd hi hI) ⟨by decide, by decide, rfl, rfl, Nat.zero_le _, Nat.zero_le _⟩ rfl rfl (Nat.le_of_ble_eq_true rfl) rfl (by decide) rfl rfl ?_
  refine a_callSv (pc := 10) ok [] dX6_island_10 mv6_203 miX6_mustExist (c_mustExist (bz_pos k1)) ⟨by decide, by decide, rfl, rfl, Nat.zero_le _, Nat.zero_le _⟩ rfl rfl (Nat.le_of_ble_eq_true rfl) rfl (by decide) rfl ?_
  refine a_iload_n (pc := 13) ok dX6_island_13 rfl ?_
  refine a_iconst (pc := 14) ok dX6_island_14 ?_
  refine a_bipush (pc := 15) ok dX6_island_15 (by decide) ?_
  refine a_callSv (pc := 17) ok [] dX6_island_17 mv6_76 miX6_mustBeWithin (c_mustBeWithin k2 hw (by unfold rg; omega) (by unfold rg; omega)) ⟨by decide, by decide, rfl, rfl, Nat.zero_le _, Nat.zero_le _⟩ rfl rfl (Nat.le_of_ble_eq_true rfl) rfl (by decide) rfl ?_
  refine a_iload_n (pc := 20) ok dX6_island_20 rfl ?_
  refine a_tab (pc := 21) (dt := 124) ok [68, 74, 80, 86, 92, 98, 104, 114] dX6_island_21 (by decide) (by decide) (by decide) (by first | omega | (unfold rg; omega) | (simp only [rg] at *; omega) | exact bz_rg _ | grind [rg]) (fun j21 hj21 c21 => ?_) (fun c21 => ?_)
  · rcases (show j21 = 0 ∨ j21 = 1 ∨ j21 = 2 ∨ j21 = 3 ∨ j21 = 4 ∨ j21 = 5 ∨ j21 = 6 ∨ j21 = 7 by simp only [List.length_cons, List.length_nil] at hj21; omega) with rfl | rfl | rfl | rfl | rfl | rfl | rfl | rfl
    · refine a_aload_n (pc := 68) ok dX6_island_68 rfl ?_
      refine a_iload_n (pc := 69) ok dX6_island_69 rfl ?_
      refine a_callVp (pc := 70) ok [5, 6, 7, 8, 9, 10, 11, 12] dX6_island_70 mv6_238 miX0_firstCell (c_firstCellI hd f1 f2 f3 hI) ⟨by decide, by decide, rfl, rfl, Nat.zero_le _, Nat.zero_le _⟩ rfl rfl (Nat.le_of_ble_eq_true rfl) rfl (by decide) rfl rfl ?_
      exact a_iret (pc := 73) ok dX6_island_73 (⟨by rw [e0 (by omega)], RB_mk h9⟩)
    · refine a_aload_n (pc := 74) ok dX6_island_74 rfl ?_
      refine a_iload_n (pc := 75) ok dX6_island_75 rfl ?_
      refine a_callVp (pc := 76) ok [5, 6, 7, 8, 9, 10, 11, 12] dX6_island_76 mv6_241 miX0_size (c_sizeI hd f1 f2 f3 hI) ⟨by decide, by decide, rfl, rfl, Nat.zero_le _, Nat.zero_le _⟩ rfl rfl (Nat.le_of_ble_eq_true rfl) rfl (by decide) rfl rfl ?_
      exact a_iret (pc := 79) ok dX6_island_79 (⟨by rw [e1 (by omega)], RB_mk h9⟩)
    · refine a_aload_n (pc := 80) ok dX6_island_80 rfl ?_
      refine a_iload_n (pc := 81) ok dX6_island_81 rfl ?_
      refine a_callVp (pc := 82) ok [5, 6, 7, 8, 9, 10, 11, 12] dX6_island_82 mv6_244 miX0_bandOf (c_bandOfI hd f1 f2 f3 hI) ⟨by decide, by decide, rfl, rfl, Nat.zero_le _, Nat.zero_le _⟩ rfl rfl (Nat.le_of_ble_eq_true rfl) rfl (by decide) rfl rfl ?_
      exact a_iret (pc := 85) ok dX6_island_85 (⟨by rw [e2 (by omega)], RB_mk h9⟩)
    · refine a_aload_n (pc := 86) ok dX6_island_86 rfl ?_
      refine a_iload_n (pc := 87) ok dX6_island_87 rfl ?_
      refine a_callVi (pc := 88) ok [5, 6, 7, 8, 9, 10, 11, 12] dX6_island_88 mv6_247 miX0_sidesToOthers (c_sidesToOthersI hd f1 f2 f3 hI) ⟨by decide, by decide, rfl, rfl, Nat.zero_le _, Nat.zero_le _⟩ rfl rfl (Nat.le_of_ble_eq_true rfl) rfl (by decide) rfl rfl rfl ?_
      exact a_iret (pc := 91) ok dX6_island_91 (⟨by rw [e3 (by omega)], RB_mk h9⟩)
    · refine a_aload_n (pc := 92) ok dX6_island_92 rfl ?_
      refine a_iload_n (pc := 93) ok dX6_island_93 rfl ?_
      refine a_callVp (pc := 94) ok [5, 6, 7, 8, 9, 10, 11, 12] dX6_island_94 mv6_250 miX0_sidesAtEdge (c_sidesAtEdgeI hd f1 f2 f3 hI) ⟨by decide, by decide, rfl, rfl, Nat.zero_le _, Nat.zero_le _⟩ rfl rfl (Nat.le_of_ble_eq_true rfl) rfl (by decide) rfl rfl ?_
      exact a_iret (pc := 97) ok dX6_island_97 (⟨by rw [e4 (by omega)], RB_mk h9⟩)
    · refine a_aload_n (pc := 98) ok dX6_island_98 rfl ?_
      refine a_iload_n (pc := 99) ok dX6_island_99 rfl ?_
      refine a_callVi (pc := 100) ok [5, 6, 7, 8, 9, 10, 11, 12] dX6_island_100 mv6_253 miX0_neighbourCount (c_neighbourCountI hd f1 f2 f3 hI) ⟨by decide, by decide, rfl, rfl, Nat.zero_le _, Nat.zero_le _⟩ rfl rfl (Nat.le_of_ble_eq_true rfl) rfl (by decide) rfl rfl rfl ?_
      exact a_iret (pc := 103) ok dX6_island_103 (⟨by rw [e5 (by omega)], RB_mk h9⟩)
    · refine a_aload_n (pc := 104) ok dX6_island_104 rfl ?_
      refine x_callV (pc := 105) ok [0, 1, 2, 3, 4, 5, 6, 7, 8, 9, 10, 11, 12, 13, 14, 15, 16, 17, 18, 19, 20, 21, 22, 23, 24, 25, 26, 27, 28, 29, 30, 31, 32, 33, 34, 35, 36, 37, 38, 39, 40, 41, 42, 43, 44, 45] 19 dX6_island_105 mv6_186 miX6_presentNest (c_presentNest hS h9) ⟨by decide, by decide, rfl, rfl, Nat.zero_le _, Nat.zero_le _⟩ rfl rfl (Nat.le_of_ble_eq_true rfl) rfl rfl (by decide) rfl rfl (fun v M' h => by obtain ⟨_, _, _, _, _, _, _, _, _, _, _, _, _, _, h, _⟩ := h; rw [h]; rfl) ?_
      rintro _ M' ⟨rfl, ct2, B2, F2, Z2, Br2, Q2, Fo2, No2, Ho', Mo', In', Sn', Qn', rfl, hI2, hN⟩
      refine AW.cast (st2 := [.ref 13]) (M2 := (clB S (1) (1) (sC S) (sR S) (sC S * sR S) (ct2) (B2) (F2) (Z2) (Br2) (Q2) (Fo2) (No2) (Ho') (Mo') (In') (Sn') (Qn'))) ?_ rfl rfl rfl
      refine a_getf (pc := 108) ok dX6_island_108 fl6_256 rfl rfl ?_
      refine a_iload_n (pc := 111) ok dX6_island_111 rfl ?_
      refine a_iald (pc := 112) ok dX6_island_112 rfl (by first | decide | omega) (by omega) ?_
      exact a_iret (pc := 113) ok dX6_island_113 (⟨by rw [e6 (by omega), (hN.1 i k1.1 k1.2).1], RB_mk (CN_n hI2 hN)⟩)
    · refine a_aload_n (pc := 114) ok dX6_island_114 rfl ?_
      refine x_callV (pc := 115) ok [0, 1, 2, 3, 4, 5, 6, 7, 8, 9, 10, 11, 12, 13, 14, 15, 16, 17, 18, 19, 20, 21, 22, 23, 24, 25, 26, 27, 28, 29, 30, 31, 32, 33, 34, 35, 36, 37, 38, 39, 40, 41, 42, 43, 44, 45] 19 dX6_island_115 mv6_186 miX6_presentNest (c_presentNest hS h9) ⟨by decide, by decide, rfl, rfl, Nat.zero_le _, Nat.zero_le _⟩ rfl rfl (Nat.le_of_ble_eq_true rfl) rfl rfl (by decide) rfl rfl (fun v M' h => by obtain ⟨_, _, _, _, _, _, _, _, _, _, _, _, _, _, h, _⟩ := h; rw [h]; rfl) ?_
      rintro _ M' ⟨rfl, ct2, B2, F2, Z2, Br2, Q2, Fo2, No2, Ho', Mo', In', Sn', Qn', rfl, hI2, hN⟩
      refine AW.cast (st2 := [.ref 13]) (M2 := (clB S (1) (1) (sC S) (sR S) (sC S * sR S) (ct2) (B2) (F2) (Z2) (Br2) (Q2) (Fo2) (No2) (Ho') (Mo') (In') (Sn') (Qn'))) ?_ rfl rfl rfl
      refine a_getf (pc := 118) ok dX6_island_118 fl6_259 rfl rfl ?_
      refine a_iload_n (pc := 121) ok dX6_island_121 rfl ?_
      refine a_iald (pc := 122) ok dX6_island_122 rfl (by first | decide | omega) (by omega) ?_
      exact a_iret (pc := 123) ok dX6_island_123 (⟨by have := hN.2.2 _ f1 f2; rw [f3] at this; rw [e7 (by omega), this]; rfl, RB_mk (CN_n hI2 hN)⟩)
  · refine a_aload_n (pc := 124) ok dX6_island_124 rfl ?_
    refine x_callV (pc := 125) ok [0, 1, 2, 3, 4, 5, 6, 7, 8, 9, 10, 11, 12, 13, 14, 15, 16, 17, 18, 19, 20, 21, 22, 23, 24, 25, 26, 27, 28, 29, 30, 31, 32, 33, 34, 35, 36, 37, 38, 39, 40, 41, 42, 43, 44, 45] 19 dX6_island_125 mv6_186 miX6_presentNest (c_presentNest hS h9) ⟨by decide, by decide, rfl, rfl, Nat.zero_le _, Nat.zero_le _⟩ rfl rfl (Nat.le_of_ble_eq_true rfl) rfl rfl (by decide) rfl rfl (fun v M' h => by obtain ⟨_, _, _, _, _, _, _, _, _, _, _, _, _, _, h, _⟩ := h; rw [h]; rfl) ?_
    rintro _ M' ⟨rfl, ct2, B2, F2, Z2, Br2, Q2, Fo2, No2, Ho', Mo', In', Sn', Qn', rfl, hI2, hN⟩
    refine AW.cast (st2 := [.ref 13]) (M2 := (clB S (1) (1) (sC S) (sR S) (sC S * sR S) (ct2) (B2) (F2) (Z2) (Br2) (Q2) (Fo2) (No2) (Ho') (Mo') (In') (Sn') (Qn'))) ?_ rfl rfl rfl
    refine a_getf (pc := 128) ok dX6_island_128 fl6_262 rfl rfl ?_
    refine a_iload_n (pc := 131) ok dX6_island_131 rfl ?_
    refine a_iald (pc := 132) ok dX6_island_132 rfl (by first | decide | omega) (by omega) ?_
    exact a_iret (pc := 133) ok dX6_island_133 (⟨by rw [e8 (by omega), (hN.1 i k1.1 k1.2).2], RB_mk (CN_n hI2 hN)⟩)
theorem dX6_border_0 : decode cX6_border 0 = .ok (.aload_n 0, 1) := by decide +kernel
theorem dX6_border_1 : decode cX6_border 1 = .ok (.invokevirtual 168, 3) := by decide +kernel
theorem dX6_border_4 : decode cX6_border 4 = .ok (.astore_n 3, 1) := by decide +kernel
theorem dX6_border_5 : decode cX6_border 5 = .ok (.aload_n 3, 1) := by decide +kernel
theorem dX6_border_6 : decode cX6_border 6 = .ok (.iload_n 1, 1) := by decide +kernel
theorem dX6_border_7 : decode cX6_border 7 = .ok (.invokevirtual 235, 3) := by decide +kernel
theorem dX6_border_10 : decode cX6_border 10 = .ok (.ifCond .eq 15, 3) := by decide +kernel
theorem dX6_border_13 : decode cX6_border 13 = .ok (.aload_n 3, 1) := by decide +kernel
theorem dX6_border_14 : decode cX6_border 14 = .ok (.iload_n 2, 1) := by decide +kernel
theorem dX6_border_15 : decode cX6_border 15 = .ok (.invokevirtual 235, 3) := by decide +kernel
theorem dX6_border_18 : decode cX6_border 18 = .ok (.ifCond .eq 7, 3) := by decide +kernel
theorem dX6_border_21 : decode cX6_border 21 = .ok (.iconst 1, 1) := by decide +kernel
theorem dX6_border_22 : decode cX6_border 22 = .ok (.goto 4, 3) := by decide +kernel
theorem dX6_border_25 : decode cX6_border 25 = .ok (.iconst 0, 1) := by decide +kernel
theorem dX6_border_26 : decode cX6_border 26 = .ok (.invokestatic 203, 3) := by decide +kernel
theorem dX6_border_29 : decode cX6_border 29 = .ok (.aload_n 3, 1) := by decide +kernel
theorem dX6_border_30 : decode cX6_border 30 = .ok (.iload_n 1, 1) := by decide +kernel
theorem dX6_border_31 : decode cX6_border 31 = .ok (.iload_n 2, 1) := by decide +kernel
theorem dX6_border_32 : decode cX6_border 32 = .ok (.invokevirtual 265, 3) := by decide +kernel
theorem dX6_border_35 : decode cX6_border 35 = .ok (.ireturn, 1) := by decide +kernel
theorem c_border {i j : Int} (hS : SV S) (h : CN S kn nk c0 r0 m0 ct B F Z Fo No Ho Mo In) (h0 : kBor S i j = 0) (hi : rg i) (hj : rg j) : Ct l yX6_border cX6_border 4 (some .int) rmX6_border [.ref 0, iv i, iv j] (clB S kn nk c0 r0 m0 ct B F Z Br Q Fo No Ho Mo In Sn Qn)
    (fun z M => z = some (iv (brd (sC S) (sR S) (bS S) (fS S i) (fS S j))) ∧ RB S M) := by
  refine Ct.of miX6_border (Nat.le_of_ble_eq_true rfl) ?_
  intro X hXl hN ok
  refine AW.cast (L2 := [some (.ref 0), some (iv i), some (iv j), none]) ?_ rfl rfl rfl
  have hd := hS.1
  have k1 : (0 ≤ i ∧ i < mS S) ∧ 0 ≤ j ∧ j < mS S := by
    unfold kBor at h0
    split at h0
    · assumption
    · omega
  obtain ⟨f1, f2, f3⟩ := fS_ok hS k1.1
  obtain ⟨g1, g2, g3⟩ := fS_ok hS k1.2
  refine a_aload_n (pc := 0) ok dX6_border_0 rfl ?_
  refine x_callV (pc := 1) ok [0, 1, 2, 3, 4, 5, 6, 7, 8, 9, 10, 11, 12, 13, 14, 15, 16, 17, 18, 19, 20, 21, 22, 23, 24, 25, 26, 27, 28, 29, 30, 31, 32, 33, 34, 35, 36, 37, 38, 39, 40, 41, 42, 43, 44, 45] 13 dX6_border_1 mv6_168 miX6_present (c_present hS h.1) ⟨by decide, by decide, rfl, rfl, Nat.zero_le _, Nat.zero_le _⟩ rfl rfl (Nat.le_of_ble_eq_true rfl) rfl rfl (by decide) rfl rfl (fun v M' h => by obtain ⟨_, _, _, _, _, _, _, _, _, h, _⟩ := h; rw [h]; rfl) ?_
  rintro _ M' ⟨rfl, ct', B', F', Z', Br', Q', Fo', No', rfl, hI, -⟩
  refine AW.cast (st2 := [.ref 5]) (M2 := (clB S (1) nk (sC S) (sR S) (sC S * sR S) (ct') (B') (F') (Z') (Br') (Q') (Fo') (No') Ho Mo In Sn Qn)) ?_ rfl rfl rfl
  have h9 := CN_p h hI
  refine a_astore_n (pc := 4) ok dX6_border_4 rfl (by rw [hN]; decide) ?_
  refine a_aload_n (pc := 5) ok dX6_border_5 rfl ?_
  refine a_iload_n (pc := 6) ok dX6_border_6 rfl ?_
  refine a_callVp (pc := 7) ok [5, 6, 7, 8, 9, 10, 11, 12] dX6_border_7 mv6_235 miX0_has (c_has hd hi hI) ⟨by decide, by decide, rfl, rfl, Nat.zero_le _, Nat.zero_le _⟩ rfl rfl (Nat.le_of_ble_eq_true rfl) rfl (by decide) rfl rfl ?_
  refine a_if_eq (pc := 10) (tgt := 25) ok dX6_border_10 (by decide) (by exact bz_rg _) (fun c10 => ?_) (fun c10 => ?_)
  · exact False.elim (bz_0.mp c10 k1.1)
  · refine a_aload_n (pc := 13) ok dX6_border_13 rfl ?_
    refine a_iload_n (pc := 14) ok dX6_border_14 rfl ?_
    refine a_callVp (pc := 15) ok [5, 6, 7, 8, 9, 10, 11, 12] dX6_border_15 mv6_235 miX0_has (c_has hd hj hI) ⟨by decide, by decide, rfl, rfl, Nat.zero_le _, Nat.zero_le _⟩ rfl rfl (Nat.le_of_ble_eq_true rfl) rfl (by decide) rfl rfl ?_
    refine a_if_eq (pc := 18) (tgt := 25) ok dX6_border_18 (by decide) (by exact bz_rg _) (fun c18 => ?_) (fun c18 => ?_)
    · exact False.elim (bz_0.mp c18 k1.2)
    · refine a_iconst (pc := 21) ok dX6_border_21 ?_
      refine a_goto (pc := 22) (tgt := 26) ok dX6_border_22 (by decide) ?_
      refine a_callSv (pc := 26) ok [] dX6_border_26 mv6_203 miX6_mustExist (c_mustExist rfl) ⟨by decide, by decide, rfl, rfl, Nat.zero_le _, Nat.zero_le _⟩ rfl rfl (Nat.le_of_ble_eq_true rfl) rfl (by decide) rfl ?_
      refine a_aload_n (pc := 29) ok dX6_border_29 rfl ?_
      refine a_iload_n (pc := 30) ok dX6_border_30 rfl ?_
      refine a_iload_n (pc := 31) ok dX6_border_31 rfl ?_
      refine a_callVi (pc := 32) ok [5, 6, 7, 8, 9, 10, 11, 12] dX6_border_32 mv6_265 miX0_commonSides (c_commonSidesI hd f1 f2 f3 g1 g2 g3 hI) ⟨by decide, by decide, rfl, rfl, Nat.zero_le _, Nat.zero_le _⟩ rfl rfl (Nat.le_of_ble_eq_true rfl) rfl (by decide) rfl rfl rfl ?_
      exact a_iret (pc := 35) ok dX6_border_35 (⟨rfl, RB_mk h9⟩)
theorem dX6_outline_0 : decode cX6_outline 0 = .ok (.aload_n 0, 1) := by decide +kernel
theorem dX6_outline_1 : decode cX6_outline 1 = .ok (.invokevirtual 168, 3) := by decide +kernel
theorem dX6_outline_4 : decode cX6_outline 4 = .ok (.astore_n 3, 1) := by decide +kernel
theorem dX6_outline_5 : decode cX6_outline 5 = .ok (.aload_n 3, 1) := by decide +kernel
theorem dX6_outline_6 : decode cX6_outline 6 = .ok (.iload_n 1, 1) := by decide +kernel
theorem dX6_outline_7 : decode cX6_outline 7 = .ok (.invokevirtual 235, 3) := by decide +kernel
theorem dX6_outline_10 : decode cX6_outline 10 = .ok (.invokestatic 203, 3) := by decide +kernel
theorem dX6_outline_13 : decode cX6_outline 13 = .ok (.iload_n 2, 1) := by decide +kernel
theorem dX6_outline_14 : decode cX6_outline 14 = .ok (.iconst 0, 1) := by decide +kernel
theorem dX6_outline_15 : decode cX6_outline 15 = .ok (.iconst 2, 1) := by decide +kernel
theorem dX6_outline_16 : decode cX6_outline 16 = .ok (.invokestatic 76, 3) := by decide +kernel
theorem dX6_outline_19 : decode cX6_outline 19 = .ok (.aload_n 0, 1) := by decide +kernel
theorem dX6_outline_20 : decode cX6_outline 20 = .ok (.getfield 68, 3) := by decide +kernel
theorem dX6_outline_23 : decode cX6_outline 23 = .ok (.aload_n 3, 1) := by decide +kernel
theorem dX6_outline_24 : decode cX6_outline 24 = .ok (.iload_n 1, 1) := by decide +kernel
theorem dX6_outline_25 : decode cX6_outline 25 = .ok (.iconst (-1), 1) := by decide +kernel
theorem dX6_outline_26 : decode cX6_outline 26 = .ok (.invokevirtual 268, 3) := by decide +kernel
theorem dX6_outline_29 : decode cX6_outline 29 = .ok (.iload_n 2, 1) := by decide +kernel
theorem dX6_outline_30 : decode cX6_outline 30 = .ok (.lookupswitch 42 #[(0, 26), (1, 34)], 26) := by decide +kernel
theorem dX6_outline_56 : decode cX6_outline 56 = .ok (.aload_n 0, 1) := by decide +kernel
theorem dX6_outline_57 : decode cX6_outline 57 = .ok (.getfield 68, 3) := by decide +kernel
theorem dX6_outline_60 : decode cX6_outline 60 = .ok (.getfield 272, 3) := by decide +kernel
theorem dX6_outline_63 : decode cX6_outline 63 = .ok (.ireturn, 1) := by decide +kernel
theorem dX6_outline_64 : decode cX6_outline 64 = .ok (.aload_n 0, 1) := by decide +kernel
theorem dX6_outline_65 : decode cX6_outline 65 = .ok (.getfield 68, 3) := by decide +kernel
theorem dX6_outline_68 : decode cX6_outline 68 = .ok (.getfield 275, 3) := by decide +kernel
theorem dX6_outline_71 : decode cX6_outline 71 = .ok (.ireturn, 1) := by decide +kernel
theorem dX6_outline_72 : decode cX6_outline 72 = .ok (.aload_n 0, 1) := by decide +kernel
theorem dX6_outline_73 : decode cX6_outline 73 = .ok (.getfield 68, 3) := by decide +kernel
theorem dX6_outline_76 : decode cX6_outline 76 = .ok (.getfield 278, 3) := by decide +kernel
theorem dX6_outline_79 : decode cX6_outline 79 = .ok (.ireturn, 1) := by decide +kernel
set_option maxRecDepth 100000 in
theorem c_outline {i what : Int} (hS : SV S) (h : CN S kn nk c0 r0 m0 ct B F Z Fo No Ho Mo In) (h0 : kIsle S i what 2 = 0) (hi : rg i) (hw : rg what) : Ct l yX6_outline cX6_outline 4 (some .int) rmX6_outline [.ref 0, iv i, iv what] (clC S kn nk c0 r0 m0 ct B F Z Br Q Fo No Ho Mo In Sn Qn sd rt lf wy)
    (fun z M => z = some (iv (aOutline S i what)) ∧ RC S M) := by
  refine Ct.of miX6_outline (Nat.le_of_ble_eq_true rfl) ?_
  intro X hXl hN ok
  refine AW.cast (L2 := [some (.ref 0), some (iv i), some (iv what), none]) ?_ rfl rfl rfl
  have hd := hS.1
  obtain ⟨k1, k2⟩ := kIsle_0 h0
  obtain ⟨f1, f2, f3⟩ := fS_ok hS k1
  have e0 : what = 0 → aOutline S i what = oN1 (sC S) (sR S) (bS S) (fS S i) := fun e => by subst e; rfl
  have e1 : what = 1 → aOutline S i what = oR (inI (sC S) (sR S) (bS S) (fS S i)) (o0 (sC S) (fS S i)) (oN1 (sC S) (sR S) (bS S) (fS S i)).toNat := fun e => by subst e; rfl
  have e2 : what = 2 → aOutline S i what = oL (inI (sC S) (sR S) (bS S) (fS S i)) (o0 (sC S) (fS S i)) (oN1 (sC S) (sR S) (bS S) (fS S i)).toNat := fun e => by subst e; rfl
  refine a_aload_n (pc := 0) ok dX6_outline_0 rfl ?_
  refine x_callV (pc := 1) ok [0, 1, 2, 3, 4, 5, 6, 7, 8, 9, 10, 11, 12, 13, 14, 15, 16, 17, 18, 19, 20, 21, 22, 23, 24, 25, 26, 27, 28, 29, 30, 31, 32, 33, 34, 35, 36, 37, 38, 39, 40, 41, 42, 43, 44, 45] 13 dX6_outline_1 mv6_168 miX6_present (c_present hS h.1) ⟨by decide, by decide, rfl, rfl, Nat.zero_le _, Nat.zero_le _⟩ rfl rfl (Nat.le_of_ble_eq_true rfl) rfl rfl (by decide) rfl rfl (fun v M' h => by obtain ⟨_, _, _, _, _, _, _, _, _, h, _⟩ := h; rw [h]; rfl) ?_
  rintro _ M' ⟨rfl, ct', B', F', Z', Br', Q', Fo', No', rfl, hI, -⟩
  refine AW.cast (st2 := [.ref 5]) (M2 := (clC S (1) nk (sC S) (sR S) (sC S * sR S) (ct') (B') (F') (Z') (Br') (Q') (Fo') (No') Ho Mo In Sn Qn sd rt lf wy)) ?_ rfl rfl rfl
  have h9 := CN_p h hI
  refine a_astore_n (pc := 4) ok dX6_outline_4 rfl (by rw [hN]; decide) ?_
  refine a_aload_n (pc := 5) ok dX6_outline_5 rfl ?_
  refine a_iload_n (pc := 6) ok dX6_outline_6 rfl ?_
  refine a_callVp (pc := 7) ok [5, 6, 7, 8, 9, 10, 11, 12] dX6_outline_7 mv6_235 miX0_has (c_has hd hi hI) ⟨by decide, by decide, rfl, rfl, Nat.zero_le _, Nat.zero_le _⟩ rfl rfl (Nat.le_of_ble_eq_true rfl) rfl (by decide) rfl rfl ?_
  refine a_callSv (pc := 10) ok [] dX6_outline_10 mv6_203 miX6_mustExist (c_mustExist (bz_pos k1)) ⟨by decide, by decide, rfl, rfl, Nat.zero_le _, Nat.zero_le _⟩ rfl rfl (Nat.le_of_ble_eq_true rfl) rfl (by decide) rfl ?_
  refine a_iload_n (pc := 13) ok dX6_outline_13 rfl ?_
  refine a_iconst (pc := 14) ok dX6_outline_14 ?_
  refine a_iconst (pc := 15) ok dX6_outline_15 ?_
  refine a_callSv (pc := 16) ok [] dX6_outline_16 mv6_76 miX6_mustBeWithin (c_mustBeWithin k2 hw (by unfold rg; omega) (by unfold rg; omega)) ⟨by decide, by decide, rfl, rfl, Nat.zero_le _, Nat.zero_le _⟩ rfl rfl (Nat.le_of_ble_eq_true rfl) rfl (by decide) rfl ?_
  refine a_aload_n (pc := 19) ok dX6_outline_19 rfl ?_
  refine a_getf (pc := 20) ok dX6_outline_20 fl6_68 rfl rfl ?_
  refine a_aload_n (pc := 23) ok dX6_outline_23 rfl ?_
  refine a_iload_n (pc := 24) ok dX6_outline_24 rfl ?_
  refine a_iconst (pc := 25) ok dX6_outline_25 ?_
  refine a_callVv (pc := 26) ok [19, 5, 6, 7, 8, 9, 10, 11, 12] dX6_outline_26 mv6_268 miX3_follow (c_follow (a := -1) hd f1 f2 f3 (by unfold rg; omega) hI) ⟨by decide, by decide, rfl, rfl, Nat.zero_le _, Nat.zero_le _⟩ rfl rfl (Nat.le_of_ble_eq_true rfl) rfl (by decide) rfl rfl rfl ?_
  refine a_iload_n (pc := 29) ok dX6_outline_29 rfl ?_
  refine a_look (pc := 30) (dt := 72) ok [56, 64] dX6_outline_30 (by decide) (by decide) (by decide) (by first | omega | (unfold rg; omega) | (simp only [rg] at *; omega) | exact bz_rg _ | grind [rg]) (fun j30 hj30 c30 => ?_) (fun c30 => ?_)
  · rcases (show j30 = 0 ∨ j30 = 1 by simp only [List.length_cons, List.length_nil] at hj30; omega) with rfl | rfl
    · have c30 : _ = (0 : Int) := c30
      refine a_aload_n (pc := 56) ok dX6_outline_56 rfl ?_
      refine a_getf (pc := 57) ok dX6_outline_57 fl6_68 rfl rfl ?_
      refine a_getf (pc := 60) ok dX6_outline_60 fl6_272 rfl rfl ?_
      exact a_iret (pc := 63) ok dX6_outline_63 (⟨by rw [e0 (by omega)], RC_mk h9⟩)
    · have c30 : _ = (1 : Int) := c30
      refine a_aload_n (pc := 64) ok dX6_outline_64 rfl ?_
      refine a_getf (pc := 65) ok dX6_outline_65 fl6_68 rfl rfl ?_
      refine a_getf (pc := 68) ok dX6_outline_68 fl6_275 rfl rfl ?_
      exact a_iret (pc := 71) ok dX6_outline_71 (⟨by rw [e1 (by omega)], RC_mk h9⟩)
  · have c30_0 := c30 0 (by decide)
    have c30_1 := c30 1 (by decide)
    refine a_aload_n (pc := 72) ok dX6_outline_72 rfl ?_
    refine a_getf (pc := 73) ok dX6_outline_73 fl6_68 rfl rfl ?_
    refine a_getf (pc := 76) ok dX6_outline_76 fl6_278 rfl rfl ?_
    exact a_iret (pc := 79) ok dX6_outline_79 (⟨by rw [e2 (by omega)], RC_mk h9⟩)
theorem wS1_rg {i k : Int} (hS : SV S) (h : 0 ≤ i ∧ i < mS S) : -1 ≤ wS1 S i k ∧ wS1 S i k < 4 ∧ (wS1 S i k = -1 ↔ ¬ (0 ≤ k ∧ k < oN1 (sC S) (sR S) (bS S) (fS S i))) := by
  obtain ⟨f1, f2, f3⟩ := fS_ok hS h
  have hV := o0_V hS.1 f1 f2
  have hr := oN_rg hV hS.1 inI_P k.toNat
  have hl := oLen_ok hS.1 inI_P hV
  obtain ⟨n, hn⟩ : ∃ n, n = oN1 (sC S) (sR S) (bS S) (fS S i) := ⟨_, rfl⟩
  have hn1 : 1 ≤ n := by rw [hn]; exact hl.1
  unfold wS1 oA
  rw [← hn]
  split
  · omega
  · omega
theorem dX6_outlineWay_0 : decode cX6_outlineWay 0 = .ok (.aload_n 0, 1) := by decide +kernel
theorem dX6_outlineWay_1 : decode cX6_outlineWay 1 = .ok (.invokevirtual 168, 3) := by decide +kernel
theorem dX6_outlineWay_4 : decode cX6_outlineWay 4 = .ok (.astore_n 3, 1) := by decide +kernel
theorem dX6_outlineWay_5 : decode cX6_outlineWay 5 = .ok (.aload_n 3, 1) := by decide +kernel
theorem dX6_outlineWay_6 : decode cX6_outlineWay 6 = .ok (.iload_n 1, 1) := by decide +kernel
theorem dX6_outlineWay_7 : decode cX6_outlineWay 7 = .ok (.invokevirtual 235, 3) := by decide +kernel
theorem dX6_outlineWay_10 : decode cX6_outlineWay 10 = .ok (.invokestatic 203, 3) := by decide +kernel
theorem dX6_outlineWay_13 : decode cX6_outlineWay 13 = .ok (.aload_n 0, 1) := by decide +kernel
theorem dX6_outlineWay_14 : decode cX6_outlineWay 14 = .ok (.getfield 68, 3) := by decide +kernel
theorem dX6_outlineWay_17 : decode cX6_outlineWay 17 = .ok (.aload_n 3, 1) := by decide +kernel
theorem dX6_outlineWay_18 : decode cX6_outlineWay 18 = .ok (.iload_n 1, 1) := by decide +kernel
theorem dX6_outlineWay_19 : decode cX6_outlineWay 19 = .ok (.iload_n 2, 1) := by decide +kernel
theorem dX6_outlineWay_20 : decode cX6_outlineWay 20 = .ok (.invokevirtual 268, 3) := by decide +kernel
theorem dX6_outlineWay_23 : decode cX6_outlineWay 23 = .ok (.aload_n 0, 1) := by decide +kernel
theorem dX6_outlineWay_24 : decode cX6_outlineWay 24 = .ok (.getfield 68, 3) := by decide +kernel
theorem dX6_outlineWay_27 : decode cX6_outlineWay 27 = .ok (.getfield 281, 3) := by decide +kernel
theorem dX6_outlineWay_30 : decode cX6_outlineWay 30 = .ok (.iconst (-1), 1) := by decide +kernel
theorem dX6_outlineWay_31 : decode cX6_outlineWay 31 = .ok (.if_icmp .eq 7, 3) := by decide +kernel
theorem dX6_outlineWay_34 : decode cX6_outlineWay 34 = .ok (.iconst 1, 1) := by decide +kernel
theorem dX6_outlineWay_35 : decode cX6_outlineWay 35 = .ok (.goto 4, 3) := by decide +kernel
theorem dX6_outlineWay_38 : decode cX6_outlineWay 38 = .ok (.iconst 0, 1) := by decide +kernel
theorem dX6_outlineWay_39 : decode cX6_outlineWay 39 = .ok (.invokestatic 203, 3) := by decide +kernel
theorem dX6_outlineWay_42 : decode cX6_outlineWay 42 = .ok (.aload_n 0, 1) := by decide +kernel
theorem dX6_outlineWay_43 : decode cX6_outlineWay 43 = .ok (.getfield 68, 3) := by decide +kernel
theorem dX6_outlineWay_46 : decode cX6_outlineWay 46 = .ok (.getfield 281, 3) := by decide +kernel
theorem dX6_outlineWay_49 : decode cX6_outlineWay 49 = .ok (.ireturn, 1) := by decide +kernel
set_option maxRecDepth 100000 in
theorem c_outlineWay {i k : Int} (hS : SV S) (h : CN S kn nk c0 r0 m0 ct B F Z Fo No Ho Mo In) (h0 : kWay S i k = 0) (hi : rg i) (hk : rg k) : Ct l yX6_outlineWay cX6_outlineWay 4 (some .int) rmX6_outlineWay [.ref 0, iv i, iv k] (clC S kn nk c0 r0 m0 ct B F Z Br Q Fo No Ho Mo In Sn Qn sd rt lf wy)
    (fun z M => z = some (iv (wS1 S i k)) ∧ RC S M) := by
  refine Ct.of miX6_outlineWay (Nat.le_of_ble_eq_true rfl) ?_
  intro X hXl hN ok
  refine AW.cast (L2 := [some (.ref 0), some (iv i), some (iv k), none]) ?_ rfl rfl rfl
  have hd := hS.1
  have k1 : (0 ≤ i ∧ i < mS S) ∧ 0 ≤ k ∧ k < oN1 (sC S) (sR S) (bS S) (fS S i) := by
    unfold kWay at h0
    split at h0
    · assumption
    · omega
  obtain ⟨f1, f2, f3⟩ := fS_ok hS k1.1
  have hw := wS1_rg (k := k) hS k1.1
  have hwr : rg (wS1 S i k) := by unfold rg; omega
  have hw0 : wS1 S i k ≠ -1 := fun z => hw.2.2.mp z k1.2
  refine a_aload_n (pc := 0) ok dX6_outlineWay_0 rfl ?_
  refine x_callV (pc := 1) ok [0, 1, 2, 3, 4, 5, 6, 7, 8, 9, 10, 11, 12, 13, 14, 15, 16, 17, 18, 19, 20, 21, 22, 23, 24, 25, 26, 27, 28, 29, 30, 31, 32, 33, 34, 35, 36, 37, 38, 39, 40, 41, 42, 43, 44, 45] 13 dX6_outlineWay_1 mv6_168 miX6_present (c_present hS h.1) ⟨by decide, by decide, rfl, rfl, Nat.zero_le _, Nat.zero_le _⟩ rfl rfl (Nat.le_of_ble_eq_true rfl) rfl rfl (by decide) rfl rfl (fun v M' h => by obtain ⟨_, _, _, _, _, _, _, _, _, h, _⟩ := h; rw [h]; rfl) ?_
  rintro _ M' ⟨rfl, ct', B', F', Z', Br', Q', Fo', No', rfl, hI, -⟩
  refine AW.cast (st2 := [.ref 5]) (M2 := (clC S (1) nk (sC S) (sR S) (sC S * sR S) (ct') (B') (F') (Z') (Br') (Q') (Fo') (No') Ho Mo In Sn Qn sd rt lf wy)) ?_ rfl rfl rfl
  have h9 := CN_p h hI
  refine a_astore_n (pc := 4) ok dX6_outlineWay_4 rfl (by rw [hN]; decide) ?_
  refine a_aload_n (pc := 5) ok dX6_outlineWay_5 rfl ?_
  refine a_iload_n (pc := 6) ok dX6_outlineWay_6 rfl ?_
  refine a_callVp (pc := 7) ok [5, 6, 7, 8, 9, 10, 11, 12] dX6_outlineWay_7 mv6_235 miX0_has (c_has hd hi hI) ⟨by decide, by decide, rfl, rfl, Nat.zero_le _, Nat.zero_le _⟩ rfl rfl (Nat.le_of_ble_eq_true rfl) rfl (by decide) rfl rfl ?_
  refine a_callSv (pc := 10) ok [] dX6_outlineWay_10 mv6_203 miX6_mustExist (c_mustExist (bz_pos k1.1)) ⟨by decide, by decide, rfl, rfl, Nat.zero_le _, Nat.zero_le _⟩ rfl rfl (Nat.le_of_ble_eq_true rfl) rfl (by decide) rfl ?_
  refine a_aload_n (pc := 13) ok dX6_outlineWay_13 rfl ?_
  refine a_getf (pc := 14) ok dX6_outlineWay_14 fl6_68 rfl rfl ?_
  refine a_aload_n (pc := 17) ok dX6_outlineWay_17 rfl ?_
  refine a_iload_n (pc := 18) ok dX6_outlineWay_18 rfl ?_
  refine a_iload_n (pc := 19) ok dX6_outlineWay_19 rfl ?_
  refine a_callVv (pc := 20) ok [19, 5, 6, 7, 8, 9, 10, 11, 12] dX6_outlineWay_20 mv6_268 miX3_follow (c_follow (a := k) hd f1 f2 f3 hk hI) ⟨by decide, by decide, rfl, rfl, Nat.zero_le _, Nat.zero_le _⟩ rfl rfl (Nat.le_of_ble_eq_true rfl) rfl (by decide) rfl rfl rfl ?_
  refine a_aload_n (pc := 23) ok dX6_outlineWay_23 rfl ?_
  refine a_getf (pc := 24) ok dX6_outlineWay_24 fl6_68 rfl rfl ?_
  refine a_getf (pc := 27) ok dX6_outlineWay_27 fl6_281 rfl rfl ?_
  refine a_iconst (pc := 30) ok dX6_outlineWay_30 ?_
  refine a_icmp_eq (pc := 31) (tgt := 38) ok dX6_outlineWay_31 (by decide) (by first | exact hwr | (unfold rg; omega)) (by first | exact hwr | (unfold rg; omega)) (fun c31 => ?_) (fun c31 => ?_)
  · exact absurd c31 hw0
  · refine a_iconst (pc := 34) ok dX6_outlineWay_34 ?_
    refine a_goto (pc := 35) (tgt := 39) ok dX6_outlineWay_35 (by decide) ?_
    refine a_callSv (pc := 39) ok [] dX6_outlineWay_39 mv6_203 miX6_mustExist (c_mustExist rfl) ⟨by decide, by decide, rfl, rfl, Nat.zero_le _, Nat.zero_le _⟩ rfl rfl (Nat.le_of_ble_eq_true rfl) rfl (by decide) rfl ?_
    refine a_aload_n (pc := 42) ok dX6_outlineWay_42 rfl ?_
    refine a_getf (pc := 43) ok dX6_outlineWay_43 fl6_68 rfl rfl ?_
    refine a_getf (pc := 46) ok dX6_outlineWay_46 fl6_281 rfl rfl ?_
    exact a_iret (pc := 49) ok dX6_outlineWay_49 (⟨rfl, RC_mk h9⟩)
theorem dX6_band_0 : decode cX6_band 0 = .ok (.iload_n 1, 1) := by decide +kernel
theorem dX6_band_1 : decode cX6_band 1 = .ok (.ifCond .lt 18, 3) := by decide +kernel
theorem dX6_band_4 : decode cX6_band 4 = .ok (.iload_n 1, 1) := by decide +kernel
theorem dX6_band_5 : decode cX6_band 5 = .ok (.aload_n 0, 1) := by decide +kernel
theorem dX6_band_6 : decode cX6_band 6 = .ok (.getfield 19, 3) := by decide +kernel
theorem dX6_band_9 : decode cX6_band 9 = .ok (.getfield 162, 3) := by decide +kernel
theorem dX6_band_12 : decode cX6_band 12 = .ok (.if_icmp .gt 7, 3) := by decide +kernel
theorem dX6_band_15 : decode cX6_band 15 = .ok (.iconst 1, 1) := by decide +kernel
theorem dX6_band_16 : decode cX6_band 16 = .ok (.goto 4, 3) := by decide +kernel
theorem dX6_band_19 : decode cX6_band 19 = .ok (.iconst 0, 1) := by decide +kernel
theorem dX6_band_20 : decode cX6_band 20 = .ok (.invokestatic 203, 3) := by decide +kernel
theorem dX6_band_23 : decode cX6_band 23 = .ok (.iload_n 2, 1) := by decide +kernel
theorem dX6_band_24 : decode cX6_band 24 = .ok (.iconst 0, 1) := by decide +kernel
theorem dX6_band_25 : decode cX6_band 25 = .ok (.iconst 3, 1) := by decide +kernel
theorem dX6_band_26 : decode cX6_band 26 = .ok (.invokestatic 76, 3) := by decide +kernel
theorem dX6_band_29 : decode cX6_band 29 = .ok (.iload_n 2, 1) := by decide +kernel
theorem dX6_band_30 : decode cX6_band 30 = .ok (.tableswitch 54 0 2 #[26, 36, 45], 26) := by decide +kernel
theorem dX6_band_56 : decode cX6_band 56 = .ok (.aload_n 0, 1) := by decide +kernel
theorem dX6_band_57 : decode cX6_band 57 = .ok (.getfield 19, 3) := by decide +kernel
theorem dX6_band_60 : decode cX6_band 60 = .ok (.getfield 284, 3) := by decide +kernel
theorem dX6_band_63 : decode cX6_band 63 = .ok (.iload_n 1, 1) := by decide +kernel
theorem dX6_band_64 : decode cX6_band 64 = .ok (.iaload, 1) := by decide +kernel
theorem dX6_band_65 : decode cX6_band 65 = .ok (.ireturn, 1) := by decide +kernel
theorem dX6_band_66 : decode cX6_band 66 = .ok (.aload_n 0, 1) := by decide +kernel
theorem dX6_band_67 : decode cX6_band 67 = .ok (.invokevirtual 168, 3) := by decide +kernel
theorem dX6_band_70 : decode cX6_band 70 = .ok (.iload_n 1, 1) := by decide +kernel
theorem dX6_band_71 : decode cX6_band 71 = .ok (.invokevirtual 287, 3) := by decide +kernel
theorem dX6_band_74 : decode cX6_band 74 = .ok (.ireturn, 1) := by decide +kernel
theorem dX6_band_75 : decode cX6_band 75 = .ok (.aload_n 0, 1) := by decide +kernel
theorem dX6_band_76 : decode cX6_band 76 = .ok (.invokevirtual 168, 3) := by decide +kernel
theorem dX6_band_79 : decode cX6_band 79 = .ok (.iload_n 1, 1) := by decide +kernel
theorem dX6_band_80 : decode cX6_band 80 = .ok (.invokevirtual 290, 3) := by decide +kernel
theorem dX6_band_83 : decode cX6_band 83 = .ok (.ireturn, 1) := by decide +kernel
theorem dX6_band_84 : decode cX6_band 84 = .ok (.aload_n 0, 1) := by decide +kernel
theorem dX6_band_85 : decode cX6_band 85 = .ok (.invokevirtual 168, 3) := by decide +kernel
theorem dX6_band_88 : decode cX6_band 88 = .ok (.iload_n 1, 1) := by decide +kernel
theorem dX6_band_89 : decode cX6_band 89 = .ok (.invokevirtual 287, 3) := by decide +kernel
theorem dX6_band_92 : decode cX6_band 92 = .ok (.aload_n 0, 1) := by decide +kernel
theorem dX6_band_93 : decode cX6_band 93 = .ok (.getfield 19, 3) := by decide +kernel
theorem dX6_band_96 : decode cX6_band 96 = .ok (.getfield 284, 3) := by decide +kernel
theorem dX6_band_99 : decode cX6_band 99 = .ok (.iload_n 1, 1) := by decide +kernel
theorem dX6_band_100 : decode cX6_band 100 = .ok (.iaload, 1) := by decide +kernel
theorem dX6_band_101 : decode cX6_band 101 = .ok (.imul, 1) := by decide +kernel
theorem dX6_band_102 : decode cX6_band 102 = .ok (.ireturn, 1) := by decide +kernel
theorem c_band {x what : Int} (hS : SV S) (h : CN S kn nk c0 r0 m0 ct B F Z Fo No Ho Mo In) (h0 : kBand S x what = 0) (hx : rg x) (hw : rg what) : Ct l yX6_band cX6_band 3 (some .int) rmX6_band [.ref 0, iv x, iv what] (clB S kn nk c0 r0 m0 ct B F Z Br Q Fo No Ho Mo In Sn Qn)
    (fun z M => z = some (iv (aBand S x what)) ∧ RB S M) := by
  refine Ct.of miX6_band (Nat.le_of_ble_eq_true rfl) ?_
  intro X hXl hN ok
  refine AW.cast (L2 := [some (.ref 0), some (iv x), some (iv what)]) ?_ rfl rfl rfl
  have hd := hS.1
  have hn := hS.2.2.2.2.1
  obtain ⟨k1, k2⟩ := kBand_0 h0
  have e0 : what = 0 → aBand S x what = sH S x := fun e => by subst e; rfl
  have e1 : what = 1 → aBand S x what = cntK (fun k => decide (bS S k = x)) (sC S * sR S).toNat := fun e => by subst e; rfl
  have e2 : what = 2 → aBand S x what = cntK (fun j => decide (lw (sC S) (sR S) (bS S) j = j ∧ bS S j = x)) (sC S * sR S).toNat := fun e => by subst e; rfl
  have e3 : what = 3 → aBand S x what = cntK (fun k => decide (bS S k = x)) (sC S * sR S).toNat * sH S x := fun e => by subst e; rfl
  refine a_iload_n (pc := 0) ok dX6_band_0 rfl ?_
  refine a_if_lt (pc := 1) (tgt := 19) ok dX6_band_1 (by decide) (by first | omega | (unfold rg; omega) | (simp only [rg] at *; omega) | exact bz_rg _ | grind [rg]) (fun c1 => ?_) (fun c1 => ?_)
  · omega
  · refine a_iload_n (pc := 4) ok dX6_band_4 rfl ?_
    refine a_aload_n (pc := 5) ok dX6_band_5 rfl ?_
    refine a_getf (pc := 6) ok dX6_band_6 fl6_19 rfl rfl ?_
    refine a_getf (pc := 9) ok dX6_band_9 fl6_162 rfl rfl ?_
    refine a_icmp_gt (pc := 12) (tgt := 19) ok dX6_band_12 (by decide) (by unfold rg; omega) (by unfold rg; omega) (fun c12 => ?_) (fun c12 => ?_)
    · omega
    · refine a_iconst (pc := 15) ok dX6_band_15 ?_
      refine a_goto (pc := 16) (tgt := 20) ok dX6_band_16 (by decide) ?_
      refine a_callSv (pc := 20) ok [] dX6_band_20 mv6_203 miX6_mustExist (c_mustExist rfl) ⟨by decide, by decide, rfl, rfl, Nat.zero_le _, Nat.zero_le _⟩ rfl rfl (Nat.le_of_ble_eq_true rfl) rfl (by decide) rfl ?_
      refine a_iload_n (pc := 23) ok dX6_band_23 rfl ?_
      refine a_iconst (pc := 24) ok dX6_band_24 ?_
      refine a_iconst (pc := 25) ok dX6_band_25 ?_
      refine a_callSv (pc := 26) ok [] dX6_band_26 mv6_76 miX6_mustBeWithin (c_mustBeWithin k2 hw (by unfold rg; omega) (by unfold rg; omega)) ⟨by decide, by decide, rfl, rfl, Nat.zero_le _, Nat.zero_le _⟩ rfl rfl (Nat.le_of_ble_eq_true rfl) rfl (by decide) rfl ?_
      refine a_iload_n (pc := 29) ok dX6_band_29 rfl ?_
      refine a_tab (pc := 30) (dt := 84) ok [56, 66, 75] dX6_band_30 (by decide) (by decide) (by decide) (by first | omega | (unfold rg; omega) | (simp only [rg] at *; omega) | exact bz_rg _ | grind [rg]) (fun j30 hj30 c30 => ?_) (fun c30 => ?_)
      · rcases (show j30 = 0 ∨ j30 = 1 ∨ j30 = 2 by simp only [List.length_cons, List.length_nil] at hj30; omega) with rfl | rfl | rfl
        · refine a_aload_n (pc := 56) ok dX6_band_56 rfl ?_
          refine a_getf (pc := 57) ok dX6_band_57 fl6_19 rfl rfl ?_
          refine a_getf (pc := 60) ok dX6_band_60 fl6_284 rfl rfl ?_
          refine a_iload_n (pc := 63) ok dX6_band_63 rfl ?_
          refine a_iald (pc := 64) ok dX6_band_64 rfl (by first | decide | omega) (by first | omega | (unfold rg; omega) | (simp only [rg] at *; omega) | exact bz_rg _ | grind [rg]) ?_
          exact a_iret (pc := 65) ok dX6_band_65 (⟨by rw [e0 (by omega)], RB_mk h⟩)
        · refine a_aload_n (pc := 66) ok dX6_band_66 rfl ?_
          refine x_callV (pc := 67) ok [0, 1, 2, 3, 4, 5, 6, 7, 8, 9, 10, 11, 12, 13, 14, 15, 16, 17, 18, 19, 20, 21, 22, 23, 24, 25, 26, 27, 28, 29, 30, 31, 32, 33, 34, 35, 36, 37, 38, 39, 40, 41, 42, 43, 44, 45] 13 dX6_band_67 mv6_168 miX6_present (c_present hS h.1) ⟨by decide, by decide, rfl, rfl, Nat.zero_le _, Nat.zero_le _⟩ rfl rfl (Nat.le_of_ble_eq_true rfl) rfl rfl (by decide) rfl rfl (fun v M' h => by obtain ⟨_, _, _, _, _, _, _, _, _, h, _⟩ := h; rw [h]; rfl) ?_
          rintro _ M' ⟨rfl, ct', B', F', Z', Br', Q', Fo', No', rfl, hI, -⟩
          refine AW.cast (st2 := [.ref 5]) (M2 := (clB S (1) nk (sC S) (sR S) (sC S * sR S) (ct') (B') (F') (Z') (Br') (Q') (Fo') (No') Ho Mo In Sn Qn)) ?_ rfl rfl rfl
          have h9 := CN_p h hI
          refine a_iload_n (pc := 70) ok dX6_band_70 rfl ?_
          refine a_callVp (pc := 71) ok [5, 6, 7, 8, 9, 10, 11, 12] dX6_band_71 mv6_287 miX0_cellsOfBand (c_cellsOfBand hd hx hI) ⟨by decide, by decide, rfl, rfl, Nat.zero_le _, Nat.zero_le _⟩ rfl rfl (Nat.le_of_ble_eq_true rfl) rfl (by decide) rfl rfl ?_
          exact a_iret (pc := 74) ok dX6_band_74 (⟨by rw [e1 (by omega)], RB_mk h9⟩)
        · refine a_aload_n (pc := 75) ok dX6_band_75 rfl ?_
          refine x_callV (pc := 76) ok [0, 1, 2, 3, 4, 5, 6, 7, 8, 9, 10, 11, 12, 13, 14, 15, 16, 17, 18, 19, 20, 21, 22, 23, 24, 25, 26, 27, 28, 29, 30, 31, 32, 33, 34, 35, 36, 37, 38, 39, 40, 41, 42, 43, 44, 45] 13 dX6_band_76 mv6_168 miX6_present (c_present hS h.1) ⟨by decide, by decide, rfl, rfl, Nat.zero_le _, Nat.zero_le _⟩ rfl rfl (Nat.le_of_ble_eq_true rfl) rfl rfl (by decide) rfl rfl (fun v M' h => by obtain ⟨_, _, _, _, _, _, _, _, _, h, _⟩ := h; rw [h]; rfl) ?_
          rintro _ M' ⟨rfl, ct', B', F', Z', Br', Q', Fo', No', rfl, hI, -⟩
          refine AW.cast (st2 := [.ref 5]) (M2 := (clB S (1) nk (sC S) (sR S) (sC S * sR S) (ct') (B') (F') (Z') (Br') (Q') (Fo') (No') Ho Mo In Sn Qn)) ?_ rfl rfl rfl
          have h9 := CN_p h hI
          refine a_iload_n (pc := 79) ok dX6_band_79 rfl ?_
          refine a_callVp (pc := 80) ok [5, 6, 7, 8, 9, 10, 11, 12] dX6_band_80 mv6_290 miX0_islandsOfBand (c_islandsOfBand hd hx hI) ⟨by decide, by decide, rfl, rfl, Nat.zero_le _, Nat.zero_le _⟩ rfl rfl (Nat.le_of_ble_eq_true rfl) rfl (by decide) rfl rfl ?_
          exact a_iret (pc := 83) ok dX6_band_83 (⟨by rw [e2 (by omega)], RB_mk h9⟩)
      · refine a_aload_n (pc := 84) ok dX6_band_84 rfl ?_
        refine x_callV (pc := 85) ok [0, 1, 2, 3, 4, 5, 6, 7, 8, 9, 10, 11, 12, 13, 14, 15, 16, 17, 18, 19, 20, 21, 22, 23, 24, 25, 26, 27, 28, 29, 30, 31, 32, 33, 34, 35, 36, 37, 38, 39, 40, 41, 42, 43, 44, 45] 13 dX6_band_85 mv6_168 miX6_present (c_present hS h.1) ⟨by decide, by decide, rfl, rfl, Nat.zero_le _, Nat.zero_le _⟩ rfl rfl (Nat.le_of_ble_eq_true rfl) rfl rfl (by decide) rfl rfl (fun v M' h => by obtain ⟨_, _, _, _, _, _, _, _, _, h, _⟩ := h; rw [h]; rfl) ?_
        rintro _ M' ⟨rfl, ct', B', F', Z', Br', Q', Fo', No', rfl, hI, -⟩
        refine AW.cast (st2 := [.ref 5]) (M2 := (clB S (1) nk (sC S) (sR S) (sC S * sR S) (ct') (B') (F') (Z') (Br') (Q') (Fo') (No') Ho Mo In Sn Qn)) ?_ rfl rfl rfl
        have h9 := CN_p h hI
        refine a_iload_n (pc := 88) ok dX6_band_88 rfl ?_
        refine a_callVp (pc := 89) ok [5, 6, 7, 8, 9, 10, 11, 12] dX6_band_89 mv6_287 miX0_cellsOfBand (c_cellsOfBand hd hx hI) ⟨by decide, by decide, rfl, rfl, Nat.zero_le _, Nat.zero_le _⟩ rfl rfl (Nat.le_of_ble_eq_true rfl) rfl (by decide) rfl rfl ?_
        refine a_aload_n (pc := 92) ok dX6_band_92 rfl ?_
        refine a_getf (pc := 93) ok dX6_band_93 fl6_19 rfl rfl ?_
        refine a_getf (pc := 96) ok dX6_band_96 fl6_284 rfl rfl ?_
        refine a_iload_n (pc := 99) ok dX6_band_99 rfl ?_
        refine a_iald (pc := 100) ok dX6_band_100 rfl (by first | decide | omega) (by first | omega | (unfold rg; omega) | (simp only [rg] at *; omega) | exact bz_rg _ | grind [rg]) ?_
        refine a_imul (pc := 101) ok dX6_band_101 ?_
        exact a_iret (pc := 102) ok dX6_band_102 (⟨by rw [e3 (by omega)], RB_mk h9⟩)
theorem dX6_ink_0 : decode cX6_ink 0 = .ok (.aload_n 0, 1) := by decide +kernel
theorem dX6_ink_1 : decode cX6_ink 1 = .ok (.invokevirtual 168, 3) := by decide +kernel
theorem dX6_ink_4 : decode cX6_ink 4 = .ok (.aload_n 0, 1) := by decide +kernel
theorem dX6_ink_5 : decode cX6_ink 5 = .ok (.getfield 19, 3) := by decide +kernel
theorem dX6_ink_8 : decode cX6_ink 8 = .ok (.invokevirtual 293, 3) := by decide +kernel
theorem dX6_ink_11 : decode cX6_ink 11 = .ok (.ireturn, 1) := by decide +kernel
theorem c_ink (hS : SV S) (h : CN S kn nk c0 r0 m0 ct B F Z Fo No Ho Mo In) : Ct l yX6_ink cX6_ink 1 (some .int) rmX6_ink [.ref 0] (clB S kn nk c0 r0 m0 ct B F Z Br Q Fo No Ho Mo In Sn Qn)
    (fun z M => z = some (iv (inkF (sC S) (sR S) (bS S) (sH S) (sI S))) ∧ RB S M) := by
  refine Ct.of miX6_ink (Nat.le_of_ble_eq_true rfl) ?_
  intro X hXl hN ok
  refine AW.cast (L2 := [some (.ref 0)]) ?_ rfl rfl rfl
  refine a_aload_n (pc := 0) ok dX6_ink_0 rfl ?_
  refine x_callV (pc := 1) ok [0, 1, 2, 3, 4, 5, 6, 7, 8, 9, 10, 11, 12, 13, 14, 15, 16, 17, 18, 19, 20, 21, 22, 23, 24, 25, 26, 27, 28, 29, 30, 31, 32, 33, 34, 35, 36, 37, 38, 39, 40, 41, 42, 43, 44, 45] 13 dX6_ink_1 mv6_168 miX6_present (c_present hS h.1) ⟨by decide, by decide, rfl, rfl, Nat.zero_le _, Nat.zero_le _⟩ rfl rfl (Nat.le_of_ble_eq_true rfl) rfl rfl (by decide) rfl rfl (fun v M' h => by obtain ⟨_, _, _, _, _, _, _, _, _, h, _⟩ := h; rw [h]; rfl) ?_
  rintro _ M' ⟨rfl, ct', B', F', Z', Br', Q', Fo', No', rfl, hI, -⟩
  refine AW.cast (st2 := [.ref 5]) (M2 := (clB S (1) nk (sC S) (sR S) (sC S * sR S) (ct') (B') (F') (Z') (Br') (Q') (Fo') (No') Ho Mo In Sn Qn)) ?_ rfl rfl rfl
  refine a_aload_n (pc := 4) ok dX6_ink_4 rfl ?_
  refine a_getf (pc := 5) ok dX6_ink_5 fl6_19 rfl rfl ?_
  refine a_callVp (pc := 8) ok [5, 6, 7, 8, 9, 10, 11, 12, 1, 2, 3, 4] dX6_ink_8 mv6_293 miX0_inkNeeded (c_inkNeeded hS.1 hI) ⟨by decide, by decide, rfl, rfl, Nat.zero_le _, Nat.zero_le _⟩ rfl rfl (Nat.le_of_ble_eq_true rfl) rfl (by decide) rfl rfl ?_
  exact a_iret (pc := 11) ok dX6_ink_11 (⟨rfl, RB_mk (CN_p h hI)⟩)
theorem dX6_about_0 : decode cX6_about 0 = .ok (.iload_n 1, 1) := by decide +kernel
theorem dX6_about_1 : decode cX6_about 1 = .ok (.iconst 0, 1) := by decide +kernel
theorem dX6_about_2 : decode cX6_about 2 = .ok (.bipush 10, 2) := by decide +kernel
theorem dX6_about_4 : decode cX6_about 4 = .ok (.invokestatic 76, 3) := by decide +kernel
theorem dX6_about_7 : decode cX6_about 7 = .ok (.iload_n 1, 1) := by decide +kernel
theorem dX6_about_8 : decode cX6_about 8 = .ok (.tableswitch 152 0 9 #[56, 64, 72, 80, 88, 96, 116, 128, 136, 144], 56) := by decide +kernel
theorem dX6_about_64 : decode cX6_about 64 = .ok (.aload_n 0, 1) := by decide +kernel
theorem dX6_about_65 : decode cX6_about 65 = .ok (.getfield 19, 3) := by decide +kernel
theorem dX6_about_68 : decode cX6_about 68 = .ok (.getfield 156, 3) := by decide +kernel
theorem dX6_about_71 : decode cX6_about 71 = .ok (.ireturn, 1) := by decide +kernel
theorem dX6_about_72 : decode cX6_about 72 = .ok (.aload_n 0, 1) := by decide +kernel
theorem dX6_about_73 : decode cX6_about 73 = .ok (.getfield 19, 3) := by decide +kernel
theorem dX6_about_76 : decode cX6_about 76 = .ok (.getfield 159, 3) := by decide +kernel
theorem dX6_about_79 : decode cX6_about 79 = .ok (.ireturn, 1) := by decide +kernel
theorem dX6_about_80 : decode cX6_about 80 = .ok (.aload_n 0, 1) := by decide +kernel
theorem dX6_about_81 : decode cX6_about 81 = .ok (.getfield 19, 3) := by decide +kernel
theorem dX6_about_84 : decode cX6_about 84 = .ok (.getfield 162, 3) := by decide +kernel
theorem dX6_about_87 : decode cX6_about 87 = .ok (.ireturn, 1) := by decide +kernel
theorem dX6_about_88 : decode cX6_about 88 = .ok (.aload_n 0, 1) := by decide +kernel
theorem dX6_about_89 : decode cX6_about 89 = .ok (.getfield 19, 3) := by decide +kernel
theorem dX6_about_92 : decode cX6_about 92 = .ok (.getfield 165, 3) := by decide +kernel
theorem dX6_about_95 : decode cX6_about 95 = .ok (.ireturn, 1) := by decide +kernel
theorem dX6_about_96 : decode cX6_about 96 = .ok (.aload_n 0, 1) := by decide +kernel
theorem dX6_about_97 : decode cX6_about 97 = .ok (.invokevirtual 168, 3) := by decide +kernel
theorem dX6_about_100 : decode cX6_about 100 = .ok (.getfield 172, 3) := by decide +kernel
theorem dX6_about_103 : decode cX6_about 103 = .ok (.ireturn, 1) := by decide +kernel
theorem dX6_about_104 : decode cX6_about 104 = .ok (.aload_n 0, 1) := by decide +kernel
theorem dX6_about_105 : decode cX6_about 105 = .ok (.getfield 62, 3) := by decide +kernel
theorem dX6_about_108 : decode cX6_about 108 = .ok (.aload_n 0, 1) := by decide +kernel
theorem dX6_about_109 : decode cX6_about 109 = .ok (.getfield 19, 3) := by decide +kernel
theorem dX6_about_112 : decode cX6_about 112 = .ok (.iconst 1, 1) := by decide +kernel
theorem dX6_about_113 : decode cX6_about 113 = .ok (.invokevirtual 175, 3) := by decide +kernel
theorem dX6_about_116 : decode cX6_about 116 = .ok (.aload_n 0, 1) := by decide +kernel
theorem dX6_about_117 : decode cX6_about 117 = .ok (.getfield 62, 3) := by decide +kernel
theorem dX6_about_120 : decode cX6_about 120 = .ok (.getfield 172, 3) := by decide +kernel
theorem dX6_about_123 : decode cX6_about 123 = .ok (.ireturn, 1) := by decide +kernel
theorem dX6_about_124 : decode cX6_about 124 = .ok (.aload_n 0, 1) := by decide +kernel
theorem dX6_about_125 : decode cX6_about 125 = .ok (.invokevirtual 168, 3) := by decide +kernel
theorem dX6_about_128 : decode cX6_about 128 = .ok (.aload_n 0, 1) := by decide +kernel
theorem dX6_about_129 : decode cX6_about 129 = .ok (.getfield 19, 3) := by decide +kernel
theorem dX6_about_132 : decode cX6_about 132 = .ok (.invokevirtual 179, 3) := by decide +kernel
theorem dX6_about_135 : decode cX6_about 135 = .ok (.ireturn, 1) := by decide +kernel
theorem dX6_about_136 : decode cX6_about 136 = .ok (.aload_n 0, 1) := by decide +kernel
theorem dX6_about_137 : decode cX6_about 137 = .ok (.invokevirtual 168, 3) := by decide +kernel
theorem dX6_about_140 : decode cX6_about 140 = .ok (.invokevirtual 183, 3) := by decide +kernel
theorem dX6_about_143 : decode cX6_about 143 = .ok (.ireturn, 1) := by decide +kernel
theorem dX6_about_144 : decode cX6_about 144 = .ok (.aload_n 0, 1) := by decide +kernel
theorem dX6_about_145 : decode cX6_about 145 = .ok (.invokevirtual 186, 3) := by decide +kernel
theorem dX6_about_148 : decode cX6_about 148 = .ok (.invokevirtual 190, 3) := by decide +kernel
theorem dX6_about_151 : decode cX6_about 151 = .ok (.ireturn, 1) := by decide +kernel
theorem dX6_about_152 : decode cX6_about 152 = .ok (.aload_n 0, 1) := by decide +kernel
theorem dX6_about_153 : decode cX6_about 153 = .ok (.getfield 19, 3) := by decide +kernel
theorem dX6_about_156 : decode cX6_about 156 = .ok (.getfield 193, 3) := by decide +kernel
theorem dX6_about_159 : decode cX6_about 159 = .ok (.ireturn, 1) := by decide +kernel
theorem dX6_about_160 : decode cX6_about 160 = .ok (.aload_n 0, 1) := by decide +kernel
theorem dX6_about_161 : decode cX6_about 161 = .ok (.getfield 19, 3) := by decide +kernel
theorem dX6_about_164 : decode cX6_about 164 = .ok (.invokevirtual 196, 3) := by decide +kernel
theorem dX6_about_167 : decode cX6_about 167 = .ok (.ireturn, 1) := by decide +kernel
theorem c_about {what : Int} (hS : SV S) (h : CN S kn nk c0 r0 m0 ct B F Z Fo No Ho Mo In) (hr : rwI B1 F1 Z1) (h0 : kIn what 0 10 = 0) (hw : rg what) : Ct l yX6_about cX6_about 2 (some .int) rmX6_about [.ref 0, iv what] (clD S kn nk c0 r0 m0 ct B F Z Br Q Fo No Ho Mo In Sn Qn sd rt lf wy S2 c1 r1 m1 ct1 B1 F1 Z1 Br1 Q1 Fo1 No1 gb)
    (fun z M => z = some (iv (aAbout S what)) ∧ RD S M) := by
  refine Ct.of miX6_about (Nat.le_of_ble_eq_true rfl) ?_
  intro X hXl hN ok
  refine AW.cast (L2 := [some (.ref 0), some (iv what)]) ?_ rfl rfl rfl
  have hd := hS.1
  have k1 := kIn_0 h0
  have hT : ∀ i, rg (sT S i) := fun i => by have := hS.2.2.1 i; unfold rg; omega
  have e0 : what = 0 → aAbout S what = sC S := fun e => by subst e; rfl
  have e1 : what = 1 → aAbout S what = sR S := fun e => by subst e; rfl
  have e2 : what = 2 → aAbout S what = sN S := fun e => by subst e; rfl
  have e3 : what = 3 → aAbout S what = sE S := fun e => by subst e; rfl
  have e4 : what = 4 → aAbout S what = mS S := fun e => by subst e; rfl
  have e5 : what = 5 → aAbout S what = mny (sC S) (sR S) (bnd (sT S) (sN S) (sG S)) := fun e => by subst e; rfl
  have e6 : what = 6 → aAbout S what = cntK (fun k => decide (bS S k ≠ bnd (sT S) (sN S) (sG S) k)) (sC S * sR S).toNat := fun e => by subst e; rfl
  have e7 : what = 7 → aAbout S what = asK (sC S) (sR S) (bS S) (sC S * sR S).toNat / 2 := fun e => by subst e; rfl
  have e8 : what = 8 → aAbout S what = ahF (sC S) (sR S) (bS S) := fun e => by subst e; rfl
  have e9 : what = 9 → aAbout S what = sI S := fun e => by subst e; rfl
  have e10 : what = 10 → aAbout S what = sumK (sG S) (sC S * sR S).toNat := fun e => by subst e; rfl
  refine a_iload_n (pc := 0) ok dX6_about_0 rfl ?_
  refine a_iconst (pc := 1) ok dX6_about_1 ?_
  refine a_bipush (pc := 2) ok dX6_about_2 (by decide) ?_
  refine a_callSv (pc := 4) ok [] dX6_about_4 mv6_76 miX6_mustBeWithin (c_mustBeWithin k1 hw (by unfold rg; omega) (by unfold rg; omega)) ⟨by decide, by decide, rfl, rfl, Nat.zero_le _, Nat.zero_le _⟩ rfl rfl (Nat.le_of_ble_eq_true rfl) rfl (by decide) rfl ?_
  refine a_iload_n (pc := 7) ok dX6_about_7 rfl ?_
  refine a_tab (pc := 8) (dt := 160) ok [64, 72, 80, 88, 96, 104, 124, 136, 144, 152] dX6_about_8 (by decide) (by decide) (by decide) (by first | omega | (unfold rg; omega) | (simp only [rg] at *; omega) | exact bz_rg _ | grind [rg]) (fun j8 hj8 c8 => ?_) (fun c8 => ?_)
  · rcases (show j8 = 0 ∨ j8 = 1 ∨ j8 = 2 ∨ j8 = 3 ∨ j8 = 4 ∨ j8 = 5 ∨ j8 = 6 ∨ j8 = 7 ∨ j8 = 8 ∨ j8 = 9 by simp only [List.length_cons, List.length_nil] at hj8; omega) with rfl | rfl | rfl | rfl | rfl | rfl | rfl | rfl | rfl | rfl
    · refine a_aload_n (pc := 64) ok dX6_about_64 rfl ?_
      refine a_getf (pc := 65) ok dX6_about_65 fl6_19 rfl rfl ?_
      refine a_getf (pc := 68) ok dX6_about_68 fl6_156 rfl rfl ?_
      exact a_iret (pc := 71) ok dX6_about_71 (⟨by rw [e0 (by omega)], RD_mk h hr⟩)
    · refine a_aload_n (pc := 72) ok dX6_about_72 rfl ?_
      refine a_getf (pc := 73) ok dX6_about_73 fl6_19 rfl rfl ?_
      refine a_getf (pc := 76) ok dX6_about_76 fl6_159 rfl rfl ?_
      exact a_iret (pc := 79) ok dX6_about_79 (⟨by rw [e1 (by omega)], RD_mk h hr⟩)
    · refine a_aload_n (pc := 80) ok dX6_about_80 rfl ?_
      refine a_getf (pc := 81) ok dX6_about_81 fl6_19 rfl rfl ?_
      refine a_getf (pc := 84) ok dX6_about_84 fl6_162 rfl rfl ?_
      exact a_iret (pc := 87) ok dX6_about_87 (⟨by rw [e2 (by omega)], RD_mk h hr⟩)
    · refine a_aload_n (pc := 88) ok dX6_about_88 rfl ?_
      refine a_getf (pc := 89) ok dX6_about_89 fl6_19 rfl rfl ?_
      refine a_getf (pc := 92) ok dX6_about_92 fl6_165 rfl rfl ?_
      exact a_iret (pc := 95) ok dX6_about_95 (⟨by rw [e3 (by omega)], RD_mk h hr⟩)
    · refine a_aload_n (pc := 96) ok dX6_about_96 rfl ?_
      refine x_callV (pc := 97) ok [0, 1, 2, 3, 4, 5, 6, 7, 8, 9, 10, 11, 12, 13, 14, 15, 16, 17, 18, 19, 20, 21, 22, 23, 24, 25, 26, 27, 28, 29, 30, 31, 32, 33, 34, 35, 36, 37, 38, 39, 40, 41, 42, 43, 44, 45] 13 dX6_about_97 mv6_168 miX6_present (c_present hS h.1) ⟨by decide, by decide, rfl, rfl, Nat.zero_le _, Nat.zero_le _⟩ rfl rfl (Nat.le_of_ble_eq_true rfl) rfl rfl (by decide) rfl rfl (fun v M' h => by obtain ⟨_, _, _, _, _, _, _, _, _, h, _⟩ := h; rw [h]; rfl) ?_
      rintro _ M' ⟨rfl, ct', B', F', Z', Br', Q', Fo', No', rfl, hI, -⟩
      refine AW.cast (st2 := [.ref 5]) (M2 := (clD S (1) nk (sC S) (sR S) (sC S * sR S) (ct') (B') (F') (Z') (Br') (Q') (Fo') (No') Ho Mo In Sn Qn sd rt lf wy S2 c1 r1 m1 ct1 B1 F1 Z1 Br1 Q1 Fo1 No1 gb)) ?_ rfl rfl rfl
      have h9 := CN_p h hI
      refine a_getf (pc := 100) ok dX6_about_100 fl6_172 rfl rfl ?_
      exact a_iret (pc := 103) ok dX6_about_103 (⟨by rw [e4 (by omega), mS_IS hI], RD_mk h9 hr⟩)
    · refine a_aload_n (pc := 104) ok dX6_about_104 rfl ?_
      refine a_getf (pc := 105) ok dX6_about_105 fl6_62 rfl rfl ?_
      refine a_aload_n (pc := 108) ok dX6_about_108 rfl ?_
      refine a_getf (pc := 109) ok dX6_about_109 fl6_19 rfl rfl ?_
      refine a_iconst (pc := 112) ok dX6_about_112 ?_
      refine a_callV (pc := 113) ok [24, 25, 26, 27, 28, 29, 30, 31, 1, 2, 3, 4] dX6_about_113 mv6_175 miX0_survey (c_survey hS.1 hS.2.2.2.2.1 hT (SV_rg hS).1 (by unfold rg; omega) hr.1 hr.2.1 hr.2.2) ⟨by decide, by decide, rfl, rfl, Nat.zero_le _, Nat.zero_le _⟩ rfl rfl (Nat.le_of_ble_eq_true rfl) rfl (by decide) rfl rfl (fun v M' h => by obtain ⟨_, _, _, _, _, _, _, _, _, h, _⟩ := h; rw [h]; rfl) ?_
      rintro _ M' ⟨rfl, b1, B', F', Z', Br', Q', Fo', No', rfl, g1, g2, g3, g4⟩
      refine AW.cast (st2 := []) (M2 := (clD S kn nk c0 r0 m0 ct B F Z Br Q Fo No Ho Mo In Sn Qn sd rt lf wy S2 (sC S) (sR S) (sC S * sR S) (mny (sC S) (sR S) B') (B') (F') (Z') (Br') (Q') (Fo') (No') gb)) ?_ rfl rfl rfl
      refine a_aload_n (pc := 116) ok dX6_about_116 rfl ?_
      refine a_getf (pc := 117) ok dX6_about_117 fl6_62 rfl rfl ?_
      refine a_getf (pc := 120) ok dX6_about_120 fl6_172 rfl rfl ?_
      exact a_iret (pc := 123) ok dX6_about_123 (⟨by have e := mny_congr (B := B') (b := bnd (sT S) (sN S) (sG S)) hd (fun k hk => by rw [g2, mrg_1 hd]; exact g1 k hk); rw [e5 (by omega), ← e], RD_mk h ⟨g3.1, g3.2.1, g3.2.2.1⟩⟩)
    · refine a_aload_n (pc := 124) ok dX6_about_124 rfl ?_
      refine x_callV (pc := 125) ok [0, 1, 2, 3, 4, 5, 6, 7, 8, 9, 10, 11, 12, 13, 14, 15, 16, 17, 18, 19, 20, 21, 22, 23, 24, 25, 26, 27, 28, 29, 30, 31, 32, 33, 34, 35, 36, 37, 38, 39, 40, 41, 42, 43, 44, 45] 13 dX6_about_125 mv6_168 miX6_present (c_present hS h.1) ⟨by decide, by decide, rfl, rfl, Nat.zero_le _, Nat.zero_le _⟩ rfl rfl (Nat.le_of_ble_eq_true rfl) rfl rfl (by decide) rfl rfl (fun v M' h => by obtain ⟨_, _, _, _, _, _, _, _, _, h, _⟩ := h; rw [h]; rfl) ?_
      rintro _ M' ⟨rfl, ct', B', F', Z', Br', Q', Fo', No', rfl, hI, -⟩
      refine AW.cast (st2 := [.ref 5]) (M2 := (clD S (1) nk (sC S) (sR S) (sC S * sR S) (ct') (B') (F') (Z') (Br') (Q') (Fo') (No') Ho Mo In Sn Qn sd rt lf wy S2 c1 r1 m1 ct1 B1 F1 Z1 Br1 Q1 Fo1 No1 gb)) ?_ rfl rfl rfl
      have h9 := CN_p h hI
      refine a_aload_n (pc := 128) ok dX6_about_128 rfl ?_
      refine a_getf (pc := 129) ok dX6_about_129 fl6_19 rfl rfl ?_
      refine a_callVp (pc := 132) ok [5, 6, 7, 8, 9, 10, 11, 12, 1, 2, 3, 4] dX6_about_132 mv6_179 miX0_cellsOffTheirGrey (c_cellsOffTheirGrey hd hS.2.2.2.2.1 hT (SV_rg hS).1 hI) ⟨by decide, by decide, rfl, rfl, Nat.zero_le _, Nat.zero_le _⟩ rfl rfl (Nat.le_of_ble_eq_true rfl) rfl (by decide) rfl rfl ?_
      exact a_iret (pc := 135) ok dX6_about_135 (⟨by rw [e6 (by omega)], RD_mk h9 hr⟩)
    · refine a_aload_n (pc := 136) ok dX6_about_136 rfl ?_
      refine x_callV (pc := 137) ok [0, 1, 2, 3, 4, 5, 6, 7, 8, 9, 10, 11, 12, 13, 14, 15, 16, 17, 18, 19, 20, 21, 22, 23, 24, 25, 26, 27, 28, 29, 30, 31, 32, 33, 34, 35, 36, 37, 38, 39, 40, 41, 42, 43, 44, 45] 13 dX6_about_137 mv6_168 miX6_present (c_present hS h.1) ⟨by decide, by decide, rfl, rfl, Nat.zero_le _, Nat.zero_le _⟩ rfl rfl (Nat.le_of_ble_eq_true rfl) rfl rfl (by decide) rfl rfl (fun v M' h => by obtain ⟨_, _, _, _, _, _, _, _, _, h, _⟩ := h; rw [h]; rfl) ?_
      rintro _ M' ⟨rfl, ct', B', F', Z', Br', Q', Fo', No', rfl, hI, -⟩
      refine AW.cast (st2 := [.ref 5]) (M2 := (clD S (1) nk (sC S) (sR S) (sC S * sR S) (ct') (B') (F') (Z') (Br') (Q') (Fo') (No') Ho Mo In Sn Qn sd rt lf wy S2 c1 r1 m1 ct1 B1 F1 Z1 Br1 Q1 Fo1 No1 gb)) ?_ rfl rfl rfl
      have h9 := CN_p h hI
      refine a_callVp (pc := 140) ok [5, 6, 7, 8, 9, 10, 11, 12] dX6_about_140 mv6_183 miX0_allSides (c_allSides hd hI) ⟨by decide, by decide, rfl, rfl, Nat.zero_le _, Nat.zero_le _⟩ rfl rfl (Nat.le_of_ble_eq_true rfl) rfl (by decide) rfl rfl ?_
      exact a_iret (pc := 143) ok dX6_about_143 (⟨by rw [e7 (by omega)], RD_mk h9 hr⟩)
    · refine a_aload_n (pc := 144) ok dX6_about_144 rfl ?_
      refine x_callV (pc := 145) ok [0, 1, 2, 3, 4, 5, 6, 7, 8, 9, 10, 11, 12, 13, 14, 15, 16, 17, 18, 19, 20, 21, 22, 23, 24, 25, 26, 27, 28, 29, 30, 31, 32, 33, 34, 35, 36, 37, 38, 39, 40, 41, 42, 43, 44, 45] 19 dX6_about_145 mv6_186 miX6_presentNest (c_presentNest hS h) ⟨by decide, by decide, rfl, rfl, Nat.zero_le _, Nat.zero_le _⟩ rfl rfl (Nat.le_of_ble_eq_true rfl) rfl rfl (by decide) rfl rfl (fun v M' h => by obtain ⟨_, _, _, _, _, _, _, _, _, _, _, _, _, _, h, _⟩ := h; rw [h]; rfl) ?_
      rintro _ M' ⟨rfl, ct2, B2, F2, Z2, Br2, Q2, Fo2, No2, Ho', Mo', In', Sn', Qn', rfl, hI2, hN⟩
      refine AW.cast (st2 := [.ref 13]) (M2 := (clD S (1) (1) (sC S) (sR S) (sC S * sR S) (ct2) (B2) (F2) (Z2) (Br2) (Q2) (Fo2) (No2) (Ho') (Mo') (In') (Sn') (Qn') sd rt lf wy S2 c1 r1 m1 ct1 B1 F1 Z1 Br1 Q1 Fo1 No1 gb)) ?_ rfl rfl rfl
      refine a_callVp (pc := 148) ok [13, 14, 15, 16, 17, 18] dX6_about_148 mv6_190 miX2_allHoles (c_allHoles hd hN) ⟨by decide, by decide, rfl, rfl, Nat.zero_le _, Nat.zero_le _⟩ rfl rfl (Nat.le_of_ble_eq_true rfl) rfl (by decide) rfl rfl ?_
      exact a_iret (pc := 151) ok dX6_about_151 (⟨by rw [e8 (by omega)], RD_mk (CN_n hI2 hN) hr⟩)
    · refine a_aload_n (pc := 152) ok dX6_about_152 rfl ?_
      refine a_getf (pc := 153) ok dX6_about_153 fl6_19 rfl rfl ?_
      refine a_getf (pc := 156) ok dX6_about_156 fl6_193 rfl rfl ?_
      exact a_iret (pc := 159) ok dX6_about_159 (⟨by rw [e9 (by omega)], RD_mk h hr⟩)
  · refine a_aload_n (pc := 160) ok dX6_about_160 rfl ?_
    refine a_getf (pc := 161) ok dX6_about_161 fl6_19 rfl rfl ?_
    refine a_callVp (pc := 164) ok [1, 2, 3, 4] dX6_about_164 mv6_196 miX4_sumOfGreys (c_sumOfGreys hd) ⟨by decide, by decide, rfl, rfl, Nat.zero_le _, Nat.zero_le _⟩ rfl rfl (Nat.le_of_ble_eq_true rfl) rfl (by decide) rfl rfl ?_
    exact a_iret (pc := 167) ok dX6_about_167 (⟨by rw [e10 (by omega)], RD_mk h hr⟩)
end CW2
