/-! THE CLASS: what its methods throw. Printed by wip/whole/gen/mk77.py. -/
theorem thr_309_313 : thrW 309 313 nIA := thr_and (ug2 34 (by decide +kernel) rfl) (ug1 12 (by decide +kernel) rfl) (by decide +kernel) (by decide +kernel) (by decide +kernel)
theorem thr_84_88 : thrW 84 88 nIS := thr_and (ug2 106 (by decide +kernel) rfl) (ug1 13 (by decide +kernel) rfl) (by decide +kernel) (by decide +kernel) (by decide +kernel)
theorem thr_401_405 : thrW 401 405 nIO := thr_and (ug3 173 (by decide +kernel) rfl) (ug1 16 (by decide +kernel) rfl) (by decide +kernel) (by decide +kernel) (by decide +kernel)
def rxmustBeWithin : Room := { frames := 6, cells := 1, slots := 6, locals := 100 }
def rxmustExist : Room := { frames := 6, cells := 1, slots := 6, locals := 100 }
def rxappend : Room := { frames := 7, cells := 1, slots := 6, locals := 122 }
def rxload : Room := { frames := 6, cells := 1, slots := 6, locals := 129 }
def rxabout : Room := { frames := 8, cells := 1, slots := 6, locals := 198 }
def rxcellOf : Room := { frames := 7, cells := 1, slots := 6, locals := 177 }
def rxthresholdAt : Room := { frames := 7, cells := 1, slots := 6, locals := 120 }
def rxisland : Room := { frames := 8, cells := 1, slots := 6, locals := 198 }
def rxborder : Room := { frames := 7, cells := 1, slots := 6, locals := 177 }
def rxoutline : Room := { frames := 7, cells := 1, slots := 6, locals := 177 }
def rxoutlineWay : Room := { frames := 7, cells := 1, slots := 6, locals := 177 }
def rxband : Room := { frames := 7, cells := 1, slots := 6, locals := 177 }
def rxplate : Room := { frames := 7, cells := 1, slots := 6, locals := 122 }
def rxcell : Room := { frames := 7, cells := 1, slots := 6, locals := 122 }
def rxbox : Room := { frames := 7, cells := 1, slots := 6, locals := 122 }
def rxthreshold : Room := { frames := 7, cells := 1, slots := 6, locals := 122 }
def rxshare : Room := { frames := 7, cells := 1, slots := 6, locals := 122 }
def rxleast : Room := { frames := 7, cells := 1, slots := 6, locals := 122 }
def rxhatch : Room := { frames := 7, cells := 1, slots := 6, locals := 122 }
def rxline : Room := { frames := 7, cells := 1, slots := 6, locals := 122 }
def rxspread : Room := { frames := 7, cells := 1, slots := 6, locals := 122 }
def rxnoise : Room := { frames := 7, cells := 1, slots := 6, locals := 122 }
def rxundo : Room := { frames := 6, cells := 1, slots := 6, locals := 102 }
def rxifLeast : Room := { frames := 7, cells := 1, slots := 6, locals := 157 }
def rxleastFor : Room := { frames := 7, cells := 1, slots := 6, locals := 157 }
def rxbestMove : Room := { frames := 7, cells := 1, slots := 6, locals := 157 }
def rxifCell : Room := { frames := 7, cells := 1, slots := 6, locals := 177 }
def rxrunScript : Room := { frames := 7, cells := 1, slots := 6, locals := 183 }
def rxsimulate : Room := { frames := 7, cells := 1, slots := 6, locals := 157 }
def rxsave : Room := { frames := 7, cells := 1, slots := 6, locals := 120 }
def rxrestore : Room := { frames := 7, cells := 1, slots := 6, locals := 120 }
section CT1
variable {l : Launch} {S : St} {kn nk c0 r0 m0 ct : Int} {B F Z Br Q Fo No Ho Mo In Sn Qn : Int → Int} {sd rt lf wy : Int} {S2 : St} {c1 r1 m1 ct1 : Int} {B1 F1 Z1 Br1 Q1 Fo1 No1 gb : Int → Int} {sz : Int} {tx sv : Int → Int} {Rg Rs : Nat → Option Nat} {cnt nx : Int} {σ : Nat → St} {P0 P1 : St}
set_option maxRecDepth 100000 in
theorem cx_mustBeWithin (hl : l.stackTraces = false) {v a b : Int} (h : ¬ (a ≤ v ∧ v ≤ b)) (hv : rg v) (ha : rg a) (hb : rg b) : CtX l yX6_mustBeWithin cX6_mustBeWithin 3 none rxmustBeWithin [iv v, iv a, iv b] [] nIA (fun M => M = []) := by
  refine CtX.of hl miX6_mustBeWithin (Nat.le_of_ble_eq_true rfl) ?_
  intro X hXl hN ok ex tx
  replace hl : X.1.2.1.stackTraces = false := by rw [hXl]; exact hl
  refine AW.cast (L2 := [some (iv v), some (iv a), some (iv b)]) ?_ rfl rfl rfl
  refine a_iload_n (pc := 0) ok dX6_mustBeWithin_0 rfl ?_
  refine a_iload_n (pc := 1) ok dX6_mustBeWithin_1 rfl ?_
  refine a_iload_n (pc := 2) ok dX6_mustBeWithin_2 rfl ?_
  refine a_callSp (pc := 3) ok [] dX6_mustBeWithin_3 mv6_330 miX6_isWithin (c_isWithin hv ha hb) ⟨by decide, by decide, rfl, rfl, Nat.zero_le _, Nat.zero_le _⟩ rfl rfl (Nat.le_of_ble_eq_true rfl) rfl (by decide) ?_
  refine a_if_ne (pc := 6) (tgt := 20) ok dX6_mustBeWithin_6 (by decide) (by exact bz_rg _) (fun c6 => ?_) (fun c6 => ?_)
  · exact absurd (bz_y c6) h
  · exact t_throwW (pc := 9) (text := "an argument is out of its range") ok ex tx thr_309_313 (by decide +kernel) dX6_mustBeWithin_9 dX6_mustBeWithin_12 dX6_mustBeWithin_13 dX6_mustBeWithin_16 dX6_mustBeWithin_19 ⟨by decide, by decide, by decide, by decide⟩ (rfl)
set_option maxRecDepth 100000 in
theorem cx_mustExist (hl : l.stackTraces = false) {z : Int} (h : z = 0) : CtX l yX6_mustExist cX6_mustExist 1 none rxmustExist [iv z] [] nIO (fun M => M = []) := by
  refine CtX.of hl miX6_mustExist (Nat.le_of_ble_eq_true rfl) ?_
  intro X hXl hN ok ex tx
  replace hl : X.1.2.1.stackTraces = false := by rw [hXl]; exact hl
  refine AW.cast (L2 := [some (iv z)]) ?_ rfl rfl rfl
  subst h
  refine a_iload_n (pc := 0) ok dX6_mustExist_0 rfl ?_
  refine a_if_ne (pc := 1) (tgt := 15) ok dX6_mustExist_1 (by decide) (by first | omega | (unfold rg; omega) | (simp only [rg] at *; omega) | exact bz_rg _ | grind [rg]) (fun c1 => ?_) (fun c1 => ?_)
  · omega
  · exact t_throwW (pc := 4) (text := "there is no such thing") ok ex tx thr_401_405 (by decide +kernel) dX6_mustExist_4 dX6_mustExist_7 dX6_mustExist_8 dX6_mustExist_11 dX6_mustExist_14 ⟨by decide, by decide, by decide, by decide⟩ (rfl)
set_option maxRecDepth 100000 in
theorem cx_append1 (hl : l.stackTraces = false) {x : Int} (h : kAppend sz x = 1) (hx : rg x) : CtX l yX6_append cX6_append 2 (some .int) rxappend [.ref 0, iv x] (clX kn nk sz tx) nIA (fun M => M = clX kn nk sz tx) := by
  refine CtX.of hl miX6_append (Nat.le_of_ble_eq_true rfl) ?_
  intro X hXl hN ok ex tx
  replace hl : X.1.2.1.stackTraces = false := by rw [hXl]; exact hl
  refine AW.cast (L2 := [some (.ref 0), some (iv x)]) ?_ rfl rfl rfl
  have k1 : ¬ (0 ≤ x ∧ x ≤ 255) := by
    unfold kAppend at h
    split at h
    · assumption
    · split at h <;> omega
  refine a_iload_n (pc := 0) ok dX6_append_0 rfl ?_
  refine a_iconst (pc := 1) ok dX6_append_1 ?_
  refine a_sipush (pc := 2) ok dX6_append_2 (by decide) ?_
  refine t_callS (pc := 5) ok ex tx [] 0 dX6_append_5 (ug2 28 (by decide +kernel) rfl) mv6_76 miX6_mustBeWithin (cx_mustBeWithin hl k1 hx (by unfold rg; omega) (by unfold rg; omega)) ⟨by decide, by decide, rfl, rfl, by decide, by decide⟩ rfl rfl (Nat.le_of_ble_eq_true rfl) rfl rfl (by decide) (fun M9 h9 => by rw [h9]) (fun M9 h9 => ?_)
  subst h9
  exact rfl
set_option maxRecDepth 100000 in
theorem cx_append2 (hl : l.stackTraces = false) {x : Int} (hn : 0 ≤ sz ∧ sz ≤ 120) (h : kAppend sz x = 2) (hx : rg x) : CtX l yX6_append cX6_append 2 (some .int) rxappend [.ref 0, iv x] (clX kn nk sz tx) nIS (fun M => M = clX kn nk sz tx) := by
  refine CtX.of hl miX6_append (Nat.le_of_ble_eq_true rfl) ?_
  intro X hXl hN ok ex tx
  replace hl : X.1.2.1.stackTraces = false := by rw [hXl]; exact hl
  refine AW.cast (L2 := [some (.ref 0), some (iv x)]) ?_ rfl rfl rfl
  have k1 : (0 ≤ x ∧ x ≤ 255) ∧ sz = 120 := by
    unfold kAppend at h
    repeat' split at h
    all_goals omega
  refine a_iload_n (pc := 0) ok dX6_append_0 rfl ?_
  refine a_iconst (pc := 1) ok dX6_append_1 ?_
  refine a_sipush (pc := 2) ok dX6_append_2 (by decide) ?_
  refine a_callSv (pc := 5) ok [] dX6_append_5 mv6_76 miX6_mustBeWithin (c_mustBeWithin k1.1 hx (by unfold rg; omega) (by unfold rg; omega)) ⟨by decide, by decide, rfl, rfl, Nat.zero_le _, Nat.zero_le _⟩ rfl rfl (Nat.le_of_ble_eq_true rfl) rfl (by decide) rfl ?_
  refine a_aload_n (pc := 8) ok dX6_append_8 rfl ?_
  refine a_getf (pc := 9) ok dX6_append_9 fl6_10 rfl rfl ?_
  refine a_callVp (pc := 12) ok [1, 2] dX6_append_12 mv6_80 miX5_isFull (c_isFull hn) ⟨by decide, by decide, rfl, rfl, Nat.zero_le _, Nat.zero_le _⟩ rfl rfl (Nat.le_of_ble_eq_true rfl) rfl (by decide) rfl rfl ?_
  refine a_if_eq (pc := 15) (tgt := 28) ok dX6_append_15 (by decide) (by exact bz_rg _) (fun c15 => ?_) (fun c15 => ?_)
  · exact absurd k1.2 (bz_0.mp c15)
  · exact t_throwS (pc := 18) (text := "the text is full") ok ex tx thr_84_88 (by decide +kernel) dX6_append_18 dX6_append_21 dX6_append_22 dX6_append_24 dX6_append_27 ⟨by decide, by decide, by decide, by decide⟩ (rfl)
set_option maxRecDepth 100000 in
theorem cx_load (hl : l.stackTraces = false)  (hn : 0 ≤ sz ∧ sz ≤ 120) (ht : ∀ j, 0 ≤ tx j ∧ tx j ≤ 255) (he : eP tx sz ≠ -1) (hr : rg (eP tx sz)) : CtX l yX6_load cX6_load 4 (some .int) rxload [.ref 0] (clL kn nk S gb sz tx sv cnt nx) nIS (fun M => M = clL kn nk S gb sz tx sv cnt nx) := by
  refine CtX.of hl miX6_load (Nat.le_of_ble_eq_true rfl) ?_
  intro X hXl hN ok ex tx
  replace hl : X.1.2.1.stackTraces = false := by rw [hXl]; exact hl
  refine AW.cast (L2 := [some (.ref 0), none, none, none]) ?_ rfl rfl rfl
  refine a_aload_n (pc := 0) ok dX6_load_0 rfl ?_
  refine a_getf (pc := 1) ok dX6_load_1 fl6_10 rfl rfl ?_
  refine a_callVp (pc := 4) ok [6, 7] dX6_load_4 mv6_99 miX5_firstError (c_firstError hn ht) ⟨by decide, by decide, rfl, rfl, Nat.zero_le _, Nat.zero_le _⟩ rfl rfl (Nat.le_of_ble_eq_true rfl) rfl (by decide) rfl rfl ?_
  refine a_iconst (pc := 7) ok dX6_load_7 ?_
  refine a_icmp_eq (pc := 8) (tgt := 21) ok dX6_load_8 (by decide) (by first | exact hr | (unfold rg; omega)) (by first | exact hr | (unfold rg; omega)) (fun c8 => ?_) (fun c8 => ?_)
  · exact absurd c8 he
  · exact t_throwS (pc := 11) (text := "the text is not a plate") ok ex tx thr_84_88 (by decide +kernel) dX6_load_11 dX6_load_14 dX6_load_15 dX6_load_17 dX6_load_20 ⟨by decide, by decide, by decide, by decide⟩ (rfl)
set_option maxRecDepth 100000 in
theorem cx_about (hl : l.stackTraces = false) {what : Int} (h : kIn what 0 10 ≠ 0) (hw : rg what) : CtX l yX6_about cX6_about 2 (some .int) rxabout [.ref 0, iv what] (clD S kn nk c0 r0 m0 ct B F Z Br Q Fo No Ho Mo In Sn Qn sd rt lf wy S2 c1 r1 m1 ct1 B1 F1 Z1 Br1 Q1 Fo1 No1 gb) nIA (fun M => M = (clD S kn nk c0 r0 m0 ct B F Z Br Q Fo No Ho Mo In Sn Qn sd rt lf wy S2 c1 r1 m1 ct1 B1 F1 Z1 Br1 Q1 Fo1 No1 gb)) := by
  refine CtX.of hl miX6_about (Nat.le_of_ble_eq_true rfl) ?_
  intro X hXl hN ok ex tx
  replace hl : X.1.2.1.stackTraces = false := by rw [hXl]; exact hl
  refine AW.cast (L2 := [some (.ref 0), some (iv what)]) ?_ rfl rfl rfl
  have k1 : ¬ (0 ≤ what ∧ what ≤ 10) := fun z => h (if_pos z)
  refine a_iload_n (pc := 0) ok dX6_about_0 rfl ?_
  refine a_iconst (pc := 1) ok dX6_about_1 ?_
  refine a_bipush (pc := 2) ok dX6_about_2 (by decide) ?_
  refine t_callS (pc := 4) ok ex tx [] 0 dX6_about_4 (ug2 28 (by decide +kernel) rfl) mv6_76 miX6_mustBeWithin (cx_mustBeWithin hl k1 hw (by unfold rg; omega) (by unfold rg; omega)) ⟨by decide, by decide, rfl, rfl, by decide, by decide⟩ rfl rfl (Nat.le_of_ble_eq_true rfl) rfl rfl (by decide) (fun M9 h9 => by rw [h9]) (fun M9 h9 => ?_)
  subst h9
  exact rfl
set_option maxRecDepth 100000 in
theorem cx_cellOf1 (hl : l.stackTraces = false) {x y what : Int} (hS : SV S) (h : kCell S x y what 5 = 1) (hx : rg x) (hy : rg y) : CtX l yX6_cellOf cX6_cellOf 5 (some .int) rxcellOf [.ref 0, iv x, iv y, iv what] (clB S kn nk c0 r0 m0 ct B F Z Br Q Fo No Ho Mo In Sn Qn) nIO (fun M => M = (clB S kn nk c0 r0 m0 ct B F Z Br Q Fo No Ho Mo In Sn Qn)) := by
  refine CtX.of hl miX6_cellOf (Nat.le_of_ble_eq_true rfl) ?_
  intro X hXl hN ok ex tx
  replace hl : X.1.2.1.stackTraces = false := by rw [hXl]; exact hl
  refine AW.cast (L2 := [some (.ref 0), some (iv x), some (iv y), some (iv what), none]) ?_ rfl rfl rfl
  have hd := hS.1
  have k1 : ¬ inP (sC S) (sR S) x y := by
    unfold kCell at h
    repeat' split at h
    all_goals (intro z; obtain ⟨z1, z2, z3, z4⟩ := z; omega)
  refine a_aload_n (pc := 0) ok dX6_cellOf_0 rfl ?_
  refine a_getf (pc := 1) ok dX6_cellOf_1 fl6_19 rfl rfl ?_
  refine a_iload_n (pc := 4) ok dX6_cellOf_4 rfl ?_
  refine a_iload_n (pc := 5) ok dX6_cellOf_5 rfl ?_
  refine a_callVp (pc := 6) ok [1, 2, 3, 4] dX6_cellOf_6 mv6_199 miX4_hasCell (c_hasCell hd hx hy) ⟨by decide, by decide, rfl, rfl, Nat.zero_le _, Nat.zero_le _⟩ rfl rfl (Nat.le_of_ble_eq_true rfl) rfl (by decide) rfl rfl ?_
  refine t_callS (pc := 9) ok ex tx [] 0 dX6_cellOf_9 (ug3 170 (by decide +kernel) rfl) mv6_203 miX6_mustExist (cx_mustExist hl (bz_neg k1)) ⟨by decide, by decide, rfl, rfl, by decide, by decide⟩ rfl rfl (Nat.le_of_ble_eq_true rfl) rfl rfl (by decide) (fun M9 h9 => by rw [h9]) (fun M9 h9 => ?_)
  subst h9
  exact rfl
set_option maxRecDepth 100000 in
theorem cx_cellOf2 (hl : l.stackTraces = false) {x y what : Int} (hS : SV S) (h : kCell S x y what 5 = 2) (hx : rg x) (hy : rg y) (hw : rg what) : CtX l yX6_cellOf cX6_cellOf 5 (some .int) rxcellOf [.ref 0, iv x, iv y, iv what] (clB S kn nk c0 r0 m0 ct B F Z Br Q Fo No Ho Mo In Sn Qn) nIA (fun M => M = (clB S kn nk c0 r0 m0 ct B F Z Br Q Fo No Ho Mo In Sn Qn)) := by
  refine CtX.of hl miX6_cellOf (Nat.le_of_ble_eq_true rfl) ?_
  intro X hXl hN ok ex tx
  replace hl : X.1.2.1.stackTraces = false := by rw [hXl]; exact hl
  refine AW.cast (L2 := [some (.ref 0), some (iv x), some (iv y), some (iv what), none]) ?_ rfl rfl rfl
  have hd := hS.1
  have k1 : inP (sC S) (sR S) x y ∧ ¬ (0 ≤ what ∧ what ≤ 5) := by
    unfold kCell at h
    repeat' split at h
    all_goals omega
  refine a_aload_n (pc := 0) ok dX6_cellOf_0 rfl ?_
  refine a_getf (pc := 1) ok dX6_cellOf_1 fl6_19 rfl rfl ?_
  refine a_iload_n (pc := 4) ok dX6_cellOf_4 rfl ?_
  refine a_iload_n (pc := 5) ok dX6_cellOf_5 rfl ?_
  refine a_callVp (pc := 6) ok [1, 2, 3, 4] dX6_cellOf_6 mv6_199 miX4_hasCell (c_hasCell hd hx hy) ⟨by decide, by decide, rfl, rfl, Nat.zero_le _, Nat.zero_le _⟩ rfl rfl (Nat.le_of_ble_eq_true rfl) rfl (by decide) rfl rfl ?_
  refine a_callSv (pc := 9) ok [] dX6_cellOf_9 mv6_203 miX6_mustExist (c_mustExist (bz_pos k1.1)) ⟨by decide, by decide, rfl, rfl, Nat.zero_le _, Nat.zero_le _⟩ rfl rfl (Nat.le_of_ble_eq_true rfl) rfl (by decide) rfl ?_
  refine a_iload_n (pc := 12) ok dX6_cellOf_12 rfl ?_
  refine a_iconst (pc := 13) ok dX6_cellOf_13 ?_
  refine a_iconst (pc := 14) ok dX6_cellOf_14 ?_
  refine t_callS (pc := 15) ok ex tx [] 0 dX6_cellOf_15 (ug2 28 (by decide +kernel) rfl) mv6_76 miX6_mustBeWithin (cx_mustBeWithin hl k1.2 hw (by unfold rg; omega) (by unfold rg; omega)) ⟨by decide, by decide, rfl, rfl, by decide, by decide⟩ rfl rfl (Nat.le_of_ble_eq_true rfl) rfl rfl (by decide) (fun M9 h9 => by rw [h9]) (fun M9 h9 => ?_)
  subst h9
  exact rfl
set_option maxRecDepth 100000 in
theorem cx_thresholdAt (hl : l.stackTraces = false) {k : Int} (hS : SV S) (h : kIn k 0 (sN S - 1) ≠ 0) (hk : rg k) : CtX l yX6_thresholdAt cX6_thresholdAt 2 (some .int) rxthresholdAt [.ref 0, iv k] (obC kn nk :: stS 1 S) nIO (fun M => M = (obC kn nk :: stS 1 S)) := by
  refine CtX.of hl miX6_thresholdAt (Nat.le_of_ble_eq_true rfl) ?_
  intro X hXl hN ok ex tx
  replace hl : X.1.2.1.stackTraces = false := by rw [hXl]; exact hl
  refine AW.cast (L2 := [some (.ref 0), some (iv k)]) ?_ rfl rfl rfl
  have hn := hS.2.2.2.2.1
  have k1 : ¬ (0 ≤ k ∧ k < sN S) := fun z => h (if_pos (by omega))
  refine a_aload_n (pc := 0) ok dX6_thresholdAt_0 rfl ?_
  refine a_getf (pc := 1) ok dX6_thresholdAt_1 fl6_19 rfl rfl ?_
  refine a_iload_n (pc := 4) ok dX6_thresholdAt_4 rfl ?_
  refine a_callVp (pc := 5) ok [1, 2, 3, 4] dX6_thresholdAt_5 mv6_229 miX4_hasThreshold (c_hasThreshold (by omega) hk) ⟨by decide, by decide, rfl, rfl, Nat.zero_le _, Nat.zero_le _⟩ rfl rfl (Nat.le_of_ble_eq_true rfl) rfl (by decide) rfl rfl ?_
  refine t_callS (pc := 8) ok ex tx [] 0 dX6_thresholdAt_8 (ug3 170 (by decide +kernel) rfl) mv6_203 miX6_mustExist (cx_mustExist hl (bz_neg k1)) ⟨by decide, by decide, rfl, rfl, by decide, by decide⟩ rfl rfl (Nat.le_of_ble_eq_true rfl) rfl rfl (by decide) (fun M9 h9 => by rw [h9]) (fun M9 h9 => ?_)
  subst h9
  exact rfl
set_option maxRecDepth 100000 in
theorem cx_island1 (hl : l.stackTraces = false) {i what : Int} (hS : SV S) (h : CN S kn nk c0 r0 m0 ct B F Z Fo No Ho Mo In) (h0 : kIsle S i what 8 = 1) (hi : rg i) : CtX l yX6_island cX6_island 4 (some .int) rxisland [.ref 0, iv i, iv what] (clB S kn nk c0 r0 m0 ct B F Z Br Q Fo No Ho Mo In Sn Qn) nIO (RB S) := by
  refine CtX.of hl miX6_island (Nat.le_of_ble_eq_true rfl) ?_
  intro X hXl hN ok ex tx
  replace hl : X.1.2.1.stackTraces = false := by rw [hXl]; exact hl
  refine AW.cast (L2 := [some (.ref 0), some (iv i), some (iv what), none]) ?_ rfl rfl rfl
  have hd := hS.1
  have k1 : ¬ (0 ≤ i ∧ i < mS S) := by
    unfold kIsle at h0
    split at h0
    · assumption
    · split at h0 <;> omega
  refine a_aload_n (pc := 0) ok dX6_island_0 rfl ?_
  refine x_callV (pc := 1) ok [0, 1, 2, 3, 4, 5, 6, 7, 8, 9, 10, 11, 12, 13, 14, 15, 16, 17, 18, 19, 20, 21, 22, 23, 24, 25, 26, 27, 28, 29, 30, 31, 32, 33, 34, 35, 36, 37, 38, 39, 40, 41, 42, 43, 44, 45] 13 dX6_island_1 mv6_168 miX6_present (c_present hS h.1) ⟨by decide, by decide, rfl, rfl, Nat.zero_le _, Nat.zero_le _⟩ rfl rfl (Nat.le_of_ble_eq_true rfl) rfl rfl (by decide) rfl rfl (fun v M' h => by obtain ⟨_, _, _, _, _, _, _, _, _, h, _⟩ := h; rw [h]; rfl) ?_
  rintro _ M' ⟨rfl, ct', B', F', Z', Br', Q', Fo', No', rfl, hI, -⟩
  refine AW.cast (st2 := [.ref 5]) (M2 := (clB S (1) nk (sC S) (sR S) (sC S * sR S) (ct') (B') (F') (Z') (Br') (Q') (Fo') (No') Ho Mo In Sn Qn)) ?_ rfl rfl rfl
  have h9 := CN_p h hI
  refine a_astore_n (pc := 4) ok dX6_island_4 rfl (by rw [hN]; decide) ?_
  refine a_aload_n (pc := 5) ok dX6_island_5 rfl ?_
  refine a_iload_n (pc := 6) ok dX6_island_6 rfl ?_
  refine a_callVp (pc := 7) ok [5, 6, 7, 8, 9, 10, 11, 12] dX6_island_7 mv6_235 miX0_has (c_has hd hi hI) ⟨by decide, by decide, rfl, rfl, Nat.zero_le _, Nat.zero_le _⟩ rfl rfl (Nat.le_of_ble_eq_true rfl) rfl (by decide) rfl rfl ?_
  refine t_callS (pc := 10) ok ex tx [] 0 dX6_island_10 (ug3 170 (by decide +kernel) rfl) mv6_203 miX6_mustExist (cx_mustExist hl (bz_neg k1)) ⟨by decide, by decide, rfl, rfl, by decide, by decide⟩ rfl rfl (Nat.le_of_ble_eq_true rfl) rfl rfl (by decide) (fun M9 h9 => by rw [h9]) (fun M9 h9 => ?_)
  subst h9
  exact RB_mk h9
set_option maxRecDepth 100000 in
theorem cx_island2 (hl : l.stackTraces = false) {i what : Int} (hS : SV S) (h : CN S kn nk c0 r0 m0 ct B F Z Fo No Ho Mo In) (h0 : kIsle S i what 8 = 2) (hi : rg i) (hw : rg what) : CtX l yX6_island cX6_island 4 (some .int) rxisland [.ref 0, iv i, iv what] (clB S kn nk c0 r0 m0 ct B F Z Br Q Fo No Ho Mo In Sn Qn) nIA (RB S) := by
  refine CtX.of hl miX6_island (Nat.le_of_ble_eq_true rfl) ?_
  intro X hXl hN ok ex tx
  replace hl : X.1.2.1.stackTraces = false := by rw [hXl]; exact hl
  refine AW.cast (L2 := [some (.ref 0), some (iv i), some (iv what), none]) ?_ rfl rfl rfl
  have hd := hS.1
  have k1 : (0 ≤ i ∧ i < mS S) ∧ ¬ (0 ≤ what ∧ what ≤ 8) := by
    unfold kIsle at h0
    repeat' split at h0
    all_goals omega
  refine a_aload_n (pc := 0) ok dX6_island_0 rfl ?_
  refine x_callV (pc := 1) ok [0, 1, 2, 3, 4, 5, 6, 7, 8, 9, 10, 11, 12, 13, 14, 15, 16, 17, 18, 19, 20, 21, 22, 23, 24, 25, 26, 27, 28, 29, 30, 31, 32, 33, 34, 35, 36, 37, 38, 39, 40, 41, 42, 43, 44, 45] 13 dX6_island_1 mv6_168 miX6_present (c_present hS h.1) ⟨by decide, by decide, rfl, rfl, Nat.zero_le _, Nat.zero_le _⟩ rfl rfl (Nat.le_of_ble_eq_true rfl) rfl rfl (by decide) rfl rfl (fun v M' h => by obtain ⟨_, _, _, _, _, _, _, _, _, h, _⟩ := h; rw [h]; rfl) ?_
  rintro _ M' ⟨rfl, ct', B', F', Z', Br', Q', Fo', No', rfl, hI, -⟩
  refine AW.cast (st2 := [.ref 5]) (M2 := (clB S (1) nk (sC S) (sR S) (sC S * sR S) (ct') (B') (F') (Z') (Br') (Q') (Fo') (No') Ho Mo In Sn Qn)) ?_ rfl rfl rfl
  have h9 := CN_p h hI
  refine a_astore_n (pc := 4) ok dX6_island_4 rfl (by rw [hN]; decide) ?_
  refine a_aload_n (pc := 5) ok dX6_island_5 rfl ?_
  refine a_iload_n (pc := 6) ok dX6_island_6 rfl ?_
  refine a_callVp (pc := 7) ok [5, 6, 7, 8, 9, 10, 11, 12] dX6_island_7 mv6_235 miX0_has (c_has hd hi hI) ⟨by decide, by decide, rfl, rfl, Nat.zero_le _, Nat.zero_le _⟩ rfl rfl (Nat.le_of_ble_eq_true rfl) rfl (by decide) rfl rfl ?_
  refine a_callSv (pc := 10) ok [] dX6_island_10 mv6_203 miX6_mustExist (c_mustExist (bz_pos k1.1)) ⟨by decide, by decide, rfl, rfl, Nat.zero_le _, Nat.zero_le _⟩ rfl rfl (Nat.le_of_ble_eq_true rfl) rfl (by decide) rfl ?_
  refine a_iload_n (pc := 13) ok dX6_island_13 rfl ?_
  refine a_iconst (pc := 14) ok dX6_island_14 ?_
  refine a_bipush (pc := 15) ok dX6_island_15 (by decide) ?_
  refine t_callS (pc := 17) ok ex tx [] 0 dX6_island_17 (ug2 28 (by decide +kernel) rfl) mv6_76 miX6_mustBeWithin (cx_mustBeWithin hl k1.2 hw (by unfold rg; omega) (by unfold rg; omega)) ⟨by decide, by decide, rfl, rfl, by decide, by decide⟩ rfl rfl (Nat.le_of_ble_eq_true rfl) rfl rfl (by decide) (fun M9 h9 => by rw [h9]) (fun M9 h9 => ?_)
  subst h9
  exact RB_mk h9
set_option maxRecDepth 100000 in
theorem cx_outline1 (hl : l.stackTraces = false) {i what : Int} (hS : SV S) (h : CN S kn nk c0 r0 m0 ct B F Z Fo No Ho Mo In) (h0 : kIsle S i what 2 = 1) (hi : rg i) : CtX l yX6_outline cX6_outline 4 (some .int) rxoutline [.ref 0, iv i, iv what] (clC S kn nk c0 r0 m0 ct B F Z Br Q Fo No Ho Mo In Sn Qn sd rt lf wy) nIO (RC S) := by
  refine CtX.of hl miX6_outline (Nat.le_of_ble_eq_true rfl) ?_
  intro X hXl hN ok ex tx
  replace hl : X.1.2.1.stackTraces = false := by rw [hXl]; exact hl
  refine AW.cast (L2 := [some (.ref 0), some (iv i), some (iv what), none]) ?_ rfl rfl rfl
  have hd := hS.1
  have k1 : ¬ (0 ≤ i ∧ i < mS S) := by
    unfold kIsle at h0
    split at h0
    · assumption
    · split at h0 <;> omega
  refine a_aload_n (pc := 0) ok dX6_outline_0 rfl ?_
  refine x_callV (pc := 1) ok [0, 1, 2, 3, 4, 5, 6, 7, 8, 9, 10, 11, 12, 13, 14, 15, 16, 17, 18, 19, 20, 21, 22, 23, 24, 25, 26, 27, 28, 29, 30, 31, 32, 33, 34, 35, 36, 37, 38, 39, 40, 41, 42, 43, 44, 45] 13 dX6_outline_1 mv6_168 miX6_present (c_present hS h.1) ⟨by decide, by decide, rfl, rfl, Nat.zero_le _, Nat.zero_le _⟩ rfl rfl (Nat.le_of_ble_eq_true rfl) rfl rfl (by decide) rfl rfl (fun v M' h => by obtain ⟨_, _, _, _, _, _, _, _, _, h, _⟩ := h; rw [h]; rfl) ?_
  rintro _ M' ⟨rfl, ct', B', F', Z', Br', Q', Fo', No', rfl, hI, -⟩
  refine AW.cast (st2 := [.ref 5]) (M2 := (clC S (1) nk (sC S) (sR S) (sC S * sR S) (ct') (B') (F') (Z') (Br') (Q') (Fo') (No') Ho Mo In Sn Qn sd rt lf wy)) ?_ rfl rfl rfl
  have h9 := CN_p h hI
  refine a_astore_n (pc := 4) ok dX6_outline_4 rfl (by rw [hN]; decide) ?_
  refine a_aload_n (pc := 5) ok dX6_outline_5 rfl ?_
  refine a_iload_n (pc := 6) ok dX6_outline_6 rfl ?_
  refine a_callVp (pc := 7) ok [5, 6, 7, 8, 9, 10, 11, 12] dX6_outline_7 mv6_235 miX0_has (c_has hd hi hI) ⟨by decide, by decide, rfl, rfl, Nat.zero_le _, Nat.zero_le _⟩ rfl rfl (Nat.le_of_ble_eq_true rfl) rfl (by decide) rfl rfl ?_
  refine t_callS (pc := 10) ok ex tx [] 0 dX6_outline_10 (ug3 170 (by decide +kernel) rfl) mv6_203 miX6_mustExist (cx_mustExist hl (bz_neg k1)) ⟨by decide, by decide, rfl, rfl, by decide, by decide⟩ rfl rfl (Nat.le_of_ble_eq_true rfl) rfl rfl (by decide) (fun M9 h9 => by rw [h9]) (fun M9 h9 => ?_)
  subst h9
  exact RC_mk h9
set_option maxRecDepth 100000 in
theorem cx_outline2 (hl : l.stackTraces = false) {i what : Int} (hS : SV S) (h : CN S kn nk c0 r0 m0 ct B F Z Fo No Ho Mo In) (h0 : kIsle S i what 2 = 2) (hi : rg i) (hw : rg what) : CtX l yX6_outline cX6_outline 4 (some .int) rxoutline [.ref 0, iv i, iv what] (clC S kn nk c0 r0 m0 ct B F Z Br Q Fo No Ho Mo In Sn Qn sd rt lf wy) nIA (RC S) := by
  refine CtX.of hl miX6_outline (Nat.le_of_ble_eq_true rfl) ?_
  intro X hXl hN ok ex tx
  replace hl : X.1.2.1.stackTraces = false := by rw [hXl]; exact hl
  refine AW.cast (L2 := [some (.ref 0), some (iv i), some (iv what), none]) ?_ rfl rfl rfl
  have hd := hS.1
  have k1 : (0 ≤ i ∧ i < mS S) ∧ ¬ (0 ≤ what ∧ what ≤ 2) := by
    unfold kIsle at h0
    repeat' split at h0
    all_goals omega
  refine a_aload_n (pc := 0) ok dX6_outline_0 rfl ?_
  refine x_callV (pc := 1) ok [0, 1, 2, 3, 4, 5, 6, 7, 8, 9, 10, 11, 12, 13, 14, 15, 16, 17, 18, 19, 20, 21, 22, 23, 24, 25, 26, 27, 28, 29, 30, 31, 32, 33, 34, 35, 36, 37, 38, 39, 40, 41, 42, 43, 44, 45] 13 dX6_outline_1 mv6_168 miX6_present (c_present hS h.1) ⟨by decide, by decide, rfl, rfl, Nat.zero_le _, Nat.zero_le _⟩ rfl rfl (Nat.le_of_ble_eq_true rfl) rfl rfl (by decide) rfl rfl (fun v M' h => by obtain ⟨_, _, _, _, _, _, _, _, _, h, _⟩ := h; rw [h]; rfl) ?_
  rintro _ M' ⟨rfl, ct', B', F', Z', Br', Q', Fo', No', rfl, hI, -⟩
  refine AW.cast (st2 := [.ref 5]) (M2 := (clC S (1) nk (sC S) (sR S) (sC S * sR S) (ct') (B') (F') (Z') (Br') (Q') (Fo') (No') Ho Mo In Sn Qn sd rt lf wy)) ?_ rfl rfl rfl
  have h9 := CN_p h hI
  refine a_astore_n (pc := 4) ok dX6_outline_4 rfl (by rw [hN]; decide) ?_
  refine a_aload_n (pc := 5) ok dX6_outline_5 rfl ?_
  refine a_iload_n (pc := 6) ok dX6_outline_6 rfl ?_
  refine a_callVp (pc := 7) ok [5, 6, 7, 8, 9, 10, 11, 12] dX6_outline_7 mv6_235 miX0_has (c_has hd hi hI) ⟨by decide, by decide, rfl, rfl, Nat.zero_le _, Nat.zero_le _⟩ rfl rfl (Nat.le_of_ble_eq_true rfl) rfl (by decide) rfl rfl ?_
  refine a_callSv (pc := 10) ok [] dX6_outline_10 mv6_203 miX6_mustExist (c_mustExist (bz_pos k1.1)) ⟨by decide, by decide, rfl, rfl, Nat.zero_le _, Nat.zero_le _⟩ rfl rfl (Nat.le_of_ble_eq_true rfl) rfl (by decide) rfl ?_
  refine a_iload_n (pc := 13) ok dX6_outline_13 rfl ?_
  refine a_iconst (pc := 14) ok dX6_outline_14 ?_
  refine a_iconst (pc := 15) ok dX6_outline_15 ?_
  refine t_callS (pc := 16) ok ex tx [] 0 dX6_outline_16 (ug2 28 (by decide +kernel) rfl) mv6_76 miX6_mustBeWithin (cx_mustBeWithin hl k1.2 hw (by unfold rg; omega) (by unfold rg; omega)) ⟨by decide, by decide, rfl, rfl, by decide, by decide⟩ rfl rfl (Nat.le_of_ble_eq_true rfl) rfl rfl (by decide) (fun M9 h9 => by rw [h9]) (fun M9 h9 => ?_)
  subst h9
  exact RC_mk h9
set_option maxRecDepth 100000 in
theorem cx_border (hl : l.stackTraces = false) {i j : Int} (hS : SV S) (h : CN S kn nk c0 r0 m0 ct B F Z Fo No Ho Mo In) (h0 : kBor S i j ≠ 0) (hi : rg i) (hj : rg j) : CtX l yX6_border cX6_border 4 (some .int) rxborder [.ref 0, iv i, iv j] (clB S kn nk c0 r0 m0 ct B F Z Br Q Fo No Ho Mo In Sn Qn) nIO (RB S) := by
  refine CtX.of hl miX6_border (Nat.le_of_ble_eq_true rfl) ?_
  intro X hXl hN ok ex tx
  replace hl : X.1.2.1.stackTraces = false := by rw [hXl]; exact hl
  refine AW.cast (L2 := [some (.ref 0), some (iv i), some (iv j), none]) ?_ rfl rfl rfl
  have hd := hS.1
  have k1 : ¬ ((0 ≤ i ∧ i < mS S) ∧ 0 ≤ j ∧ j < mS S) := fun z => h0 (if_pos z)
  refine a_aload_n (pc := 0) ok dX6_border_0 rfl ?_
  refine x_callV (pc := 1) ok [0, 1, 2, 3, 4, 5, 6, 7, 8, 9, 10, 11, 12, 13, 14, 15, 16, 17, 18, 19, 20, 21, 22, 23, 24, 25, 26, 27, 28, 29, 30, 31, 32, 33, 34, 35, 36, 37, 38, 39, 40, 41, 42, 43, 44, 45] 13 dX6_border_1 mv6_168 miX6_present (c_present hS h.1) ⟨by decide, by decide, rfl, rfl, Nat.zero_le _, Nat.zero_le _⟩ rfl rfl (Nat.le_of_ble_eq_true rfl) rfl rfl (by decide) rfl rfl (fun v M' h => by obtain ⟨_, _, _, _, _, _, _, _, _, h, _⟩ := h; rw [h]; rfl) ?_
  rintro _ M' ⟨rfl, ct', B', F', Z', Br', Q', Fo', No', rfl, hI, -⟩
  refine AW.cast (st2 := [.ref 5]) (M2 := (clB S (1) nk (sC S) (sR S) (sC S * sR S) (ct') (B') (F') (Z') (Br') (Q') (Fo') (No') Ho Mo In Sn Qn)) ?_ rfl rfl rfl
  have h9 := CN_p h hI
  refine a_astore_n (pc := 4) ok dX6_border_4 rfl (by rw [hN]; decide) ?_
  refine a_aload_n (pc := 5) ok dX6_border_5 rfl ?_
  refine a_iload_n (pc := 6) ok dX6_border_6 rfl ?_
  refine a_callVp (pc := 7) ok [5, 6, 7, 8, 9, 10, 11, 12] dX6_border_7 mv6_235 miX0_has (c_has hd hi hI) ⟨by decide, by decide, rfl, rfl, Nat.zero_le _, Nat.zero_le _⟩ rfl rfl (Nat.le_of_ble_eq_true rfl) rfl (by decide) rfl rfl ?_
  refine a_if_eq (pc := 10) (tgt := 25) ok dX6_border_10 (by decide) (by exact bz_rg _) (fun c10 => ?_) (fun c10 => ?_)
  · refine a_iconst (pc := 25) ok dX6_border_25 ?_
    refine t_callS (pc := 26) ok ex tx [] 0 dX6_border_26 (ug3 170 (by decide +kernel) rfl) mv6_203 miX6_mustExist (cx_mustExist hl rfl) ⟨by decide, by decide, rfl, rfl, by decide, by decide⟩ rfl rfl (Nat.le_of_ble_eq_true rfl) rfl rfl (by decide) (fun M9 h9 => by rw [h9]) (fun M9 h9 => ?_)
    subst h9
    exact RB_mk h9
  · refine a_aload_n (pc := 13) ok dX6_border_13 rfl ?_
    refine a_iload_n (pc := 14) ok dX6_border_14 rfl ?_
    refine a_callVp (pc := 15) ok [5, 6, 7, 8, 9, 10, 11, 12] dX6_border_15 mv6_235 miX0_has (c_has hd hj hI) ⟨by decide, by decide, rfl, rfl, Nat.zero_le _, Nat.zero_le _⟩ rfl rfl (Nat.le_of_ble_eq_true rfl) rfl (by decide) rfl rfl ?_
    refine a_if_eq (pc := 18) (tgt := 25) ok dX6_border_18 (by decide) (by exact bz_rg _) (fun c18 => ?_) (fun c18 => ?_)
    · refine a_iconst (pc := 25) ok dX6_border_25 ?_
      refine t_callS (pc := 26) ok ex tx [] 0 dX6_border_26 (ug3 170 (by decide +kernel) rfl) mv6_203 miX6_mustExist (cx_mustExist hl rfl) ⟨by decide, by decide, rfl, rfl, by decide, by decide⟩ rfl rfl (Nat.le_of_ble_eq_true rfl) rfl rfl (by decide) (fun M9 h9 => by rw [h9]) (fun M9 h9 => ?_)
      subst h9
      exact RB_mk h9
    · exact absurd ⟨bz_y c10, bz_y c18⟩ k1
set_option maxRecDepth 100000 in
theorem cx_outlineWay (hl : l.stackTraces = false) {i k : Int} (hS : SV S) (h : CN S kn nk c0 r0 m0 ct B F Z Fo No Ho Mo In) (h0 : kWay S i k ≠ 0) (hi : rg i) (hk : rg k) : CtX l yX6_outlineWay cX6_outlineWay 4 (some .int) rxoutlineWay [.ref 0, iv i, iv k] (clC S kn nk c0 r0 m0 ct B F Z Br Q Fo No Ho Mo In Sn Qn sd rt lf wy) nIO (RC S) := by
  refine CtX.of hl miX6_outlineWay (Nat.le_of_ble_eq_true rfl) ?_
  intro X hXl hN ok ex tx
  replace hl : X.1.2.1.stackTraces = false := by rw [hXl]; exact hl
  refine AW.cast (L2 := [some (.ref 0), some (iv i), some (iv k), none]) ?_ rfl rfl rfl
  have hd := hS.1
  by_cases k1 : 0 ≤ i ∧ i < mS S
  · obtain ⟨f1, f2, f3⟩ := fS_ok hS k1
    have hw := wS1_rg (k := k) hS k1
    have hwr : rg (wS1 S i k) := by unfold rg; omega
    have hw0 : wS1 S i k = -1 := hw.2.2.mpr fun z => h0 (if_pos ⟨k1, z⟩)
    refine a_aload_n (pc := 0) ok dX6_outlineWay_0 rfl ?_
    refine x_callV (pc := 1) ok [0, 1, 2, 3, 4, 5, 6, 7, 8, 9, 10, 11, 12, 13, 14, 15, 16, 17, 18, 19, 20, 21, 22, 23, 24, 25, 26, 27, 28, 29, 30, 31, 32, 33, 34, 35, 36, 37, 38, 39, 40, 41, 42, 43, 44, 45] 13 dX6_outlineWay_1 mv6_168 miX6_present (c_present hS h.1) ⟨by decide, by decide, rfl, rfl, Nat.zero_le _, Nat.zero_le _⟩ rfl rfl (Nat.le_of_ble_eq_true rfl) rfl rfl (by decide) rfl rfl (fun v M' h => by obtain ⟨_, _, _, _, _, _, _, _, _, h, _⟩ := h; rw [h]; rfl) ?_
    rintro _ M' ⟨rfl, ct', B', F', Z', Br', Q', Fo', No', rfl, hI, -⟩
    refine AW.cast (st2 := [.ref 5]) (M2 := (clC S (1) nk (sC S) (sR S) (sC S * sR S) (ct') (B') (F') (Z') (Br') (Q') (Fo') (No') Ho Mo In Sn Qn sd rt lf wy)) ?_ rfl rfl rfl
    have h9 := CN_p h hI
    refine a_astore_n (pc := 4) ok dX6_outlineWay_4 rfl (by rw [hN]; decide) ?_
    refine a_aload_n (pc := 5) ok dX6_outlineWay_5 rfl ?_
    refine a_iload_n (pc := 6) ok dX6_outlineWay_6 rfl ?_
    refine a_callVp (pc := 7) ok [5, 6, 7, 8, 9, 10, 11, 12] dX6_outlineWay_7 mv6_235 miX0_has (c_has hd hi hI) ⟨by decide, by decide, rfl, rfl, Nat.zero_le _, Nat.zero_le _⟩ rfl rfl (Nat.le_of_ble_eq_true rfl) rfl (by decide) rfl rfl ?_
    refine a_callSv (pc := 10) ok [] dX6_outlineWay_10 mv6_203 miX6_mustExist (c_mustExist (bz_pos k1)) ⟨by decide, by decide, rfl, rfl, Nat.zero_le _, Nat.zero_le _⟩ rfl rfl (Nat.le_of_ble_eq_true rfl) rfl (by decide) rfl ?_
    refine a_aload_n (pc := 13) ok dX6_outlineWay_13 rfl ?_
    refine a_getf (pc := 14) ok dX6_outlineWay_14 fl6_68 rfl rfl ?_
    refine a_aload_n (pc := 17) ok dX6_outlineWay_17 rfl ?_
    refine a_iload_n (pc := 18) ok dX6_outlineWay_18 rfl ?_
    refine a_iload_n (pc := 19) ok dX6_outlineWay_19 rfl ?_
    refine a_callVv (pc := 20) ok [19, 5, 6, 7, 8, 9, 10, 11, 12] dX6_outlineWay_20 mv6_268 miX3_follow (c_follow (a := k) hd f1 f2 f3 hk hI) ⟨by decide, by decide, rfl, rfl, Nat.zero_le _, Nat.zero_le _⟩ rfl rfl (Nat.le_of_ble_eq_true rfl) rfl (by decide) rfl rfl rfl ?_
    refine a_aload_n (pc := 23) ok dX6_outlineWay_23 rfl ?_
    refine a_getf (pc := 24) ok dX6_outlineWay_24 fl6_68 rfl rfl ?_
    refine a_getf (pc := 27) ok dX6_outlineWay_27 fl6_281 rfl rfl ?_
    refine a_iconst (pc := 30) ok dX6_outlineWay_30 ?_
    refine a_icmp_eq (pc := 31) (tgt := 38) ok dX6_outlineWay_31 (by decide) (by first | exact hwr | (unfold rg; omega)) (by first | exact hwr | (unfold rg; omega)) (fun c31 => ?_) (fun c31 => ?_)
    · refine a_iconst (pc := 38) ok dX6_outlineWay_38 ?_
      refine t_callS (pc := 39) ok ex tx [] 0 dX6_outlineWay_39 (ug3 170 (by decide +kernel) rfl) mv6_203 miX6_mustExist (cx_mustExist hl rfl) ⟨by decide, by decide, rfl, rfl, by decide, by decide⟩ rfl rfl (Nat.le_of_ble_eq_true rfl) rfl rfl (by decide) (fun M9 h9 => by rw [h9]) (fun M9 h9 => ?_)
      subst h9
      exact RC_mk h9
    · exact absurd hw0 c31
  · skip
    refine a_aload_n (pc := 0) ok dX6_outlineWay_0 rfl ?_
    refine x_callV (pc := 1) ok [0, 1, 2, 3, 4, 5, 6, 7, 8, 9, 10, 11, 12, 13, 14, 15, 16, 17, 18, 19, 20, 21, 22, 23, 24, 25, 26, 27, 28, 29, 30, 31, 32, 33, 34, 35, 36, 37, 38, 39, 40, 41, 42, 43, 44, 45] 13 dX6_outlineWay_1 mv6_168 miX6_present (c_present hS h.1) ⟨by decide, by decide, rfl, rfl, Nat.zero_le _, Nat.zero_le _⟩ rfl rfl (Nat.le_of_ble_eq_true rfl) rfl rfl (by decide) rfl rfl (fun v M' h => by obtain ⟨_, _, _, _, _, _, _, _, _, h, _⟩ := h; rw [h]; rfl) ?_
    rintro _ M' ⟨rfl, ct', B', F', Z', Br', Q', Fo', No', rfl, hI, -⟩
    refine AW.cast (st2 := [.ref 5]) (M2 := (clC S (1) nk (sC S) (sR S) (sC S * sR S) (ct') (B') (F') (Z') (Br') (Q') (Fo') (No') Ho Mo In Sn Qn sd rt lf wy)) ?_ rfl rfl rfl
    have h9 := CN_p h hI
    refine a_astore_n (pc := 4) ok dX6_outlineWay_4 rfl (by rw [hN]; decide) ?_
    refine a_aload_n (pc := 5) ok dX6_outlineWay_5 rfl ?_
    refine a_iload_n (pc := 6) ok dX6_outlineWay_6 rfl ?_
    refine a_callVp (pc := 7) ok [5, 6, 7, 8, 9, 10, 11, 12] dX6_outlineWay_7 mv6_235 miX0_has (c_has hd hi hI) ⟨by decide, by decide, rfl, rfl, Nat.zero_le _, Nat.zero_le _⟩ rfl rfl (Nat.le_of_ble_eq_true rfl) rfl (by decide) rfl rfl ?_
    refine t_callS (pc := 10) ok ex tx [] 0 dX6_outlineWay_10 (ug3 170 (by decide +kernel) rfl) mv6_203 miX6_mustExist (cx_mustExist hl (bz_neg k1)) ⟨by decide, by decide, rfl, rfl, by decide, by decide⟩ rfl rfl (Nat.le_of_ble_eq_true rfl) rfl rfl (by decide) (fun M9 h9 => by rw [h9]) (fun M9 h9 => ?_)
    subst h9
    exact RC_mk h9
set_option maxRecDepth 100000 in
theorem cx_band1 (hl : l.stackTraces = false) {x what : Int} (hS : SV S) (h : kBand S x what = 1) (hx : rg x) : CtX l yX6_band cX6_band 3 (some .int) rxband [.ref 0, iv x, iv what] (clB S kn nk c0 r0 m0 ct B F Z Br Q Fo No Ho Mo In Sn Qn) nIO (fun M => M = (clB S kn nk c0 r0 m0 ct B F Z Br Q Fo No Ho Mo In Sn Qn)) := by
  refine CtX.of hl miX6_band (Nat.le_of_ble_eq_true rfl) ?_
  intro X hXl hN ok ex tx
  replace hl : X.1.2.1.stackTraces = false := by rw [hXl]; exact hl
  refine AW.cast (L2 := [some (.ref 0), some (iv x), some (iv what)]) ?_ rfl rfl rfl
  have hn := hS.2.2.2.2.1
  have k1 : ¬ (0 ≤ x ∧ x ≤ sN S) := by
    unfold kBand at h
    split at h
    · assumption
    · split at h <;> omega
  refine a_iload_n (pc := 0) ok dX6_band_0 rfl ?_
  refine a_if_lt (pc := 1) (tgt := 19) ok dX6_band_1 (by decide) (by first | omega | (unfold rg; omega) | (simp only [rg] at *; omega) | exact bz_rg _ | grind [rg]) (fun c1 => ?_) (fun c1 => ?_)
  · refine a_iconst (pc := 19) ok dX6_band_19 ?_
    refine t_callS (pc := 20) ok ex tx [] 0 dX6_band_20 (ug3 170 (by decide +kernel) rfl) mv6_203 miX6_mustExist (cx_mustExist hl rfl) ⟨by decide, by decide, rfl, rfl, by decide, by decide⟩ rfl rfl (Nat.le_of_ble_eq_true rfl) rfl rfl (by decide) (fun M9 h9 => by rw [h9]) (fun M9 h9 => ?_)
    subst h9
    exact rfl
  · refine a_iload_n (pc := 4) ok dX6_band_4 rfl ?_
    refine a_aload_n (pc := 5) ok dX6_band_5 rfl ?_
    refine a_getf (pc := 6) ok dX6_band_6 fl6_19 rfl rfl ?_
    refine a_getf (pc := 9) ok dX6_band_9 fl6_162 rfl rfl ?_
    refine a_icmp_gt (pc := 12) (tgt := 19) ok dX6_band_12 (by decide) (by first | exact hx | (unfold rg; omega)) (by first | exact hx | (unfold rg; omega)) (fun c12 => ?_) (fun c12 => ?_)
    · refine a_iconst (pc := 19) ok dX6_band_19 ?_
      refine t_callS (pc := 20) ok ex tx [] 0 dX6_band_20 (ug3 170 (by decide +kernel) rfl) mv6_203 miX6_mustExist (cx_mustExist hl rfl) ⟨by decide, by decide, rfl, rfl, by decide, by decide⟩ rfl rfl (Nat.le_of_ble_eq_true rfl) rfl rfl (by decide) (fun M9 h9 => by rw [h9]) (fun M9 h9 => ?_)
      subst h9
      exact rfl
    · omega
set_option maxRecDepth 100000 in
theorem cx_band2 (hl : l.stackTraces = false) {x what : Int} (hS : SV S) (h : kBand S x what = 2) (hx : rg x) (hw : rg what) : CtX l yX6_band cX6_band 3 (some .int) rxband [.ref 0, iv x, iv what] (clB S kn nk c0 r0 m0 ct B F Z Br Q Fo No Ho Mo In Sn Qn) nIA (fun M => M = (clB S kn nk c0 r0 m0 ct B F Z Br Q Fo No Ho Mo In Sn Qn)) := by
  refine CtX.of hl miX6_band (Nat.le_of_ble_eq_true rfl) ?_
  intro X hXl hN ok ex tx
  replace hl : X.1.2.1.stackTraces = false := by rw [hXl]; exact hl
  refine AW.cast (L2 := [some (.ref 0), some (iv x), some (iv what)]) ?_ rfl rfl rfl
  have hn := hS.2.2.2.2.1
  have k1 : (0 ≤ x ∧ x ≤ sN S) ∧ ¬ (0 ≤ what ∧ what ≤ 3) := by
    unfold kBand at h
    repeat' split at h
    all_goals omega
  refine a_iload_n (pc := 0) ok dX6_band_0 rfl ?_
  refine a_if_lt (pc := 1) (tgt := 19) ok dX6_band_1 (by decide) (by first | omega | (unfold rg; omega) | (simp only [rg] at *; omega) | exact bz_rg _ | grind [rg]) (fun c1 => ?_) (fun c1 => ?_)
  · omega
  · refine a_iload_n (pc := 4) ok dX6_band_4 rfl ?_
    refine a_aload_n (pc := 5) ok dX6_band_5 rfl ?_
    refine a_getf (pc := 6) ok dX6_band_6 fl6_19 rfl rfl ?_
    refine a_getf (pc := 9) ok dX6_band_9 fl6_162 rfl rfl ?_
    refine a_icmp_gt (pc := 12) (tgt := 19) ok dX6_band_12 (by decide) (by unfold rg; omega) (by unfold rg; omega) (fun c12 => ?_) (fun c12 => ?_)
    · omega
    · refine a_iconst (pc := 15) ok dX6_band_15 ?_
      refine a_goto (pc := 16) (tgt := 20) ok dX6_band_16 (by decide) ?_
      refine a_callSv (pc := 20) ok [] dX6_band_20 mv6_203 miX6_mustExist (c_mustExist rfl) ⟨by decide, by decide, rfl, rfl, Nat.zero_le _, Nat.zero_le _⟩ rfl rfl (Nat.le_of_ble_eq_true rfl) rfl (by decide) rfl ?_
      refine a_iload_n (pc := 23) ok dX6_band_23 rfl ?_
      refine a_iconst (pc := 24) ok dX6_band_24 ?_
      refine a_iconst (pc := 25) ok dX6_band_25 ?_
      refine t_callS (pc := 26) ok ex tx [] 0 dX6_band_26 (ug2 28 (by decide +kernel) rfl) mv6_76 miX6_mustBeWithin (cx_mustBeWithin hl k1.2 hw (by unfold rg; omega) (by unfold rg; omega)) ⟨by decide, by decide, rfl, rfl, by decide, by decide⟩ rfl rfl (Nat.le_of_ble_eq_true rfl) rfl rfl (by decide) (fun M9 h9 => by rw [h9]) (fun M9 h9 => ?_)
      subst h9
      exact rfl
set_option maxRecDepth 100000 in
theorem cx_ifLeast (hl : l.stackTraces = false) {v w : Int} (h : kIfL v w ≠ 0) (hv : rg v) (hw : rg w) : CtX l yX6_ifLeast cX6_ifLeast 3 (some .int) rxifLeast [.ref 0, iv v, iv w] (clU kn nk S2 c1 r1 m1 ct1 B1 F1 Z1 Br1 Q1 Fo1 No1 gb S) nIA (fun M => M = (clU kn nk S2 c1 r1 m1 ct1 B1 F1 Z1 Br1 Q1 Fo1 No1 gb S)) := by
  refine CtX.of hl miX6_ifLeast (Nat.le_of_ble_eq_true rfl) ?_
  intro X hXl hN ok ex tx
  replace hl : X.1.2.1.stackTraces = false := by rw [hXl]; exact hl
  refine AW.cast (L2 := [some (.ref 0), some (iv v), some (iv w)]) ?_ rfl rfl rfl
  by_cases k1 : 1 ≤ v ∧ v ≤ 30
  · have k2 : ¬ (0 ≤ w ∧ w ≤ 2) := fun z => h (if_pos ⟨k1, z⟩)
    refine a_iload_n (pc := 0) ok dX6_ifLeast_0 rfl ?_
    refine a_iconst (pc := 1) ok dX6_ifLeast_1 ?_
    refine a_bipush (pc := 2) ok dX6_ifLeast_2 (by decide) ?_
    refine a_callSv (pc := 4) ok [] dX6_ifLeast_4 mv6_76 miX6_mustBeWithin (c_mustBeWithin k1 hv (by unfold rg; omega) (by unfold rg; omega)) ⟨by decide, by decide, rfl, rfl, Nat.zero_le _, Nat.zero_le _⟩ rfl rfl (Nat.le_of_ble_eq_true rfl) rfl (by decide) rfl ?_
    refine a_iload_n (pc := 7) ok dX6_ifLeast_7 rfl ?_
    refine a_iconst (pc := 8) ok dX6_ifLeast_8 ?_
    refine a_iconst (pc := 9) ok dX6_ifLeast_9 ?_
    refine t_callS (pc := 10) ok ex tx [] 0 dX6_ifLeast_10 (ug2 28 (by decide +kernel) rfl) mv6_76 miX6_mustBeWithin (cx_mustBeWithin hl k2 hw (by unfold rg; omega) (by unfold rg; omega)) ⟨by decide, by decide, rfl, rfl, by decide, by decide⟩ rfl rfl (Nat.le_of_ble_eq_true rfl) rfl rfl (by decide) (fun M9 h9 => by rw [h9]) (fun M9 h9 => ?_)
    subst h9
    exact rfl
  · skip
    refine a_iload_n (pc := 0) ok dX6_ifLeast_0 rfl ?_
    refine a_iconst (pc := 1) ok dX6_ifLeast_1 ?_
    refine a_bipush (pc := 2) ok dX6_ifLeast_2 (by decide) ?_
    refine t_callS (pc := 4) ok ex tx [] 0 dX6_ifLeast_4 (ug2 28 (by decide +kernel) rfl) mv6_76 miX6_mustBeWithin (cx_mustBeWithin hl k1 hv (by unfold rg; omega) (by unfold rg; omega)) ⟨by decide, by decide, rfl, rfl, by decide, by decide⟩ rfl rfl (Nat.le_of_ble_eq_true rfl) rfl rfl (by decide) (fun M9 h9 => by rw [h9]) (fun M9 h9 => ?_)
    subst h9
    exact rfl
set_option maxRecDepth 100000 in
theorem cx_leastFor (hl : l.stackTraces = false) {n : Int} (h : kIn n 1 144 ≠ 0) (hn : rg n) : CtX l yX6_leastFor cX6_leastFor 3 (some .int) rxleastFor [.ref 0, iv n] (clU kn nk S2 c1 r1 m1 ct1 B1 F1 Z1 Br1 Q1 Fo1 No1 gb S) nIA (fun M => M = (clU kn nk S2 c1 r1 m1 ct1 B1 F1 Z1 Br1 Q1 Fo1 No1 gb S)) := by
  refine CtX.of hl miX6_leastFor (Nat.le_of_ble_eq_true rfl) ?_
  intro X hXl hN ok ex tx
  replace hl : X.1.2.1.stackTraces = false := by rw [hXl]; exact hl
  refine AW.cast (L2 := [some (.ref 0), some (iv n), none]) ?_ rfl rfl rfl
  have k1 : ¬ (1 ≤ n ∧ n ≤ 144) := fun z => h (if_pos z)
  refine a_iload_n (pc := 0) ok dX6_leastFor_0 rfl ?_
  refine a_iconst (pc := 1) ok dX6_leastFor_1 ?_
  refine a_sipush (pc := 2) ok dX6_leastFor_2 (by decide) ?_
  refine t_callS (pc := 5) ok ex tx [] 0 dX6_leastFor_5 (ug2 28 (by decide +kernel) rfl) mv6_76 miX6_mustBeWithin (cx_mustBeWithin hl k1 hn (by unfold rg; omega) (by unfold rg; omega)) ⟨by decide, by decide, rfl, rfl, by decide, by decide⟩ rfl rfl (Nat.le_of_ble_eq_true rfl) rfl rfl (by decide) (fun M9 h9 => by rw [h9]) (fun M9 h9 => ?_)
  subst h9
  exact rfl
set_option maxRecDepth 100000 in
theorem cx_bestMove (hl : l.stackTraces = false) {k : Int} (hS : SV S) (h : kIn k 0 (sN S - 1) ≠ 0) (hk : rg k) : CtX l yX6_bestMove cX6_bestMove 9 (some .int) rxbestMove [.ref 0, iv k] (clU kn nk S2 c1 r1 m1 ct1 B1 F1 Z1 Br1 Q1 Fo1 No1 gb S) nIO (fun M => M = (clU kn nk S2 c1 r1 m1 ct1 B1 F1 Z1 Br1 Q1 Fo1 No1 gb S)) := by
  refine CtX.of hl miX6_bestMove (Nat.le_of_ble_eq_true rfl) ?_
  intro X hXl hN ok ex tx
  replace hl : X.1.2.1.stackTraces = false := by rw [hXl]; exact hl
  refine AW.cast (L2 := [some (.ref 0), some (iv k), none, none, none, none, none, none, none]) ?_ rfl rfl rfl
  have hn := hS.2.2.2.2.1
  have k1 : ¬ (0 ≤ k ∧ k < sN S) := fun z => h (if_pos (by omega))
  refine a_aload_n (pc := 0) ok dX6_bestMove_0 rfl ?_
  refine a_getf (pc := 1) ok dX6_bestMove_1 fl6_19 rfl rfl ?_
  refine a_iload_n (pc := 4) ok dX6_bestMove_4 rfl ?_
  refine a_callVp (pc := 5) ok [14, 15, 16, 17] dX6_bestMove_5 mv6_229 miX4_hasThreshold (c_hasThreshold (by omega) hk) ⟨by decide, by decide, rfl, rfl, Nat.zero_le _, Nat.zero_le _⟩ rfl rfl (Nat.le_of_ble_eq_true rfl) rfl (by decide) rfl rfl ?_
  refine t_callS (pc := 8) ok ex tx [] 0 dX6_bestMove_8 (ug3 170 (by decide +kernel) rfl) mv6_203 miX6_mustExist (cx_mustExist hl (bz_neg k1)) ⟨by decide, by decide, rfl, rfl, by decide, by decide⟩ rfl rfl (Nat.le_of_ble_eq_true rfl) rfl rfl (by decide) (fun M9 h9 => by rw [h9]) (fun M9 h9 => ?_)
  subst h9
  exact rfl
set_option maxRecDepth 100000 in
theorem cx_ifCell1 (hl : l.stackTraces = false) {x y g w : Int} (hS : SV S) (h : kIfC S x y g w = 1) (hx : rg x) (hy : rg y) : CtX l yX6_ifCell cX6_ifCell 5 (some .int) rxifCell [.ref 0, iv x, iv y, iv g, iv w] (clD S kn nk c0 r0 m0 ct B F Z Br Q Fo No Ho Mo In Sn Qn sd rt lf wy S2 c1 r1 m1 ct1 B1 F1 Z1 Br1 Q1 Fo1 No1 gb) nIO (fun M => M = (clD S kn nk c0 r0 m0 ct B F Z Br Q Fo No Ho Mo In Sn Qn sd rt lf wy S2 c1 r1 m1 ct1 B1 F1 Z1 Br1 Q1 Fo1 No1 gb)) := by
  refine CtX.of hl miX6_ifCell (Nat.le_of_ble_eq_true rfl) ?_
  intro X hXl hN ok ex tx
  replace hl : X.1.2.1.stackTraces = false := by rw [hXl]; exact hl
  refine AW.cast (L2 := [some (.ref 0), some (iv x), some (iv y), some (iv g), some (iv w)]) ?_ rfl rfl rfl
  have hd := hS.1
  have k1 : ¬ inP (sC S) (sR S) x y := by
    unfold kIfC at h
    repeat' split at h
    all_goals (intro z; obtain ⟨z1, z2, z3, z4⟩ := z; omega)
  refine a_aload_n (pc := 0) ok dX6_ifCell_0 rfl ?_
  refine a_getf (pc := 1) ok dX6_ifCell_1 fl6_19 rfl rfl ?_
  refine a_iload_n (pc := 4) ok dX6_ifCell_4 rfl ?_
  refine a_iload_n (pc := 5) ok dX6_ifCell_5 rfl ?_
  refine a_callVp (pc := 6) ok [1, 2, 3, 4] dX6_ifCell_6 mv6_199 miX4_hasCell (c_hasCell hd hx hy) ⟨by decide, by decide, rfl, rfl, Nat.zero_le _, Nat.zero_le _⟩ rfl rfl (Nat.le_of_ble_eq_true rfl) rfl (by decide) rfl rfl ?_
  refine t_callS (pc := 9) ok ex tx [] 0 dX6_ifCell_9 (ug3 170 (by decide +kernel) rfl) mv6_203 miX6_mustExist (cx_mustExist hl (bz_neg k1)) ⟨by decide, by decide, rfl, rfl, by decide, by decide⟩ rfl rfl (Nat.le_of_ble_eq_true rfl) rfl rfl (by decide) (fun M9 h9 => by rw [h9]) (fun M9 h9 => ?_)
  subst h9
  exact rfl
set_option maxRecDepth 100000 in
theorem cx_ifCell2 (hl : l.stackTraces = false) {x y g w : Int} (hS : SV S) (h : kIfC S x y g w = 2) (hx : rg x) (hy : rg y) (hg : rg g) (hw : rg w) : CtX l yX6_ifCell cX6_ifCell 5 (some .int) rxifCell [.ref 0, iv x, iv y, iv g, iv w] (clD S kn nk c0 r0 m0 ct B F Z Br Q Fo No Ho Mo In Sn Qn sd rt lf wy S2 c1 r1 m1 ct1 B1 F1 Z1 Br1 Q1 Fo1 No1 gb) nIA (fun M => M = (clD S kn nk c0 r0 m0 ct B F Z Br Q Fo No Ho Mo In Sn Qn sd rt lf wy S2 c1 r1 m1 ct1 B1 F1 Z1 Br1 Q1 Fo1 No1 gb)) := by
  refine CtX.of hl miX6_ifCell (Nat.le_of_ble_eq_true rfl) ?_
  intro X hXl hN ok ex tx
  replace hl : X.1.2.1.stackTraces = false := by rw [hXl]; exact hl
  refine AW.cast (L2 := [some (.ref 0), some (iv x), some (iv y), some (iv g), some (iv w)]) ?_ rfl rfl rfl
  have hd := hS.1
  have k1 : inP (sC S) (sR S) x y ∧ ¬ ((0 ≤ g ∧ g ≤ 99) ∧ 0 ≤ w ∧ w ≤ 2) := by
    unfold kIfC at h
    repeat' split at h
    all_goals omega
  by_cases k2 : 0 ≤ g ∧ g ≤ 99
  · have k3 : ¬ (0 ≤ w ∧ w ≤ 2) := fun z => k1.2 ⟨k2, z⟩
    refine a_aload_n (pc := 0) ok dX6_ifCell_0 rfl ?_
    refine a_getf (pc := 1) ok dX6_ifCell_1 fl6_19 rfl rfl ?_
    refine a_iload_n (pc := 4) ok dX6_ifCell_4 rfl ?_
    refine a_iload_n (pc := 5) ok dX6_ifCell_5 rfl ?_
    refine a_callVp (pc := 6) ok [1, 2, 3, 4] dX6_ifCell_6 mv6_199 miX4_hasCell (c_hasCell hd hx hy) ⟨by decide, by decide, rfl, rfl, Nat.zero_le _, Nat.zero_le _⟩ rfl rfl (Nat.le_of_ble_eq_true rfl) rfl (by decide) rfl rfl ?_
    refine a_callSv (pc := 9) ok [] dX6_ifCell_9 mv6_203 miX6_mustExist (c_mustExist (bz_pos k1.1)) ⟨by decide, by decide, rfl, rfl, Nat.zero_le _, Nat.zero_le _⟩ rfl rfl (Nat.le_of_ble_eq_true rfl) rfl (by decide) rfl ?_
    refine a_iload_n (pc := 12) ok dX6_ifCell_12 rfl ?_
    refine a_iconst (pc := 13) ok dX6_ifCell_13 ?_
    refine a_bipush (pc := 14) ok dX6_ifCell_14 (by decide) ?_
    refine a_callSv (pc := 16) ok [] dX6_ifCell_16 mv6_76 miX6_mustBeWithin (c_mustBeWithin k2 hg (by unfold rg; omega) (by unfold rg; omega)) ⟨by decide, by decide, rfl, rfl, Nat.zero_le _, Nat.zero_le _⟩ rfl rfl (Nat.le_of_ble_eq_true rfl) rfl (by decide) rfl ?_
    refine a_iload (pc := 19) ok dX6_ifCell_19 rfl ?_
    refine a_iconst (pc := 21) ok dX6_ifCell_21 ?_
    refine a_iconst (pc := 22) ok dX6_ifCell_22 ?_
    refine t_callS (pc := 23) ok ex tx [] 0 dX6_ifCell_23 (ug2 28 (by decide +kernel) rfl) mv6_76 miX6_mustBeWithin (cx_mustBeWithin hl k3 hw (by unfold rg; omega) (by unfold rg; omega)) ⟨by decide, by decide, rfl, rfl, by decide, by decide⟩ rfl rfl (Nat.le_of_ble_eq_true rfl) rfl rfl (by decide) (fun M9 h9 => by rw [h9]) (fun M9 h9 => ?_)
    subst h9
    exact rfl
  · skip
    refine a_aload_n (pc := 0) ok dX6_ifCell_0 rfl ?_
    refine a_getf (pc := 1) ok dX6_ifCell_1 fl6_19 rfl rfl ?_
    refine a_iload_n (pc := 4) ok dX6_ifCell_4 rfl ?_
    refine a_iload_n (pc := 5) ok dX6_ifCell_5 rfl ?_
    refine a_callVp (pc := 6) ok [1, 2, 3, 4] dX6_ifCell_6 mv6_199 miX4_hasCell (c_hasCell hd hx hy) ⟨by decide, by decide, rfl, rfl, Nat.zero_le _, Nat.zero_le _⟩ rfl rfl (Nat.le_of_ble_eq_true rfl) rfl (by decide) rfl rfl ?_
    refine a_callSv (pc := 9) ok [] dX6_ifCell_9 mv6_203 miX6_mustExist (c_mustExist (bz_pos k1.1)) ⟨by decide, by decide, rfl, rfl, Nat.zero_le _, Nat.zero_le _⟩ rfl rfl (Nat.le_of_ble_eq_true rfl) rfl (by decide) rfl ?_
    refine a_iload_n (pc := 12) ok dX6_ifCell_12 rfl ?_
    refine a_iconst (pc := 13) ok dX6_ifCell_13 ?_
    refine a_bipush (pc := 14) ok dX6_ifCell_14 (by decide) ?_
    refine t_callS (pc := 16) ok ex tx [] 0 dX6_ifCell_16 (ug2 28 (by decide +kernel) rfl) mv6_76 miX6_mustBeWithin (cx_mustBeWithin hl k2 hg (by unfold rg; omega) (by unfold rg; omega)) ⟨by decide, by decide, rfl, rfl, by decide, by decide⟩ rfl rfl (Nat.le_of_ble_eq_true rfl) rfl rfl (by decide) (fun M9 h9 => by rw [h9]) (fun M9 h9 => ?_)
    subst h9
    exact rfl
set_option maxRecDepth 100000 in
theorem cx_runScript (hl : l.stackTraces = false) {n x : Int} (h : kRun n x ≠ 0) (hn : rg n) (hx : rgL x) : CtX l yX6_runScript cX6_runScript 9 (some .int) rxrunScript [.ref 0, iv n, jv x] (clU kn nk S2 c1 r1 m1 ct1 B1 F1 Z1 Br1 Q1 Fo1 No1 gb S) nIA (fun M => M = (clU kn nk S2 c1 r1 m1 ct1 B1 F1 Z1 Br1 Q1 Fo1 No1 gb S)) := by
  refine CtX.of hl miX6_runScript (Nat.le_of_ble_eq_true rfl) ?_
  intro X hXl hN ok ex tx
  replace hl : X.1.2.1.stackTraces = false := by rw [hXl]; exact hl
  refine AW.cast (L2 := [some (.ref 0), some (iv n), some (jv x), none, none, none, none, none, none]) ?_ rfl rfl rfl
  by_cases k1 : 1 ≤ n ∧ n ≤ 2
  · have k2 : ¬ (0 ≤ x ∧ x ≤ (if n ≤ 0 then 1 else if n = 1 then 100000000 else 10000000000000000) - 1) := fun z => h (if_pos ⟨k1, z⟩)
    have s22 : ∀ e : Int, e = (if n ≤ 0 then 1 else if n = 1 then 100000000 else 10000000000000000) → AW X 0 0 22 [some (.ref 0), some (iv n), some (jv x), none, some (jv e), none, none, none, none] [] (clU kn nk S2 c1 r1 m1 ct1 B1 F1 Z1 Br1 Q1 Fo1 No1 gb S) := by
      intro e he
      rw [← he] at k2
      have he2 : 1 ≤ e ∧ e ≤ 10000000000000000 := by
        rw [he]
        repeat' split
        all_goals omega
      unfold rgL at hx
      refine a_lload_n (pc := 22) ok dX6_runScript_22 rfl ?_
      refine a_lconst (pc := 23) (z := 0) ok dX6_runScript_23 rfl ?_
      refine a_lcmp (pc := 24) ok dX6_runScript_24 (by unfold rgL; omega) (by unfold rgL; omega) (fun c24 => ?_) (fun c24 => ?_) (fun c24 => ?_)
      · refine a_if_lt (pc := 25) (tgt := 35) ok dX6_runScript_25 (by decide) (by first | omega | (unfold rg; omega) | (simp only [rg] at *; omega) | exact bz_rg _ | grind [rg]) (fun c25 => ?_) (fun c25 => ?_)
        · exact t_throwW (pc := 35) (text := "the script has too many digits or is negative") ok ex tx thr_309_313 (by decide +kernel) dX6_runScript_35 dX6_runScript_38 dX6_runScript_39 dX6_runScript_42 dX6_runScript_45 ⟨by decide, by decide, by decide, by decide⟩ (rfl)
        · refine a_lload_n (pc := 28) ok dX6_runScript_28 rfl ?_
          refine a_lload (pc := 29) ok dX6_runScript_29 rfl ?_
          refine a_lcmp (pc := 31) ok dX6_runScript_31 (by unfold rgL; omega) (by unfold rgL; omega) (fun c31 => ?_) (fun c31 => ?_) (fun c31 => ?_)
          · refine a_if_lt (pc := 32) (tgt := 46) ok dX6_runScript_32 (by decide) (by first | omega | (unfold rg; omega) | (simp only [rg] at *; omega) | exact bz_rg _ | grind [rg]) (fun c32 => ?_) (fun c32 => ?_)
            · omega
            · exact t_throwW (pc := 35) (text := "the script has too many digits or is negative") ok ex tx thr_309_313 (by decide +kernel) dX6_runScript_35 dX6_runScript_38 dX6_runScript_39 dX6_runScript_42 dX6_runScript_45 ⟨by decide, by decide, by decide, by decide⟩ (rfl)
          · refine a_if_lt (pc := 32) (tgt := 46) ok dX6_runScript_32 (by decide) (by first | omega | (unfold rg; omega) | (simp only [rg] at *; omega) | exact bz_rg _ | grind [rg]) (fun c32 => ?_) (fun c32 => ?_)
            · omega
            · exact t_throwW (pc := 35) (text := "the script has too many digits or is negative") ok ex tx thr_309_313 (by decide +kernel) dX6_runScript_35 dX6_runScript_38 dX6_runScript_39 dX6_runScript_42 dX6_runScript_45 ⟨by decide, by decide, by decide, by decide⟩ (rfl)
          · refine a_if_lt (pc := 32) (tgt := 46) ok dX6_runScript_32 (by decide) (by first | omega | (unfold rg; omega) | (simp only [rg] at *; omega) | exact bz_rg _ | grind [rg]) (fun c32 => ?_) (fun c32 => ?_)
            · omega
            · exact t_throwW (pc := 35) (text := "the script has too many digits or is negative") ok ex tx thr_309_313 (by decide +kernel) dX6_runScript_35 dX6_runScript_38 dX6_runScript_39 dX6_runScript_42 dX6_runScript_45 ⟨by decide, by decide, by decide, by decide⟩ (rfl)
      · refine a_if_lt (pc := 25) (tgt := 35) ok dX6_runScript_25 (by decide) (by first | omega | (unfold rg; omega) | (simp only [rg] at *; omega) | exact bz_rg _ | grind [rg]) (fun c25 => ?_) (fun c25 => ?_)
        · exact t_throwW (pc := 35) (text := "the script has too many digits or is negative") ok ex tx thr_309_313 (by decide +kernel) dX6_runScript_35 dX6_runScript_38 dX6_runScript_39 dX6_runScript_42 dX6_runScript_45 ⟨by decide, by decide, by decide, by decide⟩ (rfl)
        · refine a_lload_n (pc := 28) ok dX6_runScript_28 rfl ?_
          refine a_lload (pc := 29) ok dX6_runScript_29 rfl ?_
          refine a_lcmp (pc := 31) ok dX6_runScript_31 (by unfold rgL; omega) (by unfold rgL; omega) (fun c31 => ?_) (fun c31 => ?_) (fun c31 => ?_)
          · refine a_if_lt (pc := 32) (tgt := 46) ok dX6_runScript_32 (by decide) (by first | omega | (unfold rg; omega) | (simp only [rg] at *; omega) | exact bz_rg _ | grind [rg]) (fun c32 => ?_) (fun c32 => ?_)
            · omega
            · exact t_throwW (pc := 35) (text := "the script has too many digits or is negative") ok ex tx thr_309_313 (by decide +kernel) dX6_runScript_35 dX6_runScript_38 dX6_runScript_39 dX6_runScript_42 dX6_runScript_45 ⟨by decide, by decide, by decide, by decide⟩ (rfl)
          · refine a_if_lt (pc := 32) (tgt := 46) ok dX6_runScript_32 (by decide) (by first | omega | (unfold rg; omega) | (simp only [rg] at *; omega) | exact bz_rg _ | grind [rg]) (fun c32 => ?_) (fun c32 => ?_)
            · omega
            · exact t_throwW (pc := 35) (text := "the script has too many digits or is negative") ok ex tx thr_309_313 (by decide +kernel) dX6_runScript_35 dX6_runScript_38 dX6_runScript_39 dX6_runScript_42 dX6_runScript_45 ⟨by decide, by decide, by decide, by decide⟩ (rfl)
          · refine a_if_lt (pc := 32) (tgt := 46) ok dX6_runScript_32 (by decide) (by first | omega | (unfold rg; omega) | (simp only [rg] at *; omega) | exact bz_rg _ | grind [rg]) (fun c32 => ?_) (fun c32 => ?_)
            · omega
            · exact t_throwW (pc := 35) (text := "the script has too many digits or is negative") ok ex tx thr_309_313 (by decide +kernel) dX6_runScript_35 dX6_runScript_38 dX6_runScript_39 dX6_runScript_42 dX6_runScript_45 ⟨by decide, by decide, by decide, by decide⟩ (rfl)
      · refine a_if_lt (pc := 25) (tgt := 35) ok dX6_runScript_25 (by decide) (by first | omega | (unfold rg; omega) | (simp only [rg] at *; omega) | exact bz_rg _ | grind [rg]) (fun c25 => ?_) (fun c25 => ?_)
        · exact t_throwW (pc := 35) (text := "the script has too many digits or is negative") ok ex tx thr_309_313 (by decide +kernel) dX6_runScript_35 dX6_runScript_38 dX6_runScript_39 dX6_runScript_42 dX6_runScript_45 ⟨by decide, by decide, by decide, by decide⟩ (rfl)
        · refine a_lload_n (pc := 28) ok dX6_runScript_28 rfl ?_
          refine a_lload (pc := 29) ok dX6_runScript_29 rfl ?_
          refine a_lcmp (pc := 31) ok dX6_runScript_31 (by unfold rgL; omega) (by unfold rgL; omega) (fun c31 => ?_) (fun c31 => ?_) (fun c31 => ?_)
          · refine a_if_lt (pc := 32) (tgt := 46) ok dX6_runScript_32 (by decide) (by first | omega | (unfold rg; omega) | (simp only [rg] at *; omega) | exact bz_rg _ | grind [rg]) (fun c32 => ?_) (fun c32 => ?_)
            · omega
            · exact t_throwW (pc := 35) (text := "the script has too many digits or is negative") ok ex tx thr_309_313 (by decide +kernel) dX6_runScript_35 dX6_runScript_38 dX6_runScript_39 dX6_runScript_42 dX6_runScript_45 ⟨by decide, by decide, by decide, by decide⟩ (rfl)
          · refine a_if_lt (pc := 32) (tgt := 46) ok dX6_runScript_32 (by decide) (by first | omega | (unfold rg; omega) | (simp only [rg] at *; omega) | exact bz_rg _ | grind [rg]) (fun c32 => ?_) (fun c32 => ?_)
            · omega
            · exact t_throwW (pc := 35) (text := "the script has too many digits or is negative") ok ex tx thr_309_313 (by decide +kernel) dX6_runScript_35 dX6_runScript_38 dX6_runScript_39 dX6_runScript_42 dX6_runScript_45 ⟨by decide, by decide, by decide, by decide⟩ (rfl)
          · refine a_if_lt (pc := 32) (tgt := 46) ok dX6_runScript_32 (by decide) (by first | omega | (unfold rg; omega) | (simp only [rg] at *; omega) | exact bz_rg _ | grind [rg]) (fun c32 => ?_) (fun c32 => ?_)
            · omega
            · exact t_throwW (pc := 35) (text := "the script has too many digits or is negative") ok ex tx thr_309_313 (by decide +kernel) dX6_runScript_35 dX6_runScript_38 dX6_runScript_39 dX6_runScript_42 dX6_runScript_45 ⟨by decide, by decide, by decide, by decide⟩ (rfl)
    refine a_iload_n (pc := 0) ok dX6_runScript_0 rfl ?_
    refine a_iconst (pc := 1) ok dX6_runScript_1 ?_
    refine a_iconst (pc := 2) ok dX6_runScript_2 ?_
    refine a_callSv (pc := 3) ok [] dX6_runScript_3 mv6_76 miX6_mustBeWithin (c_mustBeWithin k1 hn (by unfold rg; omega) (by unfold rg; omega)) ⟨by decide, by decide, rfl, rfl, Nat.zero_le _, Nat.zero_le _⟩ rfl rfl (Nat.le_of_ble_eq_true rfl) rfl (by decide) rfl ?_
    refine a_iload_n (pc := 6) ok dX6_runScript_6 rfl ?_
    refine a_iconst (pc := 7) ok dX6_runScript_7 ?_
    refine a_icmp_ne (pc := 8) (tgt := 17) ok dX6_runScript_8 (by decide) (by first | omega | (unfold rg; omega) | (simp only [rg] at *; omega) | exact bz_rg _ | grind [rg]) (by first | omega | (unfold rg; omega) | (simp only [rg] at *; omega) | exact bz_rg _ | grind [rg]) (fun c8 => ?_) (fun c8 => ?_)
    · refine a_ldc2 (pc := 17) (z := 10000000000000000) (v := Int64.ofInt 10000000000000000) ok dX6_runScript_17 (ug5 22 (by decide +kernel) rfl) rfl ?_
      refine a_lstore (pc := 20) ok dX6_runScript_20 rfl (by rw [hN]; decide) ?_
      exact AW.cast (s22 10000000000000000 (by rw [if_neg (by omega), if_neg (by omega)])) rfl rfl rfl
    · refine a_ldc2 (pc := 11) (z := 100000000) (v := Int64.ofInt 100000000) ok dX6_runScript_11 (ug5 21 (by decide +kernel) rfl) rfl ?_
      refine a_goto (pc := 14) (tgt := 20) ok dX6_runScript_14 (by decide) ?_
      refine a_lstore (pc := 20) ok dX6_runScript_20 rfl (by rw [hN]; decide) ?_
      exact AW.cast (s22 100000000 (by rw [if_neg (by omega), if_pos (by omega)])) rfl rfl rfl
  · skip
    refine a_iload_n (pc := 0) ok dX6_runScript_0 rfl ?_
    refine a_iconst (pc := 1) ok dX6_runScript_1 ?_
    refine a_iconst (pc := 2) ok dX6_runScript_2 ?_
    refine t_callS (pc := 3) ok ex tx [] 0 dX6_runScript_3 (ug2 28 (by decide +kernel) rfl) mv6_76 miX6_mustBeWithin (cx_mustBeWithin hl k1 hn (by unfold rg; omega) (by unfold rg; omega)) ⟨by decide, by decide, rfl, rfl, by decide, by decide⟩ rfl rfl (Nat.le_of_ble_eq_true rfl) rfl rfl (by decide) (fun M9 h9 => by rw [h9]) (fun M9 h9 => ?_)
    subst h9
    exact rfl
set_option maxRecDepth 100000 in
theorem cx_simulate (hl : l.stackTraces = false) {x n : Int} (h : kIn n 1 60 ≠ 0) (hn : rg n) : CtX l yX6_simulate cX6_simulate 7 (some .int) rxsimulate [.ref 0, jv x, iv n] (clU kn nk S2 c1 r1 m1 ct1 B1 F1 Z1 Br1 Q1 Fo1 No1 gb S) nIA (fun M => M = (clU kn nk S2 c1 r1 m1 ct1 B1 F1 Z1 Br1 Q1 Fo1 No1 gb S)) := by
  refine CtX.of hl miX6_simulate (Nat.le_of_ble_eq_true rfl) ?_
  intro X hXl hN ok ex tx
  replace hl : X.1.2.1.stackTraces = false := by rw [hXl]; exact hl
  refine AW.cast (L2 := [some (.ref 0), some (jv x), none, some (iv n), none, none, none]) ?_ rfl rfl rfl
  have k1 : ¬ (1 ≤ n ∧ n ≤ 60) := fun z => h (if_pos z)
  refine a_iload_n (pc := 0) ok dX6_simulate_0 rfl ?_
  refine a_iconst (pc := 1) ok dX6_simulate_1 ?_
  refine a_bipush (pc := 2) ok dX6_simulate_2 (by decide) ?_
  refine t_callS (pc := 4) ok ex tx [] 0 dX6_simulate_4 (ug2 28 (by decide +kernel) rfl) mv6_76 miX6_mustBeWithin (cx_mustBeWithin hl k1 hn (by unfold rg; omega) (by unfold rg; omega)) ⟨by decide, by decide, rfl, rfl, by decide, by decide⟩ rfl rfl (Nat.le_of_ble_eq_true rfl) rfl rfl (by decide) (fun M9 h9 => by rw [h9]) (fun M9 h9 => ?_)
  subst h9
  exact rfl
set_option maxRecDepth 100000 in
theorem cx_plate (hl : l.stackTraces = false) {c r : Int} (h : kPlate c r ≠ 0) (hv : rg c) (hw : rg r) : CtX l yX6_plate cX6_plate 3 (some .int) rxplate [.ref 0, iv c, iv r] (clM (ringP 6) kn nk S gb cnt nx σ) nIA (fun M => M = (clM (ringP 6) kn nk S gb cnt nx σ)) := by
  refine CtX.of hl miX6_plate (Nat.le_of_ble_eq_true rfl) ?_
  intro X hXl hN ok ex tx
  replace hl : X.1.2.1.stackTraces = false := by rw [hXl]; exact hl
  refine AW.cast (L2 := [some (.ref 0), some (iv c), some (iv r)]) ?_ rfl rfl rfl
  by_cases k1 : 1 ≤ c ∧ c ≤ 12
  · have k2 : ¬ (1 ≤ r ∧ r ≤ 12) := fun z => h (if_pos ⟨k1, z⟩)
    refine a_iload_n (pc := 0) ok dX6_plate_0 rfl ?_
    refine a_iconst (pc := 1) ok dX6_plate_1 ?_
    refine a_bipush (pc := 2) ok dX6_plate_2 (by decide) ?_
    refine a_callSv (pc := 4) ok [] dX6_plate_4 mv6_76 miX6_mustBeWithin (c_mustBeWithin k1 hv (by unfold rg; omega) (by unfold rg; omega)) ⟨by decide, by decide, rfl, rfl, Nat.zero_le _, Nat.zero_le _⟩ rfl rfl (Nat.le_of_ble_eq_true rfl) rfl (by decide) rfl ?_
    refine a_iload_n (pc := 7) ok dX6_plate_7 rfl ?_
    refine a_iconst (pc := 8) ok dX6_plate_8 ?_
    refine a_bipush (pc := 9) ok dX6_plate_9 (by decide) ?_
    refine t_callS (pc := 11) ok ex tx [] 0 dX6_plate_11 (ug2 28 (by decide +kernel) rfl) mv6_76 miX6_mustBeWithin (cx_mustBeWithin hl k2 hw (by unfold rg; omega) (by unfold rg; omega)) ⟨by decide, by decide, rfl, rfl, by decide, by decide⟩ rfl rfl (Nat.le_of_ble_eq_true rfl) rfl rfl (by decide) (fun M9 h9 => by rw [h9]) (fun M9 h9 => ?_)
    subst h9
    exact rfl
  · skip
    refine a_iload_n (pc := 0) ok dX6_plate_0 rfl ?_
    refine a_iconst (pc := 1) ok dX6_plate_1 ?_
    refine a_bipush (pc := 2) ok dX6_plate_2 (by decide) ?_
    refine t_callS (pc := 4) ok ex tx [] 0 dX6_plate_4 (ug2 28 (by decide +kernel) rfl) mv6_76 miX6_mustBeWithin (cx_mustBeWithin hl k1 hv (by unfold rg; omega) (by unfold rg; omega)) ⟨by decide, by decide, rfl, rfl, by decide, by decide⟩ rfl rfl (Nat.le_of_ble_eq_true rfl) rfl rfl (by decide) (fun M9 h9 => by rw [h9]) (fun M9 h9 => ?_)
    subst h9
    exact rfl
set_option maxRecDepth 100000 in
theorem cx_cell1 (hl : l.stackTraces = false) {x y g : Int} (hS : SV S) (h : kPut S x y g = 1) (hx : rg x) (hy : rg y) : CtX l yX6_cell cX6_cell 4 (some .int) rxcell [.ref 0, iv x, iv y, iv g] (clM (ringP 6) kn nk S gb cnt nx σ) nIO (fun M => M = (clM (ringP 6) kn nk S gb cnt nx σ)) := by
  refine CtX.of hl miX6_cell (Nat.le_of_ble_eq_true rfl) ?_
  intro X hXl hN ok ex tx
  replace hl : X.1.2.1.stackTraces = false := by rw [hXl]; exact hl
  refine AW.cast (L2 := [some (.ref 0), some (iv x), some (iv y), some (iv g)]) ?_ rfl rfl rfl
  have hd := hS.1
  have k1 : ¬ inP (sC S) (sR S) x y := by
    unfold kPut at h
    repeat' split at h
    all_goals (intro z; obtain ⟨z1, z2, z3, z4⟩ := z; omega)
  refine a_aload_n (pc := 0) ok dX6_cell_0 rfl ?_
  refine a_getf (pc := 1) ok dX6_cell_1 fl6_19 rfl rfl ?_
  refine a_iload_n (pc := 4) ok dX6_cell_4 rfl ?_
  refine a_iload_n (pc := 5) ok dX6_cell_5 rfl ?_
  refine a_callVp (pc := 6) ok [1, 2, 3, 4] dX6_cell_6 mv6_199 miX4_hasCell (c_hasCell hd hx hy) ⟨by decide, by decide, rfl, rfl, Nat.zero_le _, Nat.zero_le _⟩ rfl rfl (Nat.le_of_ble_eq_true rfl) rfl (by decide) rfl rfl ?_
  refine t_callS (pc := 9) ok ex tx [] 0 dX6_cell_9 (ug3 170 (by decide +kernel) rfl) mv6_203 miX6_mustExist (cx_mustExist hl (bz_neg k1)) ⟨by decide, by decide, rfl, rfl, by decide, by decide⟩ rfl rfl (Nat.le_of_ble_eq_true rfl) rfl rfl (by decide) (fun M9 h9 => by rw [h9]) (fun M9 h9 => ?_)
  subst h9
  exact rfl
set_option maxRecDepth 100000 in
theorem cx_cell2 (hl : l.stackTraces = false) {x y g : Int} (hS : SV S) (h : kPut S x y g = 2) (hx : rg x) (hy : rg y) (hg : rg g) : CtX l yX6_cell cX6_cell 4 (some .int) rxcell [.ref 0, iv x, iv y, iv g] (clM (ringP 6) kn nk S gb cnt nx σ) nIA (fun M => M = (clM (ringP 6) kn nk S gb cnt nx σ)) := by
  refine CtX.of hl miX6_cell (Nat.le_of_ble_eq_true rfl) ?_
  intro X hXl hN ok ex tx
  replace hl : X.1.2.1.stackTraces = false := by rw [hXl]; exact hl
  refine AW.cast (L2 := [some (.ref 0), some (iv x), some (iv y), some (iv g)]) ?_ rfl rfl rfl
  have hd := hS.1
  have k1 : inP (sC S) (sR S) x y ∧ ¬ (0 ≤ g ∧ g ≤ 99) := by
    unfold kPut at h
    repeat' split at h
    all_goals omega
  refine a_aload_n (pc := 0) ok dX6_cell_0 rfl ?_
  refine a_getf (pc := 1) ok dX6_cell_1 fl6_19 rfl rfl ?_
  refine a_iload_n (pc := 4) ok dX6_cell_4 rfl ?_
  refine a_iload_n (pc := 5) ok dX6_cell_5 rfl ?_
  refine a_callVp (pc := 6) ok [1, 2, 3, 4] dX6_cell_6 mv6_199 miX4_hasCell (c_hasCell hd hx hy) ⟨by decide, by decide, rfl, rfl, Nat.zero_le _, Nat.zero_le _⟩ rfl rfl (Nat.le_of_ble_eq_true rfl) rfl (by decide) rfl rfl ?_
  refine a_callSv (pc := 9) ok [] dX6_cell_9 mv6_203 miX6_mustExist (c_mustExist (bz_pos k1.1)) ⟨by decide, by decide, rfl, rfl, Nat.zero_le _, Nat.zero_le _⟩ rfl rfl (Nat.le_of_ble_eq_true rfl) rfl (by decide) rfl ?_
  refine a_iload_n (pc := 12) ok dX6_cell_12 rfl ?_
  refine a_iconst (pc := 13) ok dX6_cell_13 ?_
  refine a_bipush (pc := 14) ok dX6_cell_14 (by decide) ?_
  refine t_callS (pc := 16) ok ex tx [] 0 dX6_cell_16 (ug2 28 (by decide +kernel) rfl) mv6_76 miX6_mustBeWithin (cx_mustBeWithin hl k1.2 hg (by unfold rg; omega) (by unfold rg; omega)) ⟨by decide, by decide, rfl, rfl, by decide, by decide⟩ rfl rfl (Nat.le_of_ble_eq_true rfl) rfl rfl (by decide) (fun M9 h9 => by rw [h9]) (fun M9 h9 => ?_)
  subst h9
  exact rfl
set_option maxRecDepth 100000 in
theorem cx_box1 (hl : l.stackTraces = false) {x0 x1 y0 y1 g : Int} (hS : SV S) (h : kBox S x0 x1 y0 y1 g = 1) (h1 : rg x0) (h2 : rg x1) (h3 : rg y0) (h4 : rg y1) : CtX l yX6_box cX6_box 6 (some .int) rxbox [.ref 0, iv x0, iv x1, iv y0, iv y1, iv g] (clM (ringP 6) kn nk S gb cnt nx σ) nIO (fun M => M = (clM (ringP 6) kn nk S gb cnt nx σ)) := by
  refine CtX.of hl miX6_box (Nat.le_of_ble_eq_true rfl) ?_
  intro X hXl hN ok ex tx
  replace hl : X.1.2.1.stackTraces = false := by rw [hXl]; exact hl
  refine AW.cast (L2 := [some (.ref 0), some (iv x0), some (iv x1), some (iv y0), some (iv y1), some (iv g)]) ?_ rfl rfl rfl
  have hd := hS.1
  have k1 : ¬ (inP (sC S) (sR S) x0 y0 ∧ inP (sC S) (sR S) x1 y1) := by
    unfold kBox at h
    repeat' split at h
    all_goals (intro z; obtain ⟨⟨z1, z2, z3, z4⟩, z5, z6, z7, z8⟩ := z; omega)
  refine a_aload_n (pc := 0) ok dX6_box_0 rfl ?_
  refine a_getf (pc := 1) ok dX6_box_1 fl6_19 rfl rfl ?_
  refine a_iload_n (pc := 4) ok dX6_box_4 rfl ?_
  refine a_iload_n (pc := 5) ok dX6_box_5 rfl ?_
  refine a_callVp (pc := 6) ok [1, 2, 3, 4] dX6_box_6 mv6_199 miX4_hasCell (c_hasCell hd h1 h3) ⟨by decide, by decide, rfl, rfl, Nat.zero_le _, Nat.zero_le _⟩ rfl rfl (Nat.le_of_ble_eq_true rfl) rfl (by decide) rfl rfl ?_
  refine a_if_eq (pc := 9) (tgt := 29) ok dX6_box_9 (by decide) (by exact bz_rg _) (fun c9 => ?_) (fun c9 => ?_)
  · refine a_iconst (pc := 29) ok dX6_box_29 ?_
    refine t_callS (pc := 30) ok ex tx [] 0 dX6_box_30 (ug3 170 (by decide +kernel) rfl) mv6_203 miX6_mustExist (cx_mustExist hl rfl) ⟨by decide, by decide, rfl, rfl, by decide, by decide⟩ rfl rfl (Nat.le_of_ble_eq_true rfl) rfl rfl (by decide) (fun M9 h9 => by rw [h9]) (fun M9 h9 => ?_)
    subst h9
    exact rfl
  · refine a_aload_n (pc := 12) ok dX6_box_12 rfl ?_
    refine a_getf (pc := 13) ok dX6_box_13 fl6_19 rfl rfl ?_
    refine a_iload_n (pc := 16) ok dX6_box_16 rfl ?_
    refine a_iload (pc := 17) ok dX6_box_17 rfl ?_
    refine a_callVp (pc := 19) ok [1, 2, 3, 4] dX6_box_19 mv6_199 miX4_hasCell (c_hasCell hd h2 h4) ⟨by decide, by decide, rfl, rfl, Nat.zero_le _, Nat.zero_le _⟩ rfl rfl (Nat.le_of_ble_eq_true rfl) rfl (by decide) rfl rfl ?_
    refine a_if_eq (pc := 22) (tgt := 29) ok dX6_box_22 (by decide) (by exact bz_rg _) (fun c22 => ?_) (fun c22 => ?_)
    · refine a_iconst (pc := 29) ok dX6_box_29 ?_
      refine t_callS (pc := 30) ok ex tx [] 0 dX6_box_30 (ug3 170 (by decide +kernel) rfl) mv6_203 miX6_mustExist (cx_mustExist hl rfl) ⟨by decide, by decide, rfl, rfl, by decide, by decide⟩ rfl rfl (Nat.le_of_ble_eq_true rfl) rfl rfl (by decide) (fun M9 h9 => by rw [h9]) (fun M9 h9 => ?_)
      subst h9
      exact rfl
    · exact absurd ⟨bz_y c9, bz_y c22⟩ k1
set_option maxRecDepth 100000 in
theorem cx_box2 (hl : l.stackTraces = false) {x0 x1 y0 y1 g : Int} (hS : SV S) (h : kBox S x0 x1 y0 y1 g = 2) (h1 : rg x0) (h2 : rg x1) (h3 : rg y0) (h4 : rg y1) (hg : rg g) : CtX l yX6_box cX6_box 6 (some .int) rxbox [.ref 0, iv x0, iv x1, iv y0, iv y1, iv g] (clM (ringP 6) kn nk S gb cnt nx σ) nIA (fun M => M = (clM (ringP 6) kn nk S gb cnt nx σ)) := by
  refine CtX.of hl miX6_box (Nat.le_of_ble_eq_true rfl) ?_
  intro X hXl hN ok ex tx
  replace hl : X.1.2.1.stackTraces = false := by rw [hXl]; exact hl
  refine AW.cast (L2 := [some (.ref 0), some (iv x0), some (iv x1), some (iv y0), some (iv y1), some (iv g)]) ?_ rfl rfl rfl
  have hd := hS.1
  have k1 : inP (sC S) (sR S) x0 y0 ∧ inP (sC S) (sR S) x1 y1 ∧ ((0 ≤ g ∧ g ≤ 99) → ¬ (x0 ≤ x1 ∧ y0 ≤ y1)) := by
    unfold kBox at h
    split at h
    · omega
    · rename_i z
      split at h
      · omega
      · rename_i z2
        have a1 : inP (sC S) (sR S) x0 y0 := by refine ⟨?_, ?_, ?_, ?_⟩ <;> omega
        have a2 : inP (sC S) (sR S) x1 y1 := by refine ⟨?_, ?_, ?_, ?_⟩ <;> omega
        exact ⟨a1, a2, fun y1 y2 => z2 ⟨y1, a1, a2, y2⟩⟩
  by_cases k2 : 0 ≤ g ∧ g ≤ 99
  · have k3 := k1.2.2 k2
    refine a_aload_n (pc := 0) ok dX6_box_0 rfl ?_
    refine a_getf (pc := 1) ok dX6_box_1 fl6_19 rfl rfl ?_
    refine a_iload_n (pc := 4) ok dX6_box_4 rfl ?_
    refine a_iload_n (pc := 5) ok dX6_box_5 rfl ?_
    refine a_callVp (pc := 6) ok [1, 2, 3, 4] dX6_box_6 mv6_199 miX4_hasCell (c_hasCell hd h1 h3) ⟨by decide, by decide, rfl, rfl, Nat.zero_le _, Nat.zero_le _⟩ rfl rfl (Nat.le_of_ble_eq_true rfl) rfl (by decide) rfl rfl ?_
    refine a_if_eq (pc := 9) (tgt := 29) ok dX6_box_9 (by decide) (by exact bz_rg _) (fun c9 => ?_) (fun c9 => ?_)
    · exact False.elim (bz_0.mp c9 k1.1)
    · refine a_aload_n (pc := 12) ok dX6_box_12 rfl ?_
      refine a_getf (pc := 13) ok dX6_box_13 fl6_19 rfl rfl ?_
      refine a_iload_n (pc := 16) ok dX6_box_16 rfl ?_
      refine a_iload (pc := 17) ok dX6_box_17 rfl ?_
      refine a_callVp (pc := 19) ok [1, 2, 3, 4] dX6_box_19 mv6_199 miX4_hasCell (c_hasCell hd h2 h4) ⟨by decide, by decide, rfl, rfl, Nat.zero_le _, Nat.zero_le _⟩ rfl rfl (Nat.le_of_ble_eq_true rfl) rfl (by decide) rfl rfl ?_
      refine a_if_eq (pc := 22) (tgt := 29) ok dX6_box_22 (by decide) (by exact bz_rg _) (fun c22 => ?_) (fun c22 => ?_)
      · exact False.elim (bz_0.mp c22 k1.2.1)
      · refine a_iconst (pc := 25) ok dX6_box_25 ?_
        refine a_goto (pc := 26) (tgt := 30) ok dX6_box_26 (by decide) ?_
        refine a_callSv (pc := 30) ok [] dX6_box_30 mv6_203 miX6_mustExist (c_mustExist rfl) ⟨by decide, by decide, rfl, rfl, Nat.zero_le _, Nat.zero_le _⟩ rfl rfl (Nat.le_of_ble_eq_true rfl) rfl (by decide) rfl ?_
        refine a_iload (pc := 33) ok dX6_box_33 rfl ?_
        refine a_iconst (pc := 35) ok dX6_box_35 ?_
        refine a_bipush (pc := 36) ok dX6_box_36 (by decide) ?_
        refine a_callSv (pc := 38) ok [] dX6_box_38 mv6_76 miX6_mustBeWithin (c_mustBeWithin k2 hg (by unfold rg; omega) (by unfold rg; omega)) ⟨by decide, by decide, rfl, rfl, Nat.zero_le _, Nat.zero_le _⟩ rfl rfl (Nat.le_of_ble_eq_true rfl) rfl (by decide) rfl ?_
        refine a_iload_n (pc := 41) ok dX6_box_41 rfl ?_
        refine a_iload_n (pc := 42) ok dX6_box_42 rfl ?_
        refine a_icmp_lt (pc := 43) (tgt := 52) ok dX6_box_43 (by decide) (by first | omega | (unfold rg; omega) | (simp only [rg] at *; omega) | exact bz_rg _ | grind [rg]) (by first | omega | (unfold rg; omega) | (simp only [rg] at *; omega) | exact bz_rg _ | grind [rg]) (fun c43 => ?_) (fun c43 => ?_)
        · exact t_throwW (pc := 52) (text := "the box ends before it begins") ok ex tx thr_309_313 (by decide +kernel) dX6_box_52 dX6_box_55 dX6_box_56 dX6_box_59 dX6_box_62 ⟨by decide, by decide, by decide, by decide⟩ (rfl)
        · refine a_iload (pc := 46) ok dX6_box_46 rfl ?_
          refine a_iload_n (pc := 48) ok dX6_box_48 rfl ?_
          refine a_icmp_ge (pc := 49) (tgt := 63) ok dX6_box_49 (by decide) (by first | omega | (unfold rg; omega) | (simp only [rg] at *; omega) | exact bz_rg _ | grind [rg]) (by first | omega | (unfold rg; omega) | (simp only [rg] at *; omega) | exact bz_rg _ | grind [rg]) (fun c49 => ?_) (fun c49 => ?_)
          · omega
          · exact t_throwW (pc := 52) (text := "the box ends before it begins") ok ex tx thr_309_313 (by decide +kernel) dX6_box_52 dX6_box_55 dX6_box_56 dX6_box_59 dX6_box_62 ⟨by decide, by decide, by decide, by decide⟩ (rfl)
  · skip
    refine a_aload_n (pc := 0) ok dX6_box_0 rfl ?_
    refine a_getf (pc := 1) ok dX6_box_1 fl6_19 rfl rfl ?_
    refine a_iload_n (pc := 4) ok dX6_box_4 rfl ?_
    refine a_iload_n (pc := 5) ok dX6_box_5 rfl ?_
    refine a_callVp (pc := 6) ok [1, 2, 3, 4] dX6_box_6 mv6_199 miX4_hasCell (c_hasCell hd h1 h3) ⟨by decide, by decide, rfl, rfl, Nat.zero_le _, Nat.zero_le _⟩ rfl rfl (Nat.le_of_ble_eq_true rfl) rfl (by decide) rfl rfl ?_
    refine a_if_eq (pc := 9) (tgt := 29) ok dX6_box_9 (by decide) (by exact bz_rg _) (fun c9 => ?_) (fun c9 => ?_)
    · exact False.elim (bz_0.mp c9 k1.1)
    · refine a_aload_n (pc := 12) ok dX6_box_12 rfl ?_
      refine a_getf (pc := 13) ok dX6_box_13 fl6_19 rfl rfl ?_
      refine a_iload_n (pc := 16) ok dX6_box_16 rfl ?_
      refine a_iload (pc := 17) ok dX6_box_17 rfl ?_
      refine a_callVp (pc := 19) ok [1, 2, 3, 4] dX6_box_19 mv6_199 miX4_hasCell (c_hasCell hd h2 h4) ⟨by decide, by decide, rfl, rfl, Nat.zero_le _, Nat.zero_le _⟩ rfl rfl (Nat.le_of_ble_eq_true rfl) rfl (by decide) rfl rfl ?_
      refine a_if_eq (pc := 22) (tgt := 29) ok dX6_box_22 (by decide) (by exact bz_rg _) (fun c22 => ?_) (fun c22 => ?_)
      · exact False.elim (bz_0.mp c22 k1.2.1)
      · refine a_iconst (pc := 25) ok dX6_box_25 ?_
        refine a_goto (pc := 26) (tgt := 30) ok dX6_box_26 (by decide) ?_
        refine a_callSv (pc := 30) ok [] dX6_box_30 mv6_203 miX6_mustExist (c_mustExist rfl) ⟨by decide, by decide, rfl, rfl, Nat.zero_le _, Nat.zero_le _⟩ rfl rfl (Nat.le_of_ble_eq_true rfl) rfl (by decide) rfl ?_
        refine a_iload (pc := 33) ok dX6_box_33 rfl ?_
        refine a_iconst (pc := 35) ok dX6_box_35 ?_
        refine a_bipush (pc := 36) ok dX6_box_36 (by decide) ?_
        refine t_callS (pc := 38) ok ex tx [] 0 dX6_box_38 (ug2 28 (by decide +kernel) rfl) mv6_76 miX6_mustBeWithin (cx_mustBeWithin hl k2 hg (by unfold rg; omega) (by unfold rg; omega)) ⟨by decide, by decide, rfl, rfl, by decide, by decide⟩ rfl rfl (Nat.le_of_ble_eq_true rfl) rfl rfl (by decide) (fun M9 h9 => by rw [h9]) (fun M9 h9 => ?_)
        subst h9
        exact rfl
set_option maxRecDepth 100000 in
theorem cx_threshold1 (hl : l.stackTraces = false) {v b : Int} (h : kPart S v b = 1) (hv : rg v) : CtX l yX6_threshold cX6_threshold 3 (some .int) rxthreshold [.ref 0, iv v, iv b] (clM (ringP 6) kn nk S gb cnt nx σ) nIA (fun M => M = (clM (ringP 6) kn nk S gb cnt nx σ)) := by
  refine CtX.of hl miX6_threshold (Nat.le_of_ble_eq_true rfl) ?_
  intro X hXl hN ok ex tx
  replace hl : X.1.2.1.stackTraces = false := by rw [hXl]; exact hl
  refine AW.cast (L2 := [some (.ref 0), some (iv v), some (iv b)]) ?_ rfl rfl rfl
  have k1 : ¬ (1 ≤ v ∧ v ≤ 99) := by
    unfold kPart at h
    split at h
    · assumption
    · split at h <;> omega
  refine a_iload_n (pc := 0) ok dX6_threshold_0 rfl ?_
  refine a_iconst (pc := 1) ok dX6_threshold_1 ?_
  refine a_bipush (pc := 2) ok dX6_threshold_2 (by decide) ?_
  refine t_callS (pc := 4) ok ex tx [] 0 dX6_threshold_4 (ug2 28 (by decide +kernel) rfl) mv6_76 miX6_mustBeWithin (cx_mustBeWithin hl k1 hv (by unfold rg; omega) (by unfold rg; omega)) ⟨by decide, by decide, rfl, rfl, by decide, by decide⟩ rfl rfl (Nat.le_of_ble_eq_true rfl) rfl rfl (by decide) (fun M9 h9 => by rw [h9]) (fun M9 h9 => ?_)
  subst h9
  exact rfl
set_option maxRecDepth 100000 in
theorem cx_threshold2 (hl : l.stackTraces = false) {v b : Int} (hS : SV S) (h : kPart S v b = 2) (hv : rg v) (hb : rg b) : CtX l yX6_threshold cX6_threshold 3 (some .int) rxthreshold [.ref 0, iv v, iv b] (clM (ringP 6) kn nk S gb cnt nx σ) nIS (fun M => M = (clM (ringP 6) kn nk S gb cnt nx σ)) := by
  refine CtX.of hl miX6_threshold (Nat.le_of_ble_eq_true rfl) ?_
  intro X hXl hN ok ex tx
  replace hl : X.1.2.1.stackTraces = false := by rw [hXl]; exact hl
  refine AW.cast (L2 := [some (.ref 0), some (iv v), some (iv b)]) ?_ rfl rfl rfl
  have k1 : (1 ≤ v ∧ v ≤ 99) ∧ ¬ canT (sT S) (sN S) v b = true := by
    unfold kPart at h
    split at h
    · omega
    · rename_i z
      split at h
      · omega
      · rename_i z2; exact ⟨Decidable.not_not.mp z, z2⟩
  refine a_iload_n (pc := 0) ok dX6_threshold_0 rfl ?_
  refine a_iconst (pc := 1) ok dX6_threshold_1 ?_
  refine a_bipush (pc := 2) ok dX6_threshold_2 (by decide) ?_
  refine a_callSv (pc := 4) ok [] dX6_threshold_4 mv6_76 miX6_mustBeWithin (c_mustBeWithin k1.1 hv (by unfold rg; omega) (by unfold rg; omega)) ⟨by decide, by decide, rfl, rfl, Nat.zero_le _, Nat.zero_le _⟩ rfl rfl (Nat.le_of_ble_eq_true rfl) rfl (by decide) rfl ?_
  refine a_aload_n (pc := 7) ok dX6_threshold_7 rfl ?_
  refine a_getf (pc := 8) ok dX6_threshold_8 fl6_19 rfl rfl ?_
  refine a_iload_n (pc := 11) ok dX6_threshold_11 rfl ?_
  refine a_iload_n (pc := 12) ok dX6_threshold_12 rfl ?_
  refine a_callVp (pc := 13) ok [1, 2, 3, 4] dX6_threshold_13 mv6_318 miX4_canChangeThreshold (c_canChangeThreshold hS.2.2.2.2.1 (SV_T99 hS) hv hb) ⟨by decide, by decide, rfl, rfl, Nat.zero_le _, Nat.zero_le _⟩ rfl rfl (Nat.le_of_ble_eq_true rfl) rfl (by decide) rfl rfl ?_
  refine a_if_ne (pc := 16) (tgt := 30) ok dX6_threshold_16 (by decide) (by exact bz_rg _) (fun c16 => ?_) (fun c16 => ?_)
  · exact absurd (bz_y c16) k1.2
  · exact t_throwW (pc := 19) (text := "the threshold cannot be put in or taken out") ok ex tx thr_84_88 (by decide +kernel) dX6_threshold_19 dX6_threshold_22 dX6_threshold_23 dX6_threshold_26 dX6_threshold_29 ⟨by decide, by decide, by decide, by decide⟩ (rfl)
set_option maxRecDepth 100000 in
theorem cx_share (hl : l.stackTraces = false) {v : Int} (h : kIn v 0 5 ≠ 0) (hv : rg v) : CtX l yX6_share cX6_share 2 (some .int) rxshare [.ref 0, iv v] (clM (ringP 6) kn nk S gb cnt nx σ) nIA (fun M => M = (clM (ringP 6) kn nk S gb cnt nx σ)) := by
  refine CtX.of hl miX6_share (Nat.le_of_ble_eq_true rfl) ?_
  intro X hXl hN ok ex tx
  replace hl : X.1.2.1.stackTraces = false := by rw [hXl]; exact hl
  refine AW.cast (L2 := [some (.ref 0), some (iv v)]) ?_ rfl rfl rfl
  have k1 : ¬ (0 ≤ v ∧ v ≤ 5) := fun z => h (if_pos z)
  refine a_iload_n (pc := 0) ok dX6_share_0 rfl ?_
  refine a_iconst (pc := 1) ok dX6_share_1 ?_
  refine a_iconst (pc := 2) ok dX6_share_2 ?_
  refine t_callS (pc := 3) ok ex tx [] 0 dX6_share_3 (ug2 28 (by decide +kernel) rfl) mv6_76 miX6_mustBeWithin (cx_mustBeWithin hl k1 hv (by unfold rg; omega) (by unfold rg; omega)) ⟨by decide, by decide, rfl, rfl, by decide, by decide⟩ rfl rfl (Nat.le_of_ble_eq_true rfl) rfl rfl (by decide) (fun M9 h9 => by rw [h9]) (fun M9 h9 => ?_)
  subst h9
  exact rfl
set_option maxRecDepth 100000 in
theorem cx_least (hl : l.stackTraces = false) {v : Int} (h : kIn v 1 30 ≠ 0) (hv : rg v) : CtX l yX6_least cX6_least 3 (some .int) rxleast [.ref 0, iv v] (clM (ringP 6) kn nk S gb cnt nx σ) nIA (fun M => M = (clM (ringP 6) kn nk S gb cnt nx σ)) := by
  refine CtX.of hl miX6_least (Nat.le_of_ble_eq_true rfl) ?_
  intro X hXl hN ok ex tx
  replace hl : X.1.2.1.stackTraces = false := by rw [hXl]; exact hl
  refine AW.cast (L2 := [some (.ref 0), some (iv v), none]) ?_ rfl rfl rfl
  have k1 : ¬ (1 ≤ v ∧ v ≤ 30) := fun z => h (if_pos z)
  refine a_iload_n (pc := 0) ok dX6_least_0 rfl ?_
  refine a_iconst (pc := 1) ok dX6_least_1 ?_
  refine a_bipush (pc := 2) ok dX6_least_2 (by decide) ?_
  refine t_callS (pc := 4) ok ex tx [] 0 dX6_least_4 (ug2 28 (by decide +kernel) rfl) mv6_76 miX6_mustBeWithin (cx_mustBeWithin hl k1 hv (by unfold rg; omega) (by unfold rg; omega)) ⟨by decide, by decide, rfl, rfl, by decide, by decide⟩ rfl rfl (Nat.le_of_ble_eq_true rfl) rfl rfl (by decide) (fun M9 h9 => by rw [h9]) (fun M9 h9 => ?_)
  subst h9
  exact rfl
set_option maxRecDepth 100000 in
theorem cx_line (hl : l.stackTraces = false) {v : Int} (h : kIn v 0 9 ≠ 0) (hv : rg v) : CtX l yX6_line cX6_line 3 (some .int) rxline [.ref 0, iv v] (clM (ringP 6) kn nk S gb cnt nx σ) nIA (fun M => M = (clM (ringP 6) kn nk S gb cnt nx σ)) := by
  refine CtX.of hl miX6_line (Nat.le_of_ble_eq_true rfl) ?_
  intro X hXl hN ok ex tx
  replace hl : X.1.2.1.stackTraces = false := by rw [hXl]; exact hl
  refine AW.cast (L2 := [some (.ref 0), some (iv v), none]) ?_ rfl rfl rfl
  have k1 : ¬ (0 ≤ v ∧ v ≤ 9) := fun z => h (if_pos z)
  refine a_iload_n (pc := 0) ok dX6_line_0 rfl ?_
  refine a_iconst (pc := 1) ok dX6_line_1 ?_
  refine a_bipush (pc := 2) ok dX6_line_2 (by decide) ?_
  refine t_callS (pc := 4) ok ex tx [] 0 dX6_line_4 (ug2 28 (by decide +kernel) rfl) mv6_76 miX6_mustBeWithin (cx_mustBeWithin hl k1 hv (by unfold rg; omega) (by unfold rg; omega)) ⟨by decide, by decide, rfl, rfl, by decide, by decide⟩ rfl rfl (Nat.le_of_ble_eq_true rfl) rfl rfl (by decide) (fun M9 h9 => by rw [h9]) (fun M9 h9 => ?_)
  subst h9
  exact rfl
set_option maxRecDepth 100000 in
theorem cx_spread (hl : l.stackTraces = false) {v : Int} (h : kIn v 1 49 ≠ 0) (hv : rg v) : CtX l yX6_spread cX6_spread 2 (some .int) rxspread [.ref 0, iv v] (clM (ringP 6) kn nk S gb cnt nx σ) nIA (fun M => M = (clM (ringP 6) kn nk S gb cnt nx σ)) := by
  refine CtX.of hl miX6_spread (Nat.le_of_ble_eq_true rfl) ?_
  intro X hXl hN ok ex tx
  replace hl : X.1.2.1.stackTraces = false := by rw [hXl]; exact hl
  refine AW.cast (L2 := [some (.ref 0), some (iv v)]) ?_ rfl rfl rfl
  have k1 : ¬ (1 ≤ v ∧ v ≤ 49) := fun z => h (if_pos z)
  refine a_iload_n (pc := 0) ok dX6_spread_0 rfl ?_
  refine a_iconst (pc := 1) ok dX6_spread_1 ?_
  refine a_bipush (pc := 2) ok dX6_spread_2 (by decide) ?_
  refine t_callS (pc := 4) ok ex tx [] 0 dX6_spread_4 (ug2 28 (by decide +kernel) rfl) mv6_76 miX6_mustBeWithin (cx_mustBeWithin hl k1 hv (by unfold rg; omega) (by unfold rg; omega)) ⟨by decide, by decide, rfl, rfl, by decide, by decide⟩ rfl rfl (Nat.le_of_ble_eq_true rfl) rfl rfl (by decide) (fun M9 h9 => by rw [h9]) (fun M9 h9 => ?_)
  subst h9
  exact rfl
set_option maxRecDepth 100000 in
theorem cx_noise (hl : l.stackTraces = false) {x v : Int} (h : kIn v 1 50 ≠ 0) (hv : rg v) : CtX l yX6_noise cX6_noise 4 (some .int) rxnoise [.ref 0, jv x, iv v] (clM (ringP 6) kn nk S gb cnt nx σ) nIA (fun M => M = (clM (ringP 6) kn nk S gb cnt nx σ)) := by
  refine CtX.of hl miX6_noise (Nat.le_of_ble_eq_true rfl) ?_
  intro X hXl hN ok ex tx
  replace hl : X.1.2.1.stackTraces = false := by rw [hXl]; exact hl
  refine AW.cast (L2 := [some (.ref 0), some (jv x), none, some (iv v)]) ?_ rfl rfl rfl
  have k1 : ¬ (1 ≤ v ∧ v ≤ 50) := fun z => h (if_pos z)
  refine a_iload_n (pc := 0) ok dX6_noise_0 rfl ?_
  refine a_iconst (pc := 1) ok dX6_noise_1 ?_
  refine a_bipush (pc := 2) ok dX6_noise_2 (by decide) ?_
  refine t_callS (pc := 4) ok ex tx [] 0 dX6_noise_4 (ug2 28 (by decide +kernel) rfl) mv6_76 miX6_mustBeWithin (cx_mustBeWithin hl k1 hv (by unfold rg; omega) (by unfold rg; omega)) ⟨by decide, by decide, rfl, rfl, by decide, by decide⟩ rfl rfl (Nat.le_of_ble_eq_true rfl) rfl rfl (by decide) (fun M9 h9 => by rw [h9]) (fun M9 h9 => ?_)
  subst h9
  exact rfl
set_option maxRecDepth 100000 in
theorem cx_hatch1 (hl : l.stackTraces = false) {b v : Int} (h : kHatch b v = 1) (hb : rg b) : CtX l yX6_hatch cX6_hatch 4 (some .int) rxhatch [.ref 0, iv b, iv v] (clM (ringP 6) kn nk S gb cnt nx σ) nIO (fun M => M = (clM (ringP 6) kn nk S gb cnt nx σ)) := by
  refine CtX.of hl miX6_hatch (Nat.le_of_ble_eq_true rfl) ?_
  intro X hXl hN ok ex tx
  replace hl : X.1.2.1.stackTraces = false := by rw [hXl]; exact hl
  refine AW.cast (L2 := [some (.ref 0), some (iv b), some (iv v), none]) ?_ rfl rfl rfl
  have k1 : ¬ (0 ≤ b ∧ b ≤ 5) := by
    unfold kHatch at h
    repeat' split at h
    all_goals omega
  refine a_iload_n (pc := 0) ok dX6_hatch_0 rfl ?_
  refine a_iconst (pc := 1) ok dX6_hatch_1 ?_
  refine a_iconst (pc := 2) ok dX6_hatch_2 ?_
  refine a_callSp (pc := 3) ok [] dX6_hatch_3 mv6_330 miX6_isWithin (c_isWithin hb (by unfold rg; omega) (by unfold rg; omega)) ⟨by decide, by decide, rfl, rfl, Nat.zero_le _, Nat.zero_le _⟩ rfl rfl (Nat.le_of_ble_eq_true rfl) rfl (by decide) ?_
  refine t_callS (pc := 6) ok ex tx [] 0 dX6_hatch_6 (ug3 170 (by decide +kernel) rfl) mv6_203 miX6_mustExist (cx_mustExist hl (bz_neg k1)) ⟨by decide, by decide, rfl, rfl, by decide, by decide⟩ rfl rfl (Nat.le_of_ble_eq_true rfl) rfl rfl (by decide) (fun M9 h9 => by rw [h9]) (fun M9 h9 => ?_)
  subst h9
  exact rfl
set_option maxRecDepth 100000 in
theorem cx_hatch2 (hl : l.stackTraces = false) {b v : Int} (h : kHatch b v = 2) (hb : rg b) (hv : rg v) : CtX l yX6_hatch cX6_hatch 4 (some .int) rxhatch [.ref 0, iv b, iv v] (clM (ringP 6) kn nk S gb cnt nx σ) nIA (fun M => M = (clM (ringP 6) kn nk S gb cnt nx σ)) := by
  refine CtX.of hl miX6_hatch (Nat.le_of_ble_eq_true rfl) ?_
  intro X hXl hN ok ex tx
  replace hl : X.1.2.1.stackTraces = false := by rw [hXl]; exact hl
  refine AW.cast (L2 := [some (.ref 0), some (iv b), some (iv v), none]) ?_ rfl rfl rfl
  have k1 : (0 ≤ b ∧ b ≤ 5) ∧ ¬ (0 ≤ v ∧ v ≤ 9) := by
    unfold kHatch at h
    repeat' split at h
    all_goals omega
  refine a_iload_n (pc := 0) ok dX6_hatch_0 rfl ?_
  refine a_iconst (pc := 1) ok dX6_hatch_1 ?_
  refine a_iconst (pc := 2) ok dX6_hatch_2 ?_
  refine a_callSp (pc := 3) ok [] dX6_hatch_3 mv6_330 miX6_isWithin (c_isWithin hb (by unfold rg; omega) (by unfold rg; omega)) ⟨by decide, by decide, rfl, rfl, Nat.zero_le _, Nat.zero_le _⟩ rfl rfl (Nat.le_of_ble_eq_true rfl) rfl (by decide) ?_
  refine a_callSv (pc := 6) ok [] dX6_hatch_6 mv6_203 miX6_mustExist (c_mustExist (bz_pos k1.1)) ⟨by decide, by decide, rfl, rfl, Nat.zero_le _, Nat.zero_le _⟩ rfl rfl (Nat.le_of_ble_eq_true rfl) rfl (by decide) rfl ?_
  refine a_iload_n (pc := 9) ok dX6_hatch_9 rfl ?_
  refine a_iconst (pc := 10) ok dX6_hatch_10 ?_
  refine a_bipush (pc := 11) ok dX6_hatch_11 (by decide) ?_
  refine t_callS (pc := 13) ok ex tx [] 0 dX6_hatch_13 (ug2 28 (by decide +kernel) rfl) mv6_76 miX6_mustBeWithin (cx_mustBeWithin hl k1.2 hv (by unfold rg; omega) (by unfold rg; omega)) ⟨by decide, by decide, rfl, rfl, by decide, by decide⟩ rfl rfl (Nat.le_of_ble_eq_true rfl) rfl rfl (by decide) (fun M9 h9 => by rw [h9]) (fun M9 h9 => ?_)
  subst h9
  exact rfl
set_option maxRecDepth 100000 in
theorem cx_undo (hl : l.stackTraces = false)  (h : cnt = 0) : CtX l yX6_undo cX6_undo 1 (some .int) rxundo [.ref 0] (clM (ringP 6) kn nk S gb cnt nx σ) nIS (fun M => M = (clM (ringP 6) kn nk S gb cnt nx σ)) := by
  refine CtX.of hl miX6_undo (Nat.le_of_ble_eq_true rfl) ?_
  intro X hXl hN ok ex tx
  replace hl : X.1.2.1.stackTraces = false := by rw [hXl]; exact hl
  refine AW.cast (L2 := [some (.ref 0)]) ?_ rfl rfl rfl
  subst h
  refine a_aload_n (pc := 0) ok dX6_undo_0 rfl ?_
  refine a_getf (pc := 1) ok dX6_undo_1 fl6_26 rfl rfl ?_
  refine a_getf (pc := 4) ok dX6_undo_4 fl6_340 rfl rfl ?_
  refine a_if_ne (pc := 7) (tgt := 21) ok dX6_undo_7 (by decide) (by first | omega | (unfold rg; omega) | (simp only [rg] at *; omega) | exact bz_rg _ | grind [rg]) (fun c7 => ?_) (fun c7 => ?_)
  · omega
  · exact t_throwW (pc := 10) (text := "no state is remembered") ok ex tx thr_84_88 (by decide +kernel) dX6_undo_10 dX6_undo_13 dX6_undo_14 dX6_undo_17 dX6_undo_20 ⟨by decide, by decide, by decide, by decide⟩ (rfl)
set_option maxRecDepth 100000 in
theorem cx_save (hl : l.stackTraces = false) {v : Int} (h : kIn v 0 1 ≠ 0) (hv : rg v) : CtX l yX6_save cX6_save 2 (some .int) rxsave [.ref 0, iv v] (clS (slotP 6) kn nk S P0 P1 sv cnt nx) nIO (fun M => M = (clS (slotP 6) kn nk S P0 P1 sv cnt nx)) := by
  refine CtX.of hl miX6_save (Nat.le_of_ble_eq_true rfl) ?_
  intro X hXl hN ok ex tx
  replace hl : X.1.2.1.stackTraces = false := by rw [hXl]; exact hl
  refine AW.cast (L2 := [some (.ref 0), some (iv v)]) ?_ rfl rfl rfl
  have k1 : ¬ (0 ≤ v ∧ v ≤ 1) := fun z => h (if_pos z)
  refine a_iload_n (pc := 0) ok dX6_save_0 rfl ?_
  refine a_iconst (pc := 1) ok dX6_save_1 ?_
  refine a_iconst (pc := 2) ok dX6_save_2 ?_
  refine a_callSp (pc := 3) ok [] dX6_save_3 mv6_330 miX6_isWithin (c_isWithin hv (by unfold rg; omega) (by unfold rg; omega)) ⟨by decide, by decide, rfl, rfl, Nat.zero_le _, Nat.zero_le _⟩ rfl rfl (Nat.le_of_ble_eq_true rfl) rfl (by decide) ?_
  refine t_callS (pc := 6) ok ex tx [] 0 dX6_save_6 (ug3 170 (by decide +kernel) rfl) mv6_203 miX6_mustExist (cx_mustExist hl (bz_neg k1)) ⟨by decide, by decide, rfl, rfl, by decide, by decide⟩ rfl rfl (Nat.le_of_ble_eq_true rfl) rfl rfl (by decide) (fun M9 h9 => by rw [h9]) (fun M9 h9 => ?_)
  subst h9
  exact rfl
set_option maxRecDepth 100000 in
theorem cx_restore1 (hl : l.stackTraces = false) {v : Int} (h : kRes sv v = 1) (hv : rg v) : CtX l yX6_restore cX6_restore 2 (some .int) rxrestore [.ref 0, iv v] (clS (slotP 6) kn nk S P0 P1 sv cnt nx) nIO (fun M => M = (clS (slotP 6) kn nk S P0 P1 sv cnt nx)) := by
  refine CtX.of hl miX6_restore (Nat.le_of_ble_eq_true rfl) ?_
  intro X hXl hN ok ex tx
  replace hl : X.1.2.1.stackTraces = false := by rw [hXl]; exact hl
  refine AW.cast (L2 := [some (.ref 0), some (iv v)]) ?_ rfl rfl rfl
  have k1 : ¬ (0 ≤ v ∧ v ≤ 1) := by
    unfold kRes at h
    split at h
    · assumption
    · split at h <;> omega
  refine a_iload_n (pc := 0) ok dX6_restore_0 rfl ?_
  refine a_iconst (pc := 1) ok dX6_restore_1 ?_
  refine a_iconst (pc := 2) ok dX6_restore_2 ?_
  refine a_callSp (pc := 3) ok [] dX6_restore_3 mv6_330 miX6_isWithin (c_isWithin hv (by unfold rg; omega) (by unfold rg; omega)) ⟨by decide, by decide, rfl, rfl, Nat.zero_le _, Nat.zero_le _⟩ rfl rfl (Nat.le_of_ble_eq_true rfl) rfl (by decide) ?_
  refine t_callS (pc := 6) ok ex tx [] 0 dX6_restore_6 (ug3 170 (by decide +kernel) rfl) mv6_203 miX6_mustExist (cx_mustExist hl (bz_neg k1)) ⟨by decide, by decide, rfl, rfl, by decide, by decide⟩ rfl rfl (Nat.le_of_ble_eq_true rfl) rfl rfl (by decide) (fun M9 h9 => by rw [h9]) (fun M9 h9 => ?_)
  subst h9
  exact rfl
set_option maxRecDepth 100000 in
theorem cx_restore2 (hl : l.stackTraces = false) {v : Int} (h : kRes sv v = 2) (hv : rg v) : CtX l yX6_restore cX6_restore 2 (some .int) rxrestore [.ref 0, iv v] (clS (slotP 6) kn nk S P0 P1 sv cnt nx) nIS (fun M => M = (clS (slotP 6) kn nk S P0 P1 sv cnt nx)) := by
  refine CtX.of hl miX6_restore (Nat.le_of_ble_eq_true rfl) ?_
  intro X hXl hN ok ex tx
  replace hl : X.1.2.1.stackTraces = false := by rw [hXl]; exact hl
  refine AW.cast (L2 := [some (.ref 0), some (iv v)]) ?_ rfl rfl rfl
  have k1 : (0 ≤ v ∧ v ≤ 1) ∧ sv v = 0 := by
    unfold kRes at h
    repeat' split at h
    all_goals omega
  refine a_iload_n (pc := 0) ok dX6_restore_0 rfl ?_
  refine a_iconst (pc := 1) ok dX6_restore_1 ?_
  refine a_iconst (pc := 2) ok dX6_restore_2 ?_
  refine a_callSp (pc := 3) ok [] dX6_restore_3 mv6_330 miX6_isWithin (c_isWithin hv (by unfold rg; omega) (by unfold rg; omega)) ⟨by decide, by decide, rfl, rfl, Nat.zero_le _, Nat.zero_le _⟩ rfl rfl (Nat.le_of_ble_eq_true rfl) rfl (by decide) ?_
  refine a_callSv (pc := 6) ok [] dX6_restore_6 mv6_203 miX6_mustExist (c_mustExist (bz_pos k1.1)) ⟨by decide, by decide, rfl, rfl, Nat.zero_le _, Nat.zero_le _⟩ rfl rfl (Nat.le_of_ble_eq_true rfl) rfl (by decide) rfl ?_
  refine a_aload_n (pc := 9) ok dX6_restore_9 rfl ?_
  refine a_getf (pc := 10) ok dX6_restore_10 fl6_34 rfl rfl ?_
  refine a_iload_n (pc := 13) ok dX6_restore_13 rfl ?_
  refine a_zald (pc := 14) ok dX6_restore_14 rfl (by decide) (by first | omega | (unfold rg; omega) | (simp only [rg] at *; omega) | exact bz_rg _ | grind [rg]) ?_
  refine a_if_ne (pc := 15) (tgt := 29) ok dX6_restore_15 (by decide) (by unfold rg; omega) (fun c15 => ?_) (fun c15 => ?_)
  · omega
  · exact t_throwW (pc := 18) (text := "nothing has been saved in the slot") ok ex tx thr_84_88 (by decide +kernel) dX6_restore_18 dX6_restore_21 dX6_restore_22 dX6_restore_25 dX6_restore_28 ⟨by decide, by decide, by decide, by decide⟩ (rfl)
end CT1
