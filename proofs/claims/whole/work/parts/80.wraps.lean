/-! THE LAW: its wrappers, over any world of the class. Printed by wip/whole/gen/mk80.py. -/
theorem cast_nIA : Cond.castable nIA nIA ∈ xnL := List.mem_filter.mpr ⟨tb2 203 (by decide +kernel), rfl⟩
theorem cast_nIS : Cond.castable nIS nIS ∈ xnL := List.mem_filter.mpr ⟨tb3 35 (by decide +kernel), rfl⟩
theorem cast_nIO : Cond.castable nIO nIO ∈ xnL := List.mem_filter.mpr ⟨tb3 205 (by decide +kernel), rfl⟩
def hhL_append : List (Nat × Nat × Nat × Nat) := [(0, 9, 12, 13), (0, 9, 15, 15)]
def rwL_append : Room := { frames := 8, cells := 1, slots := 6, locals := 143 }
theorem miL_append : MIW yL_append cL_append 4 (some .int) hhL_append 3 := ⟨ug2 190 (by decide +kernel) rfl, by decide +kernel, by decide +kernel, ug1 0 (by decide +kernel) rfl⟩
def hhL_load : List (Nat × Nat × Nat × Nat) := [(0, 8, 11, 15)]
def rwL_load : Room := { frames := 7, cells := 1, slots := 6, locals := 152 }
theorem miL_load : MIW yL_load cL_load 3 (some .int) hhL_load 2 := ⟨ug3 56 (by decide +kernel) rfl, by decide +kernel, by decide +kernel, ug1 0 (by decide +kernel) rfl⟩
def hhL_about : List (Nat × Nat × Nat × Nat) := [(0, 9, 12, 13)]
def rwL_about : Room := { frames := 9, cells := 1, slots := 6, locals := 219 }
theorem miL_about : MIW yL_about cL_about 4 (some .int) hhL_about 3 := ⟨ug3 132 (by decide +kernel) rfl, by decide +kernel, by decide +kernel, ug1 0 (by decide +kernel) rfl⟩
def hhL_cellOf : List (Nat × Nat × Nat × Nat) := [(0, 12, 15, 28), (0, 12, 19, 13)]
def rwL_cellOf : Room := { frames := 8, cells := 1, slots := 6, locals := 201 }
theorem miL_cellOf : MIW yL_cellOf cL_cellOf 6 (some .int) hhL_cellOf 5 := ⟨ug3 193 (by decide +kernel) rfl, by decide +kernel, by decide +kernel, ug1 0 (by decide +kernel) rfl⟩
def hhL_thresholdAt : List (Nat × Nat × Nat × Nat) := [(0, 9, 12, 28)]
def rwL_thresholdAt : Room := { frames := 8, cells := 1, slots := 6, locals := 141 }
theorem miL_thresholdAt : MIW yL_thresholdAt cL_thresholdAt 4 (some .int) hhL_thresholdAt 3 := ⟨ug3 237 (by decide +kernel) rfl, by decide +kernel, by decide +kernel, ug1 0 (by decide +kernel) rfl⟩
def hhL_island : List (Nat × Nat × Nat × Nat) := [(0, 10, 13, 28), (0, 10, 17, 13)]
def rwL_island : Room := { frames := 9, cells := 1, slots := 6, locals := 221 }
theorem miL_island : MIW yL_island cL_island 5 (some .int) hhL_island 4 := ⟨ug4 8 (by decide +kernel) rfl, by decide +kernel, by decide +kernel, ug1 0 (by decide +kernel) rfl⟩
def hhL_border : List (Nat × Nat × Nat × Nat) := [(0, 10, 13, 28)]
def rwL_border : Room := { frames := 8, cells := 1, slots := 6, locals := 200 }
theorem miL_border : MIW yL_border cL_border 5 (some .int) hhL_border 4 := ⟨ug4 40 (by decide +kernel) rfl, by decide +kernel, by decide +kernel, ug1 0 (by decide +kernel) rfl⟩
def hhL_outline : List (Nat × Nat × Nat × Nat) := [(0, 10, 13, 28), (0, 10, 17, 13)]
def rwL_outline : Room := { frames := 8, cells := 1, slots := 6, locals := 200 }
theorem miL_outline : MIW yL_outline cL_outline 5 (some .int) hhL_outline 4 := ⟨ug4 51 (by decide +kernel) rfl, by decide +kernel, by decide +kernel, ug1 0 (by decide +kernel) rfl⟩
def hhL_outlineWay : List (Nat × Nat × Nat × Nat) := [(0, 10, 13, 28)]
def rwL_outlineWay : Room := { frames := 8, cells := 1, slots := 6, locals := 200 }
theorem miL_outlineWay : MIW yL_outlineWay cL_outlineWay 5 (some .int) hhL_outlineWay 4 := ⟨ug4 78 (by decide +kernel) rfl, by decide +kernel, by decide +kernel, ug1 0 (by decide +kernel) rfl⟩
def hhL_band : List (Nat × Nat × Nat × Nat) := [(0, 10, 13, 28), (0, 10, 17, 13)]
def rwL_band : Room := { frames := 8, cells := 1, slots := 6, locals := 199 }
theorem miL_band : MIW yL_band cL_band 5 (some .int) hhL_band 4 := ⟨ug4 85 (by decide +kernel) rfl, by decide +kernel, by decide +kernel, ug1 0 (by decide +kernel) rfl⟩
def hhL_plate : List (Nat × Nat × Nat × Nat) := [(0, 10, 13, 13)]
def rwL_plate : Room := { frames := 8, cells := 1, slots := 6, locals := 144 }
theorem miL_plate : MIW yL_plate cL_plate 5 (some .int) hhL_plate 4 := ⟨ug4 101 (by decide +kernel) rfl, by decide +kernel, by decide +kernel, ug1 0 (by decide +kernel) rfl⟩
def hhL_cell : List (Nat × Nat × Nat × Nat) := [(0, 12, 15, 28), (0, 12, 19, 13)]
def rwL_cell : Room := { frames := 8, cells := 1, slots := 6, locals := 145 }
theorem miL_cell : MIW yL_cell cL_cell 6 (some .int) hhL_cell 5 := ⟨ug4 110 (by decide +kernel) rfl, by decide +kernel, by decide +kernel, ug1 0 (by decide +kernel) rfl⟩
def hhL_box : List (Nat × Nat × Nat × Nat) := [(0, 16, 19, 28), (0, 16, 23, 13)]
def rwL_box : Room := { frames := 8, cells := 1, slots := 6, locals := 147 }
theorem miL_box : MIW yL_box cL_box 8 (some .int) hhL_box 7 := ⟨ug4 118 (by decide +kernel) rfl, by decide +kernel, by decide +kernel, ug1 0 (by decide +kernel) rfl⟩
def hhL_threshold : List (Nat × Nat × Nat × Nat) := [(0, 10, 13, 13), (0, 10, 17, 15)]
def rwL_threshold : Room := { frames := 8, cells := 1, slots := 6, locals := 144 }
theorem miL_threshold : MIW yL_threshold cL_threshold 5 (some .int) hhL_threshold 4 := ⟨ug4 127 (by decide +kernel) rfl, by decide +kernel, by decide +kernel, ug1 0 (by decide +kernel) rfl⟩
def hhL_share : List (Nat × Nat × Nat × Nat) := [(0, 9, 12, 13)]
def rwL_share : Room := { frames := 8, cells := 1, slots := 6, locals := 143 }
theorem miL_share : MIW yL_share cL_share 4 (some .int) hhL_share 3 := ⟨ug4 137 (by decide +kernel) rfl, by decide +kernel, by decide +kernel, ug1 0 (by decide +kernel) rfl⟩
def hhL_least : List (Nat × Nat × Nat × Nat) := [(0, 9, 12, 13)]
def rwL_least : Room := { frames := 8, cells := 1, slots := 6, locals := 144 }
theorem miL_least : MIW yL_least cL_least 4 (some .int) hhL_least 3 := ⟨ug4 156 (by decide +kernel) rfl, by decide +kernel, by decide +kernel, ug1 0 (by decide +kernel) rfl⟩
def hhL_hatch : List (Nat × Nat × Nat × Nat) := [(0, 10, 13, 28), (0, 10, 17, 13)]
def rwL_hatch : Room := { frames := 8, cells := 1, slots := 6, locals := 145 }
theorem miL_hatch : MIW yL_hatch cL_hatch 5 (some .int) hhL_hatch 4 := ⟨ug4 163 (by decide +kernel) rfl, by decide +kernel, by decide +kernel, ug1 0 (by decide +kernel) rfl⟩
def hhL_line : List (Nat × Nat × Nat × Nat) := [(0, 9, 12, 13)]
def rwL_line : Room := { frames := 8, cells := 1, slots := 6, locals := 144 }
theorem miL_line : MIW yL_line cL_line 4 (some .int) hhL_line 3 := ⟨ug4 170 (by decide +kernel) rfl, by decide +kernel, by decide +kernel, ug1 0 (by decide +kernel) rfl⟩
def hhL_spread : List (Nat × Nat × Nat × Nat) := [(0, 9, 12, 13)]
def rwL_spread : Room := { frames := 8, cells := 1, slots := 6, locals := 143 }
theorem miL_spread : MIW yL_spread cL_spread 4 (some .int) hhL_spread 3 := ⟨ug4 177 (by decide +kernel) rfl, by decide +kernel, by decide +kernel, ug1 0 (by decide +kernel) rfl⟩
def hhL_noise : List (Nat × Nat × Nat × Nat) := [(0, 11, 14, 13)]
def rwL_noise : Room := { frames := 8, cells := 1, slots := 6, locals := 145 }
theorem miL_noise : MIW yL_noise cL_noise 6 (some .int) hhL_noise 4 := ⟨ug4 185 (by decide +kernel) rfl, by decide +kernel, by decide +kernel, ug1 0 (by decide +kernel) rfl⟩
def hhL_undo : List (Nat × Nat × Nat × Nat) := [(0, 8, 11, 15)]
def rwL_undo : Room := { frames := 7, cells := 1, slots := 6, locals := 122 }
theorem miL_undo : MIW yL_undo cL_undo 3 (some .int) hhL_undo 2 := ⟨ug4 200 (by decide +kernel) rfl, by decide +kernel, by decide +kernel, ug1 0 (by decide +kernel) rfl⟩
def hhL_ifLeast : List (Nat × Nat × Nat × Nat) := [(0, 10, 13, 13)]
def rwL_ifLeast : Room := { frames := 8, cells := 1, slots := 6, locals := 179 }
theorem miL_ifLeast : MIW yL_ifLeast cL_ifLeast 5 (some .int) hhL_ifLeast 4 := ⟨ug4 212 (by decide +kernel) rfl, by decide +kernel, by decide +kernel, ug1 0 (by decide +kernel) rfl⟩
def hhL_leastFor : List (Nat × Nat × Nat × Nat) := [(0, 9, 12, 13)]
def rwL_leastFor : Room := { frames := 8, cells := 1, slots := 6, locals := 179 }
theorem miL_leastFor : MIW yL_leastFor cL_leastFor 4 (some .int) hhL_leastFor 3 := ⟨ug4 219 (by decide +kernel) rfl, by decide +kernel, by decide +kernel, ug1 0 (by decide +kernel) rfl⟩
def hhL_bestMove : List (Nat × Nat × Nat × Nat) := [(0, 9, 12, 28)]
def rwL_bestMove : Room := { frames := 8, cells := 1, slots := 6, locals := 185 }
theorem miL_bestMove : MIW yL_bestMove cL_bestMove 4 (some .int) hhL_bestMove 3 := ⟨ug4 227 (by decide +kernel) rfl, by decide +kernel, by decide +kernel, ug1 0 (by decide +kernel) rfl⟩
def hhL_ifCell : List (Nat × Nat × Nat × Nat) := [(0, 14, 17, 28), (0, 14, 21, 13)]
def rwL_ifCell : Room := { frames := 8, cells := 1, slots := 6, locals := 201 }
theorem miL_ifCell : MIW yL_ifCell cL_ifCell 7 (some .int) hhL_ifCell 6 := ⟨ug5 1 (by decide +kernel) rfl, by decide +kernel, by decide +kernel, ug1 0 (by decide +kernel) rfl⟩
def hhL_runScript : List (Nat × Nat × Nat × Nat) := [(0, 11, 14, 13)]
def rwL_runScript : Room := { frames := 8, cells := 1, slots := 6, locals := 211 }
theorem miL_runScript : MIW yL_runScript cL_runScript 6 (some .int) hhL_runScript 4 := ⟨ug5 12 (by decide +kernel) rfl, by decide +kernel, by decide +kernel, ug1 0 (by decide +kernel) rfl⟩
def hhL_simulate : List (Nat × Nat × Nat × Nat) := [(0, 11, 14, 13)]
def rwL_simulate : Room := { frames := 8, cells := 1, slots := 6, locals := 183 }
theorem miL_simulate : MIW yL_simulate cL_simulate 6 (some .int) hhL_simulate 4 := ⟨ug5 32 (by decide +kernel) rfl, by decide +kernel, by decide +kernel, ug1 0 (by decide +kernel) rfl⟩
def hhL_save : List (Nat × Nat × Nat × Nat) := [(0, 9, 12, 28)]
def rwL_save : Room := { frames := 8, cells := 1, slots := 6, locals := 141 }
theorem miL_save : MIW yL_save cL_save 4 (some .int) hhL_save 3 := ⟨ug5 45 (by decide +kernel) rfl, by decide +kernel, by decide +kernel, ug1 0 (by decide +kernel) rfl⟩
def hhL_restore : List (Nat × Nat × Nat × Nat) := [(0, 9, 12, 28), (0, 9, 15, 15)]
def rwL_restore : Room := { frames := 8, cells := 1, slots := 6, locals := 141 }
theorem miL_restore : MIW yL_restore cL_restore 4 (some .int) hhL_restore 3 := ⟨ug5 52 (by decide +kernel) rfl, by decide +kernel, by decide +kernel, ug1 0 (by decide +kernel) rfl⟩
section WW1
variable {l : Launch} {M : List va_E} {fs : List Value} {fo : Int → Int} {P : List va_E → Prop}
theorem dL_append_0 : decode cL_append 0 = .ok (.aload_n 2, 1) := by decide +kernel
theorem dL_append_1 : decode cL_append 1 = .ok (.iconst 0, 1) := by decide +kernel
theorem dL_append_2 : decode cL_append 2 = .ok (.aload_n 0, 1) := by decide +kernel
theorem dL_append_3 : decode cL_append 3 = .ok (.iload_n 1, 1) := by decide +kernel
theorem dL_append_4 : decode cL_append 4 = .ok (.invokevirtual 7, 3) := by decide +kernel
theorem dL_append_7 : decode cL_append 7 = .ok (.i2l, 1) := by decide +kernel
theorem dL_append_8 : decode cL_append 8 = .ok (.lastore, 1) := by decide +kernel
theorem dL_append_9 : decode cL_append 9 = .ok (.goto 9, 3) := by decide +kernel
theorem dL_append_12 : decode cL_append 12 = .ok (.astore_n 3, 1) := by decide +kernel
theorem dL_append_13 : decode cL_append 13 = .ok (.iconst 1, 1) := by decide +kernel
theorem dL_append_14 : decode cL_append 14 = .ok (.ireturn, 1) := by decide +kernel
theorem dL_append_15 : decode cL_append 15 = .ok (.astore_n 3, 1) := by decide +kernel
theorem dL_append_16 : decode cL_append 16 = .ok (.iconst 2, 1) := by decide +kernel
theorem dL_append_17 : decode cL_append 17 = .ok (.ireturn, 1) := by decide +kernel
theorem dL_append_18 : decode cL_append 18 = .ok (.iconst 0, 1) := by decide +kernel
theorem dL_append_19 : decode cL_append 19 = .ok (.ireturn, 1) := by decide +kernel
theorem w_append (hl : l.stackTraces = false) {a1 : Int} {z : Int} (hM : M.length = 3) (hob : M[0]? = some (.inr (6, fs))) (ct : Ct l yX6_append cX6_append 2 (some .int) rmX6_append [.ref 0, iv a1] M (fun v M9 => v = some (iv z) ∧ P M9)) (hP : ∀ M9, P M9 → M9.length = 3) (hz : rg z) :
    CtW l yL_append cL_append 4 (some .int) hhL_append rwL_append [.ref 0, iv a1, .ref 3] (wr 3 13 M fo) (fun v M8 => v = some (iv 0) ∧ ∃ M9, P M9 ∧ M8 = wr 3 13 M9 (up fo 0 z)) := by
  refine CtW.of hl miL_append (Nat.le_of_ble_eq_true rfl) ?_
  intro X hXl hN ok ex tb
  subst hXl
  refine AW.cast (L2 := [some (.ref 0), some (iv a1), some (.ref 3), none]) ?_ rfl rfl rfl
  refine a_aload_n (pc := 0) ok dL_append_0 rfl ?_
  refine a_iconst (pc := 1) ok dL_append_1 ?_
  refine a_aload_n (pc := 2) ok dL_append_2 rfl ?_
  refine a_iload_n (pc := 3) ok dL_append_3 rfl ?_
  refine x_callV (pc := 4) ok (πs 3 13) 3 dL_append_4 mvL_7 miX6_append (ct) ⟨by decide, by decide, rfl, rfl, Nat.zero_le _, Nat.zero_le _⟩ rfl rfl (Nat.le_of_ble_eq_true rfl) hM (fit_wr hM) (nd_wr _ _) hob rfl (fun v M9 h9 => by rw [hP _ h9.2, hM]) ?_
  rintro _ M' ⟨rfl, hp⟩
  refine AW.cast (st2 := [iv z, iv 0, .ref 3]) (M2 := wr 3 13 M' fo) ?_ rfl rfl (pb_wr hM (hP _ hp))
  refine a_i2l (pc := 7) ok dL_append_7 (by exact hz) ?_
  refine a_last (pc := 8) ok dL_append_8 (wr_out (hP _ hp)) (by decide) (by omega) ?_
  refine AW.cast (M2 := wr 3 13 M' (up fo 0 z)) ?_ rfl rfl (wr_set (hP _ hp))
  refine a_goto (pc := 9) (tgt := 18) ok dL_append_9 (by decide) ?_
  refine a_iconst (pc := 18) ok dL_append_18 ?_
  refine AW.widen (kc2 := 1) (ks2 := 6) (Nat.zero_le _) (Nat.zero_le _) ?_
  exact a_iret (pc := 19) ok dL_append_19 (⟨rfl, M', hp, rfl⟩)
theorem wx_append1 (hl : l.stackTraces = false) {a1 : Int} (hM : M.length = 3) (hob : M[0]? = some (.inr (6, fs))) (ct : CtX l yX6_append cX6_append 2 (some .int) rxappend [.ref 0, iv a1] M nIA P) (hP : ∀ M9, P M9 → M9.length = 3) :
    CtW l yL_append cL_append 4 (some .int) hhL_append rwL_append [.ref 0, iv a1, .ref 3] (wr 3 13 M fo) (fun v M8 => v = some (iv 1) ∧ ∃ M9, P M9 ∧ M8 = wr 3 13 M9 fo) := by
  refine CtW.of hl miL_append (Nat.le_of_ble_eq_true rfl) ?_
  intro X hXl hN ok ex tb
  subst hXl
  refine AW.cast (L2 := [some (.ref 0), some (iv a1), some (.ref 3), none]) ?_ rfl rfl rfl
  refine a_aload_n (pc := 0) ok dL_append_0 rfl ?_
  refine a_iconst (pc := 1) ok dL_append_1 ?_
  refine a_aload_n (pc := 2) ok dL_append_2 rfl ?_
  refine a_iload_n (pc := 3) ok dL_append_3 rfl ?_
  exact w_callV (pc := 4) (hh := hhL_append) (k := 1) (name := nIA) (pre := []) (suf := [⟨0, 9, 15, 15⟩]) (x := ⟨0, 9, 12, 13⟩) ok ex tb (πs 3 13) 3 dL_append_4 mvL_7 miX6_append ct ⟨by decide, by decide, rfl, rfl, by decide, by decide⟩ rfl rfl (Nat.le_of_ble_eq_true rfl) hM (fit_wr hM) (nd_wr _ _) hob rfl (fun M9 h9 => by rw [hP _ h9, hM]) rfl (fun z hz => nomatch hz) (by decide) (by decide) (ug2 191 (by decide +kernel) rfl) cast_nIA (Or.inl ⟨3, dL_append_12, by rw [hN]; decide, dL_append_13, dL_append_14⟩) (fun M9 h9 => ⟨rfl, M9, h9, pb_wr hM (hP _ h9)⟩)
theorem wx_append2 (hl : l.stackTraces = false) {a1 : Int} (hM : M.length = 3) (hob : M[0]? = some (.inr (6, fs))) (ct : CtX l yX6_append cX6_append 2 (some .int) rxappend [.ref 0, iv a1] M nIS P) (hP : ∀ M9, P M9 → M9.length = 3) :
    CtW l yL_append cL_append 4 (some .int) hhL_append rwL_append [.ref 0, iv a1, .ref 3] (wr 3 13 M fo) (fun v M8 => v = some (iv 2) ∧ ∃ M9, P M9 ∧ M8 = wr 3 13 M9 fo) := by
  refine CtW.of hl miL_append (Nat.le_of_ble_eq_true rfl) ?_
  intro X hXl hN ok ex tb
  subst hXl
  refine AW.cast (L2 := [some (.ref 0), some (iv a1), some (.ref 3), none]) ?_ rfl rfl rfl
  refine a_aload_n (pc := 0) ok dL_append_0 rfl ?_
  refine a_iconst (pc := 1) ok dL_append_1 ?_
  refine a_aload_n (pc := 2) ok dL_append_2 rfl ?_
  refine a_iload_n (pc := 3) ok dL_append_3 rfl ?_
  exact w_callV (pc := 4) (hh := hhL_append) (k := 2) (name := nIS) (pre := [⟨0, 9, 12, 13⟩]) (suf := []) (x := ⟨0, 9, 15, 15⟩) ok ex tb (πs 3 13) 3 dL_append_4 mvL_7 miX6_append ct ⟨by decide, by decide, rfl, rfl, by decide, by decide⟩ rfl rfl (Nat.le_of_ble_eq_true rfl) hM (fit_wr hM) (nd_wr _ _) hob rfl (fun M9 h9 => by rw [hP _ h9, hM]) rfl (fun z hz => by cases List.mem_singleton.mp hz; exact ⟨by decide, nIA, ug2 191 (by decide +kernel) rfl, by decide +kernel⟩) (by decide) (by decide) (ug2 192 (by decide +kernel) rfl) cast_nIS (Or.inl ⟨3, dL_append_15, by rw [hN]; decide, dL_append_16, dL_append_17⟩) (fun M9 h9 => ⟨rfl, M9, h9, pb_wr hM (hP _ h9)⟩)
theorem dL_load_0 : decode cL_load 0 = .ok (.aload_n 1, 1) := by decide +kernel
theorem dL_load_1 : decode cL_load 1 = .ok (.iconst 0, 1) := by decide +kernel
theorem dL_load_2 : decode cL_load 2 = .ok (.aload_n 0, 1) := by decide +kernel
theorem dL_load_3 : decode cL_load 3 = .ok (.invokevirtual 17, 3) := by decide +kernel
theorem dL_load_6 : decode cL_load 6 = .ok (.i2l, 1) := by decide +kernel
theorem dL_load_7 : decode cL_load 7 = .ok (.lastore, 1) := by decide +kernel
theorem dL_load_8 : decode cL_load 8 = .ok (.goto 6, 3) := by decide +kernel
theorem dL_load_11 : decode cL_load 11 = .ok (.astore_n 2, 1) := by decide +kernel
theorem dL_load_12 : decode cL_load 12 = .ok (.iconst 1, 1) := by decide +kernel
theorem dL_load_13 : decode cL_load 13 = .ok (.ireturn, 1) := by decide +kernel
theorem dL_load_14 : decode cL_load 14 = .ok (.iconst 0, 1) := by decide +kernel
theorem dL_load_15 : decode cL_load 15 = .ok (.ireturn, 1) := by decide +kernel
theorem w_load (hl : l.stackTraces = false) {z : Int} (hM : M.length = 10) (hob : M[0]? = some (.inr (6, fs))) (ct : Ct l yX6_load cX6_load 4 (some .int) rmX6_load [.ref 0] M (fun v M9 => v = some (iv z) ∧ P M9)) (hP : ∀ M9, P M9 → M9.length = 10) (hz : rg z) :
    CtW l yL_load cL_load 3 (some .int) hhL_load rwL_load [.ref 0, .ref 10] (wr 10 17 M fo) (fun v M8 => v = some (iv 0) ∧ ∃ M9, P M9 ∧ M8 = wr 10 17 M9 (up fo 0 z)) := by
  refine CtW.of hl miL_load (Nat.le_of_ble_eq_true rfl) ?_
  intro X hXl hN ok ex tb
  subst hXl
  refine AW.cast (L2 := [some (.ref 0), some (.ref 10), none]) ?_ rfl rfl rfl
  refine a_aload_n (pc := 0) ok dL_load_0 rfl ?_
  refine a_iconst (pc := 1) ok dL_load_1 ?_
  refine a_aload_n (pc := 2) ok dL_load_2 rfl ?_
  refine x_callV (pc := 3) ok (πs 10 17) 10 dL_load_3 mvL_17 miX6_load (ct) ⟨by decide, by decide, rfl, rfl, Nat.zero_le _, Nat.zero_le _⟩ rfl rfl (Nat.le_of_ble_eq_true rfl) hM (fit_wr hM) (nd_wr _ _) hob rfl (fun v M9 h9 => by rw [hP _ h9.2, hM]) ?_
  rintro _ M' ⟨rfl, hp⟩
  refine AW.cast (st2 := [iv z, iv 0, .ref 10]) (M2 := wr 10 17 M' fo) ?_ rfl rfl (pb_wr hM (hP _ hp))
  refine a_i2l (pc := 6) ok dL_load_6 (by exact hz) ?_
  refine a_last (pc := 7) ok dL_load_7 (wr_out (hP _ hp)) (by decide) (by omega) ?_
  refine AW.cast (M2 := wr 10 17 M' (up fo 0 z)) ?_ rfl rfl (wr_set (hP _ hp))
  refine a_goto (pc := 8) (tgt := 14) ok dL_load_8 (by decide) ?_
  refine a_iconst (pc := 14) ok dL_load_14 ?_
  refine AW.widen (kc2 := 1) (ks2 := 6) (Nat.zero_le _) (Nat.zero_le _) ?_
  exact a_iret (pc := 15) ok dL_load_15 (⟨rfl, M', hp, rfl⟩)
theorem wx_load (hl : l.stackTraces = false) (hM : M.length = 10) (hob : M[0]? = some (.inr (6, fs))) (ct : CtX l yX6_load cX6_load 4 (some .int) rxload [.ref 0] M nIS P) (hP : ∀ M9, P M9 → M9.length = 10) :
    CtW l yL_load cL_load 3 (some .int) hhL_load rwL_load [.ref 0, .ref 10] (wr 10 17 M fo) (fun v M8 => v = some (iv 1) ∧ ∃ M9, P M9 ∧ M8 = wr 10 17 M9 fo) := by
  refine CtW.of hl miL_load (Nat.le_of_ble_eq_true rfl) ?_
  intro X hXl hN ok ex tb
  subst hXl
  refine AW.cast (L2 := [some (.ref 0), some (.ref 10), none]) ?_ rfl rfl rfl
  refine a_aload_n (pc := 0) ok dL_load_0 rfl ?_
  refine a_iconst (pc := 1) ok dL_load_1 ?_
  refine a_aload_n (pc := 2) ok dL_load_2 rfl ?_
  exact w_callV (pc := 3) (hh := hhL_load) (k := 1) (name := nIS) (pre := []) (suf := []) (x := ⟨0, 8, 11, 15⟩) ok ex tb (πs 10 17) 10 dL_load_3 mvL_17 miX6_load ct ⟨by decide, by decide, rfl, rfl, by decide, by decide⟩ rfl rfl (Nat.le_of_ble_eq_true rfl) hM (fit_wr hM) (nd_wr _ _) hob rfl (fun M9 h9 => by rw [hP _ h9, hM]) rfl (fun z hz => nomatch hz) (by decide) (by decide) (ug2 192 (by decide +kernel) rfl) cast_nIS (Or.inl ⟨2, dL_load_11, by rw [hN]; decide, dL_load_12, dL_load_13⟩) (fun M9 h9 => ⟨rfl, M9, h9, pb_wr hM (hP _ h9)⟩)
theorem dL_about_0 : decode cL_about 0 = .ok (.aload_n 2, 1) := by decide +kernel
theorem dL_about_1 : decode cL_about 1 = .ok (.iconst 0, 1) := by decide +kernel
theorem dL_about_2 : decode cL_about 2 = .ok (.aload_n 0, 1) := by decide +kernel
theorem dL_about_3 : decode cL_about 3 = .ok (.iload_n 1, 1) := by decide +kernel
theorem dL_about_4 : decode cL_about 4 = .ok (.invokevirtual 21, 3) := by decide +kernel
theorem dL_about_7 : decode cL_about 7 = .ok (.i2l, 1) := by decide +kernel
theorem dL_about_8 : decode cL_about 8 = .ok (.lastore, 1) := by decide +kernel
theorem dL_about_9 : decode cL_about 9 = .ok (.goto 6, 3) := by decide +kernel
theorem dL_about_12 : decode cL_about 12 = .ok (.astore_n 3, 1) := by decide +kernel
theorem dL_about_13 : decode cL_about 13 = .ok (.iconst 1, 1) := by decide +kernel
theorem dL_about_14 : decode cL_about 14 = .ok (.ireturn, 1) := by decide +kernel
theorem dL_about_15 : decode cL_about 15 = .ok (.iconst 0, 1) := by decide +kernel
theorem dL_about_16 : decode cL_about 16 = .ok (.ireturn, 1) := by decide +kernel
theorem w_about (hl : l.stackTraces = false) {a1 : Int} {z : Int} (hM : M.length = 33) (hob : M[0]? = some (.inr (6, fs))) (ct : Ct l yX6_about cX6_about 2 (some .int) rmX6_about [.ref 0, iv a1] M (fun v M9 => v = some (iv z) ∧ P M9)) (hP : ∀ M9, P M9 → M9.length = 33) (hz : rg z) :
    CtW l yL_about cL_about 4 (some .int) hhL_about rwL_about [.ref 0, iv a1, .ref 33] (wr 33 46 M fo) (fun v M8 => v = some (iv 0) ∧ ∃ M9, P M9 ∧ M8 = wr 33 46 M9 (up fo 0 z)) := by
  refine CtW.of hl miL_about (Nat.le_of_ble_eq_true rfl) ?_
  intro X hXl hN ok ex tb
  subst hXl
  refine AW.cast (L2 := [some (.ref 0), some (iv a1), some (.ref 33), none]) ?_ rfl rfl rfl
  refine a_aload_n (pc := 0) ok dL_about_0 rfl ?_
  refine a_iconst (pc := 1) ok dL_about_1 ?_
  refine a_aload_n (pc := 2) ok dL_about_2 rfl ?_
  refine a_iload_n (pc := 3) ok dL_about_3 rfl ?_
  refine x_callV (pc := 4) ok (πs 33 46) 33 dL_about_4 mvL_21 miX6_about (ct) ⟨by decide, by decide, rfl, rfl, Nat.zero_le _, Nat.zero_le _⟩ rfl rfl (Nat.le_of_ble_eq_true rfl) hM (fit_wr hM) (nd_wr _ _) hob rfl (fun v M9 h9 => by rw [hP _ h9.2, hM]) ?_
  rintro _ M' ⟨rfl, hp⟩
  refine AW.cast (st2 := [iv z, iv 0, .ref 33]) (M2 := wr 33 46 M' fo) ?_ rfl rfl (pb_wr hM (hP _ hp))
  refine a_i2l (pc := 7) ok dL_about_7 (by exact hz) ?_
  refine a_last (pc := 8) ok dL_about_8 (wr_out (hP _ hp)) (by decide) (by omega) ?_
  refine AW.cast (M2 := wr 33 46 M' (up fo 0 z)) ?_ rfl rfl (wr_set (hP _ hp))
  refine a_goto (pc := 9) (tgt := 15) ok dL_about_9 (by decide) ?_
  refine a_iconst (pc := 15) ok dL_about_15 ?_
  refine AW.widen (kc2 := 1) (ks2 := 6) (Nat.zero_le _) (Nat.zero_le _) ?_
  exact a_iret (pc := 16) ok dL_about_16 (⟨rfl, M', hp, rfl⟩)
theorem wx_about (hl : l.stackTraces = false) {a1 : Int} (hM : M.length = 33) (hob : M[0]? = some (.inr (6, fs))) (ct : CtX l yX6_about cX6_about 2 (some .int) rxabout [.ref 0, iv a1] M nIA P) (hP : ∀ M9, P M9 → M9.length = 33) :
    CtW l yL_about cL_about 4 (some .int) hhL_about rwL_about [.ref 0, iv a1, .ref 33] (wr 33 46 M fo) (fun v M8 => v = some (iv 1) ∧ ∃ M9, P M9 ∧ M8 = wr 33 46 M9 fo) := by
  refine CtW.of hl miL_about (Nat.le_of_ble_eq_true rfl) ?_
  intro X hXl hN ok ex tb
  subst hXl
  refine AW.cast (L2 := [some (.ref 0), some (iv a1), some (.ref 33), none]) ?_ rfl rfl rfl
  refine a_aload_n (pc := 0) ok dL_about_0 rfl ?_
  refine a_iconst (pc := 1) ok dL_about_1 ?_
  refine a_aload_n (pc := 2) ok dL_about_2 rfl ?_
  refine a_iload_n (pc := 3) ok dL_about_3 rfl ?_
  exact w_callV (pc := 4) (hh := hhL_about) (k := 1) (name := nIA) (pre := []) (suf := []) (x := ⟨0, 9, 12, 13⟩) ok ex tb (πs 33 46) 33 dL_about_4 mvL_21 miX6_about ct ⟨by decide, by decide, rfl, rfl, by decide, by decide⟩ rfl rfl (Nat.le_of_ble_eq_true rfl) hM (fit_wr hM) (nd_wr _ _) hob rfl (fun M9 h9 => by rw [hP _ h9, hM]) rfl (fun z hz => nomatch hz) (by decide) (by decide) (ug2 191 (by decide +kernel) rfl) cast_nIA (Or.inl ⟨3, dL_about_12, by rw [hN]; decide, dL_about_13, dL_about_14⟩) (fun M9 h9 => ⟨rfl, M9, h9, pb_wr hM (hP _ h9)⟩)
theorem dL_cellOf_0 : decode cL_cellOf 0 = .ok (.aload 4, 2) := by decide +kernel
theorem dL_cellOf_2 : decode cL_cellOf 2 = .ok (.iconst 0, 1) := by decide +kernel
theorem dL_cellOf_3 : decode cL_cellOf 3 = .ok (.aload_n 0, 1) := by decide +kernel
theorem dL_cellOf_4 : decode cL_cellOf 4 = .ok (.iload_n 1, 1) := by decide +kernel
theorem dL_cellOf_5 : decode cL_cellOf 5 = .ok (.iload_n 2, 1) := by decide +kernel
theorem dL_cellOf_6 : decode cL_cellOf 6 = .ok (.iload_n 3, 1) := by decide +kernel
theorem dL_cellOf_7 : decode cL_cellOf 7 = .ok (.invokevirtual 24, 3) := by decide +kernel
theorem dL_cellOf_10 : decode cL_cellOf 10 = .ok (.i2l, 1) := by decide +kernel
theorem dL_cellOf_11 : decode cL_cellOf 11 = .ok (.lastore, 1) := by decide +kernel
theorem dL_cellOf_12 : decode cL_cellOf 12 = .ok (.goto 11, 3) := by decide +kernel
theorem dL_cellOf_15 : decode cL_cellOf 15 = .ok (.astore 5, 2) := by decide +kernel
theorem dL_cellOf_17 : decode cL_cellOf 17 = .ok (.iconst 1, 1) := by decide +kernel
theorem dL_cellOf_18 : decode cL_cellOf 18 = .ok (.ireturn, 1) := by decide +kernel
theorem dL_cellOf_19 : decode cL_cellOf 19 = .ok (.astore 5, 2) := by decide +kernel
theorem dL_cellOf_21 : decode cL_cellOf 21 = .ok (.iconst 2, 1) := by decide +kernel
theorem dL_cellOf_22 : decode cL_cellOf 22 = .ok (.ireturn, 1) := by decide +kernel
theorem dL_cellOf_23 : decode cL_cellOf 23 = .ok (.iconst 0, 1) := by decide +kernel
theorem dL_cellOf_24 : decode cL_cellOf 24 = .ok (.ireturn, 1) := by decide +kernel
theorem w_cellOf (hl : l.stackTraces = false) {a1 a2 a3 : Int} {z : Int} (hM : M.length = 19) (hob : M[0]? = some (.inr (6, fs))) (ct : Ct l yX6_cellOf cX6_cellOf 5 (some .int) rmX6_cellOf [.ref 0, iv a1, iv a2, iv a3] M (fun v M9 => v = some (iv z) ∧ P M9)) (hP : ∀ M9, P M9 → M9.length = 19) (hz : rg z) :
    CtW l yL_cellOf cL_cellOf 6 (some .int) hhL_cellOf rwL_cellOf [.ref 0, iv a1, iv a2, iv a3, .ref 19] (wr 19 46 M fo) (fun v M8 => v = some (iv 0) ∧ ∃ M9, P M9 ∧ M8 = wr 19 46 M9 (up fo 0 z)) := by
  refine CtW.of hl miL_cellOf (Nat.le_of_ble_eq_true rfl) ?_
  intro X hXl hN ok ex tb
  subst hXl
  refine AW.cast (L2 := [some (.ref 0), some (iv a1), some (iv a2), some (iv a3), some (.ref 19), none]) ?_ rfl rfl rfl
  refine a_aload (pc := 0) ok dL_cellOf_0 rfl ?_
  refine a_iconst (pc := 2) ok dL_cellOf_2 ?_
  refine a_aload_n (pc := 3) ok dL_cellOf_3 rfl ?_
  refine a_iload_n (pc := 4) ok dL_cellOf_4 rfl ?_
  refine a_iload_n (pc := 5) ok dL_cellOf_5 rfl ?_
  refine a_iload_n (pc := 6) ok dL_cellOf_6 rfl ?_
  refine x_callV (pc := 7) ok (πs 19 46) 19 dL_cellOf_7 mvL_24 miX6_cellOf (ct) ⟨by decide, by decide, rfl, rfl, Nat.zero_le _, Nat.zero_le _⟩ rfl rfl (Nat.le_of_ble_eq_true rfl) hM (fit_wr hM) (nd_wr _ _) hob rfl (fun v M9 h9 => by rw [hP _ h9.2, hM]) ?_
  rintro _ M' ⟨rfl, hp⟩
  refine AW.cast (st2 := [iv z, iv 0, .ref 19]) (M2 := wr 19 46 M' fo) ?_ rfl rfl (pb_wr hM (hP _ hp))
  refine a_i2l (pc := 10) ok dL_cellOf_10 (by exact hz) ?_
  refine a_last (pc := 11) ok dL_cellOf_11 (wr_out (hP _ hp)) (by decide) (by omega) ?_
  refine AW.cast (M2 := wr 19 46 M' (up fo 0 z)) ?_ rfl rfl (wr_set (hP _ hp))
  refine a_goto (pc := 12) (tgt := 23) ok dL_cellOf_12 (by decide) ?_
  refine a_iconst (pc := 23) ok dL_cellOf_23 ?_
  refine AW.widen (kc2 := 1) (ks2 := 6) (Nat.zero_le _) (Nat.zero_le _) ?_
  exact a_iret (pc := 24) ok dL_cellOf_24 (⟨rfl, M', hp, rfl⟩)
theorem wx_cellOf1 (hl : l.stackTraces = false) {a1 a2 a3 : Int} (hM : M.length = 19) (hob : M[0]? = some (.inr (6, fs))) (ct : CtX l yX6_cellOf cX6_cellOf 5 (some .int) rxcellOf [.ref 0, iv a1, iv a2, iv a3] M nIO P) (hP : ∀ M9, P M9 → M9.length = 19) :
    CtW l yL_cellOf cL_cellOf 6 (some .int) hhL_cellOf rwL_cellOf [.ref 0, iv a1, iv a2, iv a3, .ref 19] (wr 19 46 M fo) (fun v M8 => v = some (iv 1) ∧ ∃ M9, P M9 ∧ M8 = wr 19 46 M9 fo) := by
  refine CtW.of hl miL_cellOf (Nat.le_of_ble_eq_true rfl) ?_
  intro X hXl hN ok ex tb
  subst hXl
  refine AW.cast (L2 := [some (.ref 0), some (iv a1), some (iv a2), some (iv a3), some (.ref 19), none]) ?_ rfl rfl rfl
  refine a_aload (pc := 0) ok dL_cellOf_0 rfl ?_
  refine a_iconst (pc := 2) ok dL_cellOf_2 ?_
  refine a_aload_n (pc := 3) ok dL_cellOf_3 rfl ?_
  refine a_iload_n (pc := 4) ok dL_cellOf_4 rfl ?_
  refine a_iload_n (pc := 5) ok dL_cellOf_5 rfl ?_
  refine a_iload_n (pc := 6) ok dL_cellOf_6 rfl ?_
  exact w_callV (pc := 7) (hh := hhL_cellOf) (k := 1) (name := nIO) (pre := []) (suf := [⟨0, 12, 19, 13⟩]) (x := ⟨0, 12, 15, 28⟩) ok ex tb (πs 19 46) 19 dL_cellOf_7 mvL_24 miX6_cellOf ct ⟨by decide, by decide, rfl, rfl, by decide, by decide⟩ rfl rfl (Nat.le_of_ble_eq_true rfl) hM (fit_wr hM) (nd_wr _ _) hob rfl (fun M9 h9 => by rw [hP _ h9, hM]) rfl (fun z hz => nomatch hz) (by decide) (by decide) (ug3 194 (by decide +kernel) rfl) cast_nIO (Or.inr ⟨5, dL_cellOf_15, by rw [hN]; decide, dL_cellOf_17, dL_cellOf_18⟩) (fun M9 h9 => ⟨rfl, M9, h9, pb_wr hM (hP _ h9)⟩)
theorem wx_cellOf2 (hl : l.stackTraces = false) {a1 a2 a3 : Int} (hM : M.length = 19) (hob : M[0]? = some (.inr (6, fs))) (ct : CtX l yX6_cellOf cX6_cellOf 5 (some .int) rxcellOf [.ref 0, iv a1, iv a2, iv a3] M nIA P) (hP : ∀ M9, P M9 → M9.length = 19) :
    CtW l yL_cellOf cL_cellOf 6 (some .int) hhL_cellOf rwL_cellOf [.ref 0, iv a1, iv a2, iv a3, .ref 19] (wr 19 46 M fo) (fun v M8 => v = some (iv 2) ∧ ∃ M9, P M9 ∧ M8 = wr 19 46 M9 fo) := by
  refine CtW.of hl miL_cellOf (Nat.le_of_ble_eq_true rfl) ?_
  intro X hXl hN ok ex tb
  subst hXl
  refine AW.cast (L2 := [some (.ref 0), some (iv a1), some (iv a2), some (iv a3), some (.ref 19), none]) ?_ rfl rfl rfl
  refine a_aload (pc := 0) ok dL_cellOf_0 rfl ?_
  refine a_iconst (pc := 2) ok dL_cellOf_2 ?_
  refine a_aload_n (pc := 3) ok dL_cellOf_3 rfl ?_
  refine a_iload_n (pc := 4) ok dL_cellOf_4 rfl ?_
  refine a_iload_n (pc := 5) ok dL_cellOf_5 rfl ?_
  refine a_iload_n (pc := 6) ok dL_cellOf_6 rfl ?_
  exact w_callV (pc := 7) (hh := hhL_cellOf) (k := 2) (name := nIA) (pre := [⟨0, 12, 15, 28⟩]) (suf := []) (x := ⟨0, 12, 19, 13⟩) ok ex tb (πs 19 46) 19 dL_cellOf_7 mvL_24 miX6_cellOf ct ⟨by decide, by decide, rfl, rfl, by decide, by decide⟩ rfl rfl (Nat.le_of_ble_eq_true rfl) hM (fit_wr hM) (nd_wr _ _) hob rfl (fun M9 h9 => by rw [hP _ h9, hM]) rfl (fun z hz => by cases List.mem_singleton.mp hz; exact ⟨by decide, nIO, ug3 194 (by decide +kernel) rfl, by decide +kernel⟩) (by decide) (by decide) (ug2 191 (by decide +kernel) rfl) cast_nIA (Or.inr ⟨5, dL_cellOf_19, by rw [hN]; decide, dL_cellOf_21, dL_cellOf_22⟩) (fun M9 h9 => ⟨rfl, M9, h9, pb_wr hM (hP _ h9)⟩)
theorem dL_thresholdAt_0 : decode cL_thresholdAt 0 = .ok (.aload_n 2, 1) := by decide +kernel
theorem dL_thresholdAt_1 : decode cL_thresholdAt 1 = .ok (.iconst 0, 1) := by decide +kernel
theorem dL_thresholdAt_2 : decode cL_thresholdAt 2 = .ok (.aload_n 0, 1) := by decide +kernel
theorem dL_thresholdAt_3 : decode cL_thresholdAt 3 = .ok (.iload_n 1, 1) := by decide +kernel
theorem dL_thresholdAt_4 : decode cL_thresholdAt 4 = .ok (.invokevirtual 30, 3) := by decide +kernel
theorem dL_thresholdAt_7 : decode cL_thresholdAt 7 = .ok (.i2l, 1) := by decide +kernel
theorem dL_thresholdAt_8 : decode cL_thresholdAt 8 = .ok (.lastore, 1) := by decide +kernel
theorem dL_thresholdAt_9 : decode cL_thresholdAt 9 = .ok (.goto 6, 3) := by decide +kernel
theorem dL_thresholdAt_12 : decode cL_thresholdAt 12 = .ok (.astore_n 3, 1) := by decide +kernel
theorem dL_thresholdAt_13 : decode cL_thresholdAt 13 = .ok (.iconst 1, 1) := by decide +kernel
theorem dL_thresholdAt_14 : decode cL_thresholdAt 14 = .ok (.ireturn, 1) := by decide +kernel
theorem dL_thresholdAt_15 : decode cL_thresholdAt 15 = .ok (.iconst 0, 1) := by decide +kernel
theorem dL_thresholdAt_16 : decode cL_thresholdAt 16 = .ok (.ireturn, 1) := by decide +kernel
theorem w_thresholdAt (hl : l.stackTraces = false) {a1 : Int} {z : Int} (hM : M.length = 5) (hob : M[0]? = some (.inr (6, fs))) (ct : Ct l yX6_thresholdAt cX6_thresholdAt 2 (some .int) rmX6_thresholdAt [.ref 0, iv a1] M (fun v M9 => v = some (iv z) ∧ P M9)) (hP : ∀ M9, P M9 → M9.length = 5) (hz : rg z) :
    CtW l yL_thresholdAt cL_thresholdAt 4 (some .int) hhL_thresholdAt rwL_thresholdAt [.ref 0, iv a1, .ref 5] (wr 5 46 M fo) (fun v M8 => v = some (iv 0) ∧ ∃ M9, P M9 ∧ M8 = wr 5 46 M9 (up fo 0 z)) := by
  refine CtW.of hl miL_thresholdAt (Nat.le_of_ble_eq_true rfl) ?_
  intro X hXl hN ok ex tb
  subst hXl
  refine AW.cast (L2 := [some (.ref 0), some (iv a1), some (.ref 5), none]) ?_ rfl rfl rfl
  refine a_aload_n (pc := 0) ok dL_thresholdAt_0 rfl ?_
  refine a_iconst (pc := 1) ok dL_thresholdAt_1 ?_
  refine a_aload_n (pc := 2) ok dL_thresholdAt_2 rfl ?_
  refine a_iload_n (pc := 3) ok dL_thresholdAt_3 rfl ?_
  refine x_callV (pc := 4) ok (πs 5 46) 5 dL_thresholdAt_4 mvL_30 miX6_thresholdAt (ct) ⟨by decide, by decide, rfl, rfl, Nat.zero_le _, Nat.zero_le _⟩ rfl rfl (Nat.le_of_ble_eq_true rfl) hM (fit_wr hM) (nd_wr _ _) hob rfl (fun v M9 h9 => by rw [hP _ h9.2, hM]) ?_
  rintro _ M' ⟨rfl, hp⟩
  refine AW.cast (st2 := [iv z, iv 0, .ref 5]) (M2 := wr 5 46 M' fo) ?_ rfl rfl (pb_wr hM (hP _ hp))
  refine a_i2l (pc := 7) ok dL_thresholdAt_7 (by exact hz) ?_
  refine a_last (pc := 8) ok dL_thresholdAt_8 (wr_out (hP _ hp)) (by decide) (by omega) ?_
  refine AW.cast (M2 := wr 5 46 M' (up fo 0 z)) ?_ rfl rfl (wr_set (hP _ hp))
  refine a_goto (pc := 9) (tgt := 15) ok dL_thresholdAt_9 (by decide) ?_
  refine a_iconst (pc := 15) ok dL_thresholdAt_15 ?_
  refine AW.widen (kc2 := 1) (ks2 := 6) (Nat.zero_le _) (Nat.zero_le _) ?_
  exact a_iret (pc := 16) ok dL_thresholdAt_16 (⟨rfl, M', hp, rfl⟩)
theorem wx_thresholdAt (hl : l.stackTraces = false) {a1 : Int} (hM : M.length = 5) (hob : M[0]? = some (.inr (6, fs))) (ct : CtX l yX6_thresholdAt cX6_thresholdAt 2 (some .int) rxthresholdAt [.ref 0, iv a1] M nIO P) (hP : ∀ M9, P M9 → M9.length = 5) :
    CtW l yL_thresholdAt cL_thresholdAt 4 (some .int) hhL_thresholdAt rwL_thresholdAt [.ref 0, iv a1, .ref 5] (wr 5 46 M fo) (fun v M8 => v = some (iv 1) ∧ ∃ M9, P M9 ∧ M8 = wr 5 46 M9 fo) := by
  refine CtW.of hl miL_thresholdAt (Nat.le_of_ble_eq_true rfl) ?_
  intro X hXl hN ok ex tb
  subst hXl
  refine AW.cast (L2 := [some (.ref 0), some (iv a1), some (.ref 5), none]) ?_ rfl rfl rfl
  refine a_aload_n (pc := 0) ok dL_thresholdAt_0 rfl ?_
  refine a_iconst (pc := 1) ok dL_thresholdAt_1 ?_
  refine a_aload_n (pc := 2) ok dL_thresholdAt_2 rfl ?_
  refine a_iload_n (pc := 3) ok dL_thresholdAt_3 rfl ?_
  exact w_callV (pc := 4) (hh := hhL_thresholdAt) (k := 1) (name := nIO) (pre := []) (suf := []) (x := ⟨0, 9, 12, 28⟩) ok ex tb (πs 5 46) 5 dL_thresholdAt_4 mvL_30 miX6_thresholdAt ct ⟨by decide, by decide, rfl, rfl, by decide, by decide⟩ rfl rfl (Nat.le_of_ble_eq_true rfl) hM (fit_wr hM) (nd_wr _ _) hob rfl (fun M9 h9 => by rw [hP _ h9, hM]) rfl (fun z hz => nomatch hz) (by decide) (by decide) (ug3 194 (by decide +kernel) rfl) cast_nIO (Or.inl ⟨3, dL_thresholdAt_12, by rw [hN]; decide, dL_thresholdAt_13, dL_thresholdAt_14⟩) (fun M9 h9 => ⟨rfl, M9, h9, pb_wr hM (hP _ h9)⟩)
theorem dL_island_0 : decode cL_island 0 = .ok (.aload_n 3, 1) := by decide +kernel
theorem dL_island_1 : decode cL_island 1 = .ok (.iconst 0, 1) := by decide +kernel
theorem dL_island_2 : decode cL_island 2 = .ok (.aload_n 0, 1) := by decide +kernel
theorem dL_island_3 : decode cL_island 3 = .ok (.iload_n 1, 1) := by decide +kernel
theorem dL_island_4 : decode cL_island 4 = .ok (.iload_n 2, 1) := by decide +kernel
theorem dL_island_5 : decode cL_island 5 = .ok (.invokevirtual 33, 3) := by decide +kernel
theorem dL_island_8 : decode cL_island 8 = .ok (.i2l, 1) := by decide +kernel
theorem dL_island_9 : decode cL_island 9 = .ok (.lastore, 1) := by decide +kernel
theorem dL_island_10 : decode cL_island 10 = .ok (.goto 11, 3) := by decide +kernel
theorem dL_island_13 : decode cL_island 13 = .ok (.astore 4, 2) := by decide +kernel
theorem dL_island_15 : decode cL_island 15 = .ok (.iconst 1, 1) := by decide +kernel
theorem dL_island_16 : decode cL_island 16 = .ok (.ireturn, 1) := by decide +kernel
theorem dL_island_17 : decode cL_island 17 = .ok (.astore 4, 2) := by decide +kernel
theorem dL_island_19 : decode cL_island 19 = .ok (.iconst 2, 1) := by decide +kernel
theorem dL_island_20 : decode cL_island 20 = .ok (.ireturn, 1) := by decide +kernel
theorem dL_island_21 : decode cL_island 21 = .ok (.iconst 0, 1) := by decide +kernel
theorem dL_island_22 : decode cL_island 22 = .ok (.ireturn, 1) := by decide +kernel
theorem w_island (hl : l.stackTraces = false) {a1 a2 : Int} {z : Int} (hM : M.length = 19) (hob : M[0]? = some (.inr (6, fs))) (ct : Ct l yX6_island cX6_island 4 (some .int) rmX6_island [.ref 0, iv a1, iv a2] M (fun v M9 => v = some (iv z) ∧ P M9)) (hP : ∀ M9, P M9 → M9.length = 19) (hz : rg z) :
    CtW l yL_island cL_island 5 (some .int) hhL_island rwL_island [.ref 0, iv a1, iv a2, .ref 19] (wr 19 46 M fo) (fun v M8 => v = some (iv 0) ∧ ∃ M9, P M9 ∧ M8 = wr 19 46 M9 (up fo 0 z)) := by
  refine CtW.of hl miL_island (Nat.le_of_ble_eq_true rfl) ?_
  intro X hXl hN ok ex tb
  subst hXl
  refine AW.cast (L2 := [some (.ref 0), some (iv a1), some (iv a2), some (.ref 19), none]) ?_ rfl rfl rfl
  refine a_aload_n (pc := 0) ok dL_island_0 rfl ?_
  refine a_iconst (pc := 1) ok dL_island_1 ?_
  refine a_aload_n (pc := 2) ok dL_island_2 rfl ?_
  refine a_iload_n (pc := 3) ok dL_island_3 rfl ?_
  refine a_iload_n (pc := 4) ok dL_island_4 rfl ?_
  refine x_callV (pc := 5) ok (πs 19 46) 19 dL_island_5 mvL_33 miX6_island (ct) ⟨by decide, by decide, rfl, rfl, Nat.zero_le _, Nat.zero_le _⟩ rfl rfl (Nat.le_of_ble_eq_true rfl) hM (fit_wr hM) (nd_wr _ _) hob rfl (fun v M9 h9 => by rw [hP _ h9.2, hM]) ?_
  rintro _ M' ⟨rfl, hp⟩
  refine AW.cast (st2 := [iv z, iv 0, .ref 19]) (M2 := wr 19 46 M' fo) ?_ rfl rfl (pb_wr hM (hP _ hp))
  refine a_i2l (pc := 8) ok dL_island_8 (by exact hz) ?_
  refine a_last (pc := 9) ok dL_island_9 (wr_out (hP _ hp)) (by decide) (by omega) ?_
  refine AW.cast (M2 := wr 19 46 M' (up fo 0 z)) ?_ rfl rfl (wr_set (hP _ hp))
  refine a_goto (pc := 10) (tgt := 21) ok dL_island_10 (by decide) ?_
  refine a_iconst (pc := 21) ok dL_island_21 ?_
  refine AW.widen (kc2 := 1) (ks2 := 6) (Nat.zero_le _) (Nat.zero_le _) ?_
  exact a_iret (pc := 22) ok dL_island_22 (⟨rfl, M', hp, rfl⟩)
theorem wx_island1 (hl : l.stackTraces = false) {a1 a2 : Int} (hM : M.length = 19) (hob : M[0]? = some (.inr (6, fs))) (ct : CtX l yX6_island cX6_island 4 (some .int) rxisland [.ref 0, iv a1, iv a2] M nIO P) (hP : ∀ M9, P M9 → M9.length = 19) :
    CtW l yL_island cL_island 5 (some .int) hhL_island rwL_island [.ref 0, iv a1, iv a2, .ref 19] (wr 19 46 M fo) (fun v M8 => v = some (iv 1) ∧ ∃ M9, P M9 ∧ M8 = wr 19 46 M9 fo) := by
  refine CtW.of hl miL_island (Nat.le_of_ble_eq_true rfl) ?_
  intro X hXl hN ok ex tb
  subst hXl
  refine AW.cast (L2 := [some (.ref 0), some (iv a1), some (iv a2), some (.ref 19), none]) ?_ rfl rfl rfl
  refine a_aload_n (pc := 0) ok dL_island_0 rfl ?_
  refine a_iconst (pc := 1) ok dL_island_1 ?_
  refine a_aload_n (pc := 2) ok dL_island_2 rfl ?_
  refine a_iload_n (pc := 3) ok dL_island_3 rfl ?_
  refine a_iload_n (pc := 4) ok dL_island_4 rfl ?_
  exact w_callV (pc := 5) (hh := hhL_island) (k := 1) (name := nIO) (pre := []) (suf := [⟨0, 10, 17, 13⟩]) (x := ⟨0, 10, 13, 28⟩) ok ex tb (πs 19 46) 19 dL_island_5 mvL_33 miX6_island ct ⟨by decide, by decide, rfl, rfl, by decide, by decide⟩ rfl rfl (Nat.le_of_ble_eq_true rfl) hM (fit_wr hM) (nd_wr _ _) hob rfl (fun M9 h9 => by rw [hP _ h9, hM]) rfl (fun z hz => nomatch hz) (by decide) (by decide) (ug3 194 (by decide +kernel) rfl) cast_nIO (Or.inr ⟨4, dL_island_13, by rw [hN]; decide, dL_island_15, dL_island_16⟩) (fun M9 h9 => ⟨rfl, M9, h9, pb_wr hM (hP _ h9)⟩)
theorem wx_island2 (hl : l.stackTraces = false) {a1 a2 : Int} (hM : M.length = 19) (hob : M[0]? = some (.inr (6, fs))) (ct : CtX l yX6_island cX6_island 4 (some .int) rxisland [.ref 0, iv a1, iv a2] M nIA P) (hP : ∀ M9, P M9 → M9.length = 19) :
    CtW l yL_island cL_island 5 (some .int) hhL_island rwL_island [.ref 0, iv a1, iv a2, .ref 19] (wr 19 46 M fo) (fun v M8 => v = some (iv 2) ∧ ∃ M9, P M9 ∧ M8 = wr 19 46 M9 fo) := by
  refine CtW.of hl miL_island (Nat.le_of_ble_eq_true rfl) ?_
  intro X hXl hN ok ex tb
  subst hXl
  refine AW.cast (L2 := [some (.ref 0), some (iv a1), some (iv a2), some (.ref 19), none]) ?_ rfl rfl rfl
  refine a_aload_n (pc := 0) ok dL_island_0 rfl ?_
  refine a_iconst (pc := 1) ok dL_island_1 ?_
  refine a_aload_n (pc := 2) ok dL_island_2 rfl ?_
  refine a_iload_n (pc := 3) ok dL_island_3 rfl ?_
  refine a_iload_n (pc := 4) ok dL_island_4 rfl ?_
  exact w_callV (pc := 5) (hh := hhL_island) (k := 2) (name := nIA) (pre := [⟨0, 10, 13, 28⟩]) (suf := []) (x := ⟨0, 10, 17, 13⟩) ok ex tb (πs 19 46) 19 dL_island_5 mvL_33 miX6_island ct ⟨by decide, by decide, rfl, rfl, by decide, by decide⟩ rfl rfl (Nat.le_of_ble_eq_true rfl) hM (fit_wr hM) (nd_wr _ _) hob rfl (fun M9 h9 => by rw [hP _ h9, hM]) rfl (fun z hz => by cases List.mem_singleton.mp hz; exact ⟨by decide, nIO, ug3 194 (by decide +kernel) rfl, by decide +kernel⟩) (by decide) (by decide) (ug2 191 (by decide +kernel) rfl) cast_nIA (Or.inr ⟨4, dL_island_17, by rw [hN]; decide, dL_island_19, dL_island_20⟩) (fun M9 h9 => ⟨rfl, M9, h9, pb_wr hM (hP _ h9)⟩)
theorem dL_border_0 : decode cL_border 0 = .ok (.aload_n 3, 1) := by decide +kernel
theorem dL_border_1 : decode cL_border 1 = .ok (.iconst 0, 1) := by decide +kernel
theorem dL_border_2 : decode cL_border 2 = .ok (.aload_n 0, 1) := by decide +kernel
theorem dL_border_3 : decode cL_border 3 = .ok (.iload_n 1, 1) := by decide +kernel
theorem dL_border_4 : decode cL_border 4 = .ok (.iload_n 2, 1) := by decide +kernel
theorem dL_border_5 : decode cL_border 5 = .ok (.invokevirtual 37, 3) := by decide +kernel
theorem dL_border_8 : decode cL_border 8 = .ok (.i2l, 1) := by decide +kernel
theorem dL_border_9 : decode cL_border 9 = .ok (.lastore, 1) := by decide +kernel
theorem dL_border_10 : decode cL_border 10 = .ok (.goto 7, 3) := by decide +kernel
theorem dL_border_13 : decode cL_border 13 = .ok (.astore 4, 2) := by decide +kernel
theorem dL_border_15 : decode cL_border 15 = .ok (.iconst 1, 1) := by decide +kernel
theorem dL_border_16 : decode cL_border 16 = .ok (.ireturn, 1) := by decide +kernel
theorem dL_border_17 : decode cL_border 17 = .ok (.iconst 0, 1) := by decide +kernel
theorem dL_border_18 : decode cL_border 18 = .ok (.ireturn, 1) := by decide +kernel
theorem w_border (hl : l.stackTraces = false) {a1 a2 : Int} {z : Int} (hM : M.length = 19) (hob : M[0]? = some (.inr (6, fs))) (ct : Ct l yX6_border cX6_border 4 (some .int) rmX6_border [.ref 0, iv a1, iv a2] M (fun v M9 => v = some (iv z) ∧ P M9)) (hP : ∀ M9, P M9 → M9.length = 19) (hz : rg z) :
    CtW l yL_border cL_border 5 (some .int) hhL_border rwL_border [.ref 0, iv a1, iv a2, .ref 19] (wr 19 46 M fo) (fun v M8 => v = some (iv 0) ∧ ∃ M9, P M9 ∧ M8 = wr 19 46 M9 (up fo 0 z)) := by
  refine CtW.of hl miL_border (Nat.le_of_ble_eq_true rfl) ?_
  intro X hXl hN ok ex tb
  subst hXl
  refine AW.cast (L2 := [some (.ref 0), some (iv a1), some (iv a2), some (.ref 19), none]) ?_ rfl rfl rfl
  refine a_aload_n (pc := 0) ok dL_border_0 rfl ?_
  refine a_iconst (pc := 1) ok dL_border_1 ?_
  refine a_aload_n (pc := 2) ok dL_border_2 rfl ?_
  refine a_iload_n (pc := 3) ok dL_border_3 rfl ?_
  refine a_iload_n (pc := 4) ok dL_border_4 rfl ?_
  refine x_callV (pc := 5) ok (πs 19 46) 19 dL_border_5 mvL_37 miX6_border (ct) ⟨by decide, by decide, rfl, rfl, Nat.zero_le _, Nat.zero_le _⟩ rfl rfl (Nat.le_of_ble_eq_true rfl) hM (fit_wr hM) (nd_wr _ _) hob rfl (fun v M9 h9 => by rw [hP _ h9.2, hM]) ?_
  rintro _ M' ⟨rfl, hp⟩
  refine AW.cast (st2 := [iv z, iv 0, .ref 19]) (M2 := wr 19 46 M' fo) ?_ rfl rfl (pb_wr hM (hP _ hp))
  refine a_i2l (pc := 8) ok dL_border_8 (by exact hz) ?_
  refine a_last (pc := 9) ok dL_border_9 (wr_out (hP _ hp)) (by decide) (by omega) ?_
  refine AW.cast (M2 := wr 19 46 M' (up fo 0 z)) ?_ rfl rfl (wr_set (hP _ hp))
  refine a_goto (pc := 10) (tgt := 17) ok dL_border_10 (by decide) ?_
  refine a_iconst (pc := 17) ok dL_border_17 ?_
  refine AW.widen (kc2 := 1) (ks2 := 6) (Nat.zero_le _) (Nat.zero_le _) ?_
  exact a_iret (pc := 18) ok dL_border_18 (⟨rfl, M', hp, rfl⟩)
theorem wx_border (hl : l.stackTraces = false) {a1 a2 : Int} (hM : M.length = 19) (hob : M[0]? = some (.inr (6, fs))) (ct : CtX l yX6_border cX6_border 4 (some .int) rxborder [.ref 0, iv a1, iv a2] M nIO P) (hP : ∀ M9, P M9 → M9.length = 19) :
    CtW l yL_border cL_border 5 (some .int) hhL_border rwL_border [.ref 0, iv a1, iv a2, .ref 19] (wr 19 46 M fo) (fun v M8 => v = some (iv 1) ∧ ∃ M9, P M9 ∧ M8 = wr 19 46 M9 fo) := by
  refine CtW.of hl miL_border (Nat.le_of_ble_eq_true rfl) ?_
  intro X hXl hN ok ex tb
  subst hXl
  refine AW.cast (L2 := [some (.ref 0), some (iv a1), some (iv a2), some (.ref 19), none]) ?_ rfl rfl rfl
  refine a_aload_n (pc := 0) ok dL_border_0 rfl ?_
  refine a_iconst (pc := 1) ok dL_border_1 ?_
  refine a_aload_n (pc := 2) ok dL_border_2 rfl ?_
  refine a_iload_n (pc := 3) ok dL_border_3 rfl ?_
  refine a_iload_n (pc := 4) ok dL_border_4 rfl ?_
  exact w_callV (pc := 5) (hh := hhL_border) (k := 1) (name := nIO) (pre := []) (suf := []) (x := ⟨0, 10, 13, 28⟩) ok ex tb (πs 19 46) 19 dL_border_5 mvL_37 miX6_border ct ⟨by decide, by decide, rfl, rfl, by decide, by decide⟩ rfl rfl (Nat.le_of_ble_eq_true rfl) hM (fit_wr hM) (nd_wr _ _) hob rfl (fun M9 h9 => by rw [hP _ h9, hM]) rfl (fun z hz => nomatch hz) (by decide) (by decide) (ug3 194 (by decide +kernel) rfl) cast_nIO (Or.inr ⟨4, dL_border_13, by rw [hN]; decide, dL_border_15, dL_border_16⟩) (fun M9 h9 => ⟨rfl, M9, h9, pb_wr hM (hP _ h9)⟩)
theorem dL_outline_0 : decode cL_outline 0 = .ok (.aload_n 3, 1) := by decide +kernel
theorem dL_outline_1 : decode cL_outline 1 = .ok (.iconst 0, 1) := by decide +kernel
theorem dL_outline_2 : decode cL_outline 2 = .ok (.aload_n 0, 1) := by decide +kernel
theorem dL_outline_3 : decode cL_outline 3 = .ok (.iload_n 1, 1) := by decide +kernel
theorem dL_outline_4 : decode cL_outline 4 = .ok (.iload_n 2, 1) := by decide +kernel
theorem dL_outline_5 : decode cL_outline 5 = .ok (.invokevirtual 40, 3) := by decide +kernel
theorem dL_outline_8 : decode cL_outline 8 = .ok (.i2l, 1) := by decide +kernel
theorem dL_outline_9 : decode cL_outline 9 = .ok (.lastore, 1) := by decide +kernel
theorem dL_outline_10 : decode cL_outline 10 = .ok (.goto 11, 3) := by decide +kernel
theorem dL_outline_13 : decode cL_outline 13 = .ok (.astore 4, 2) := by decide +kernel
theorem dL_outline_15 : decode cL_outline 15 = .ok (.iconst 1, 1) := by decide +kernel
theorem dL_outline_16 : decode cL_outline 16 = .ok (.ireturn, 1) := by decide +kernel
theorem dL_outline_17 : decode cL_outline 17 = .ok (.astore 4, 2) := by decide +kernel
theorem dL_outline_19 : decode cL_outline 19 = .ok (.iconst 2, 1) := by decide +kernel
theorem dL_outline_20 : decode cL_outline 20 = .ok (.ireturn, 1) := by decide +kernel
theorem dL_outline_21 : decode cL_outline 21 = .ok (.iconst 0, 1) := by decide +kernel
theorem dL_outline_22 : decode cL_outline 22 = .ok (.ireturn, 1) := by decide +kernel
theorem w_outline (hl : l.stackTraces = false) {a1 a2 : Int} {z : Int} (hM : M.length = 20) (hob : M[0]? = some (.inr (6, fs))) (ct : Ct l yX6_outline cX6_outline 4 (some .int) rmX6_outline [.ref 0, iv a1, iv a2] M (fun v M9 => v = some (iv z) ∧ P M9)) (hP : ∀ M9, P M9 → M9.length = 20) (hz : rg z) :
    CtW l yL_outline cL_outline 5 (some .int) hhL_outline rwL_outline [.ref 0, iv a1, iv a2, .ref 20] (wr 20 46 M fo) (fun v M8 => v = some (iv 0) ∧ ∃ M9, P M9 ∧ M8 = wr 20 46 M9 (up fo 0 z)) := by
  refine CtW.of hl miL_outline (Nat.le_of_ble_eq_true rfl) ?_
  intro X hXl hN ok ex tb
  subst hXl
  refine AW.cast (L2 := [some (.ref 0), some (iv a1), some (iv a2), some (.ref 20), none]) ?_ rfl rfl rfl
  refine a_aload_n (pc := 0) ok dL_outline_0 rfl ?_
  refine a_iconst (pc := 1) ok dL_outline_1 ?_
  refine a_aload_n (pc := 2) ok dL_outline_2 rfl ?_
  refine a_iload_n (pc := 3) ok dL_outline_3 rfl ?_
  refine a_iload_n (pc := 4) ok dL_outline_4 rfl ?_
  refine x_callV (pc := 5) ok (πs 20 46) 20 dL_outline_5 mvL_40 miX6_outline (ct) ⟨by decide, by decide, rfl, rfl, Nat.zero_le _, Nat.zero_le _⟩ rfl rfl (Nat.le_of_ble_eq_true rfl) hM (fit_wr hM) (nd_wr _ _) hob rfl (fun v M9 h9 => by rw [hP _ h9.2, hM]) ?_
  rintro _ M' ⟨rfl, hp⟩
  refine AW.cast (st2 := [iv z, iv 0, .ref 20]) (M2 := wr 20 46 M' fo) ?_ rfl rfl (pb_wr hM (hP _ hp))
  refine a_i2l (pc := 8) ok dL_outline_8 (by exact hz) ?_
  refine a_last (pc := 9) ok dL_outline_9 (wr_out (hP _ hp)) (by decide) (by omega) ?_
  refine AW.cast (M2 := wr 20 46 M' (up fo 0 z)) ?_ rfl rfl (wr_set (hP _ hp))
  refine a_goto (pc := 10) (tgt := 21) ok dL_outline_10 (by decide) ?_
  refine a_iconst (pc := 21) ok dL_outline_21 ?_
  refine AW.widen (kc2 := 1) (ks2 := 6) (Nat.zero_le _) (Nat.zero_le _) ?_
  exact a_iret (pc := 22) ok dL_outline_22 (⟨rfl, M', hp, rfl⟩)
theorem wx_outline1 (hl : l.stackTraces = false) {a1 a2 : Int} (hM : M.length = 20) (hob : M[0]? = some (.inr (6, fs))) (ct : CtX l yX6_outline cX6_outline 4 (some .int) rxoutline [.ref 0, iv a1, iv a2] M nIO P) (hP : ∀ M9, P M9 → M9.length = 20) :
    CtW l yL_outline cL_outline 5 (some .int) hhL_outline rwL_outline [.ref 0, iv a1, iv a2, .ref 20] (wr 20 46 M fo) (fun v M8 => v = some (iv 1) ∧ ∃ M9, P M9 ∧ M8 = wr 20 46 M9 fo) := by
  refine CtW.of hl miL_outline (Nat.le_of_ble_eq_true rfl) ?_
  intro X hXl hN ok ex tb
  subst hXl
  refine AW.cast (L2 := [some (.ref 0), some (iv a1), some (iv a2), some (.ref 20), none]) ?_ rfl rfl rfl
  refine a_aload_n (pc := 0) ok dL_outline_0 rfl ?_
  refine a_iconst (pc := 1) ok dL_outline_1 ?_
  refine a_aload_n (pc := 2) ok dL_outline_2 rfl ?_
  refine a_iload_n (pc := 3) ok dL_outline_3 rfl ?_
  refine a_iload_n (pc := 4) ok dL_outline_4 rfl ?_
  exact w_callV (pc := 5) (hh := hhL_outline) (k := 1) (name := nIO) (pre := []) (suf := [⟨0, 10, 17, 13⟩]) (x := ⟨0, 10, 13, 28⟩) ok ex tb (πs 20 46) 20 dL_outline_5 mvL_40 miX6_outline ct ⟨by decide, by decide, rfl, rfl, by decide, by decide⟩ rfl rfl (Nat.le_of_ble_eq_true rfl) hM (fit_wr hM) (nd_wr _ _) hob rfl (fun M9 h9 => by rw [hP _ h9, hM]) rfl (fun z hz => nomatch hz) (by decide) (by decide) (ug3 194 (by decide +kernel) rfl) cast_nIO (Or.inr ⟨4, dL_outline_13, by rw [hN]; decide, dL_outline_15, dL_outline_16⟩) (fun M9 h9 => ⟨rfl, M9, h9, pb_wr hM (hP _ h9)⟩)
theorem wx_outline2 (hl : l.stackTraces = false) {a1 a2 : Int} (hM : M.length = 20) (hob : M[0]? = some (.inr (6, fs))) (ct : CtX l yX6_outline cX6_outline 4 (some .int) rxoutline [.ref 0, iv a1, iv a2] M nIA P) (hP : ∀ M9, P M9 → M9.length = 20) :
    CtW l yL_outline cL_outline 5 (some .int) hhL_outline rwL_outline [.ref 0, iv a1, iv a2, .ref 20] (wr 20 46 M fo) (fun v M8 => v = some (iv 2) ∧ ∃ M9, P M9 ∧ M8 = wr 20 46 M9 fo) := by
  refine CtW.of hl miL_outline (Nat.le_of_ble_eq_true rfl) ?_
  intro X hXl hN ok ex tb
  subst hXl
  refine AW.cast (L2 := [some (.ref 0), some (iv a1), some (iv a2), some (.ref 20), none]) ?_ rfl rfl rfl
  refine a_aload_n (pc := 0) ok dL_outline_0 rfl ?_
  refine a_iconst (pc := 1) ok dL_outline_1 ?_
  refine a_aload_n (pc := 2) ok dL_outline_2 rfl ?_
  refine a_iload_n (pc := 3) ok dL_outline_3 rfl ?_
  refine a_iload_n (pc := 4) ok dL_outline_4 rfl ?_
  exact w_callV (pc := 5) (hh := hhL_outline) (k := 2) (name := nIA) (pre := [⟨0, 10, 13, 28⟩]) (suf := []) (x := ⟨0, 10, 17, 13⟩) ok ex tb (πs 20 46) 20 dL_outline_5 mvL_40 miX6_outline ct ⟨by decide, by decide, rfl, rfl, by decide, by decide⟩ rfl rfl (Nat.le_of_ble_eq_true rfl) hM (fit_wr hM) (nd_wr _ _) hob rfl (fun M9 h9 => by rw [hP _ h9, hM]) rfl (fun z hz => by cases List.mem_singleton.mp hz; exact ⟨by decide, nIO, ug3 194 (by decide +kernel) rfl, by decide +kernel⟩) (by decide) (by decide) (ug2 191 (by decide +kernel) rfl) cast_nIA (Or.inr ⟨4, dL_outline_17, by rw [hN]; decide, dL_outline_19, dL_outline_20⟩) (fun M9 h9 => ⟨rfl, M9, h9, pb_wr hM (hP _ h9)⟩)
theorem dL_outlineWay_0 : decode cL_outlineWay 0 = .ok (.aload_n 3, 1) := by decide +kernel
theorem dL_outlineWay_1 : decode cL_outlineWay 1 = .ok (.iconst 0, 1) := by decide +kernel
theorem dL_outlineWay_2 : decode cL_outlineWay 2 = .ok (.aload_n 0, 1) := by decide +kernel
theorem dL_outlineWay_3 : decode cL_outlineWay 3 = .ok (.iload_n 1, 1) := by decide +kernel
theorem dL_outlineWay_4 : decode cL_outlineWay 4 = .ok (.iload_n 2, 1) := by decide +kernel
theorem dL_outlineWay_5 : decode cL_outlineWay 5 = .ok (.invokevirtual 43, 3) := by decide +kernel
theorem dL_outlineWay_8 : decode cL_outlineWay 8 = .ok (.i2l, 1) := by decide +kernel
theorem dL_outlineWay_9 : decode cL_outlineWay 9 = .ok (.lastore, 1) := by decide +kernel
theorem dL_outlineWay_10 : decode cL_outlineWay 10 = .ok (.goto 7, 3) := by decide +kernel
theorem dL_outlineWay_13 : decode cL_outlineWay 13 = .ok (.astore 4, 2) := by decide +kernel
theorem dL_outlineWay_15 : decode cL_outlineWay 15 = .ok (.iconst 1, 1) := by decide +kernel
theorem dL_outlineWay_16 : decode cL_outlineWay 16 = .ok (.ireturn, 1) := by decide +kernel
theorem dL_outlineWay_17 : decode cL_outlineWay 17 = .ok (.iconst 0, 1) := by decide +kernel
theorem dL_outlineWay_18 : decode cL_outlineWay 18 = .ok (.ireturn, 1) := by decide +kernel
theorem w_outlineWay (hl : l.stackTraces = false) {a1 a2 : Int} {z : Int} (hM : M.length = 20) (hob : M[0]? = some (.inr (6, fs))) (ct : Ct l yX6_outlineWay cX6_outlineWay 4 (some .int) rmX6_outlineWay [.ref 0, iv a1, iv a2] M (fun v M9 => v = some (iv z) ∧ P M9)) (hP : ∀ M9, P M9 → M9.length = 20) (hz : rg z) :
    CtW l yL_outlineWay cL_outlineWay 5 (some .int) hhL_outlineWay rwL_outlineWay [.ref 0, iv a1, iv a2, .ref 20] (wr 20 46 M fo) (fun v M8 => v = some (iv 0) ∧ ∃ M9, P M9 ∧ M8 = wr 20 46 M9 (up fo 0 z)) := by
  refine CtW.of hl miL_outlineWay (Nat.le_of_ble_eq_true rfl) ?_
  intro X hXl hN ok ex tb
  subst hXl
  refine AW.cast (L2 := [some (.ref 0), some (iv a1), some (iv a2), some (.ref 20), none]) ?_ rfl rfl rfl
  refine a_aload_n (pc := 0) ok dL_outlineWay_0 rfl ?_
  refine a_iconst (pc := 1) ok dL_outlineWay_1 ?_
  refine a_aload_n (pc := 2) ok dL_outlineWay_2 rfl ?_
  refine a_iload_n (pc := 3) ok dL_outlineWay_3 rfl ?_
  refine a_iload_n (pc := 4) ok dL_outlineWay_4 rfl ?_
  refine x_callV (pc := 5) ok (πs 20 46) 20 dL_outlineWay_5 mvL_43 miX6_outlineWay (ct) ⟨by decide, by decide, rfl, rfl, Nat.zero_le _, Nat.zero_le _⟩ rfl rfl (Nat.le_of_ble_eq_true rfl) hM (fit_wr hM) (nd_wr _ _) hob rfl (fun v M9 h9 => by rw [hP _ h9.2, hM]) ?_
  rintro _ M' ⟨rfl, hp⟩
  refine AW.cast (st2 := [iv z, iv 0, .ref 20]) (M2 := wr 20 46 M' fo) ?_ rfl rfl (pb_wr hM (hP _ hp))
  refine a_i2l (pc := 8) ok dL_outlineWay_8 (by exact hz) ?_
  refine a_last (pc := 9) ok dL_outlineWay_9 (wr_out (hP _ hp)) (by decide) (by omega) ?_
  refine AW.cast (M2 := wr 20 46 M' (up fo 0 z)) ?_ rfl rfl (wr_set (hP _ hp))
  refine a_goto (pc := 10) (tgt := 17) ok dL_outlineWay_10 (by decide) ?_
  refine a_iconst (pc := 17) ok dL_outlineWay_17 ?_
  refine AW.widen (kc2 := 1) (ks2 := 6) (Nat.zero_le _) (Nat.zero_le _) ?_
  exact a_iret (pc := 18) ok dL_outlineWay_18 (⟨rfl, M', hp, rfl⟩)
theorem wx_outlineWay (hl : l.stackTraces = false) {a1 a2 : Int} (hM : M.length = 20) (hob : M[0]? = some (.inr (6, fs))) (ct : CtX l yX6_outlineWay cX6_outlineWay 4 (some .int) rxoutlineWay [.ref 0, iv a1, iv a2] M nIO P) (hP : ∀ M9, P M9 → M9.length = 20) :
    CtW l yL_outlineWay cL_outlineWay 5 (some .int) hhL_outlineWay rwL_outlineWay [.ref 0, iv a1, iv a2, .ref 20] (wr 20 46 M fo) (fun v M8 => v = some (iv 1) ∧ ∃ M9, P M9 ∧ M8 = wr 20 46 M9 fo) := by
  refine CtW.of hl miL_outlineWay (Nat.le_of_ble_eq_true rfl) ?_
  intro X hXl hN ok ex tb
  subst hXl
  refine AW.cast (L2 := [some (.ref 0), some (iv a1), some (iv a2), some (.ref 20), none]) ?_ rfl rfl rfl
  refine a_aload_n (pc := 0) ok dL_outlineWay_0 rfl ?_
  refine a_iconst (pc := 1) ok dL_outlineWay_1 ?_
  refine a_aload_n (pc := 2) ok dL_outlineWay_2 rfl ?_
  refine a_iload_n (pc := 3) ok dL_outlineWay_3 rfl ?_
  refine a_iload_n (pc := 4) ok dL_outlineWay_4 rfl ?_
  exact w_callV (pc := 5) (hh := hhL_outlineWay) (k := 1) (name := nIO) (pre := []) (suf := []) (x := ⟨0, 10, 13, 28⟩) ok ex tb (πs 20 46) 20 dL_outlineWay_5 mvL_43 miX6_outlineWay ct ⟨by decide, by decide, rfl, rfl, by decide, by decide⟩ rfl rfl (Nat.le_of_ble_eq_true rfl) hM (fit_wr hM) (nd_wr _ _) hob rfl (fun M9 h9 => by rw [hP _ h9, hM]) rfl (fun z hz => nomatch hz) (by decide) (by decide) (ug3 194 (by decide +kernel) rfl) cast_nIO (Or.inr ⟨4, dL_outlineWay_13, by rw [hN]; decide, dL_outlineWay_15, dL_outlineWay_16⟩) (fun M9 h9 => ⟨rfl, M9, h9, pb_wr hM (hP _ h9)⟩)
theorem dL_band_0 : decode cL_band 0 = .ok (.aload_n 3, 1) := by decide +kernel
theorem dL_band_1 : decode cL_band 1 = .ok (.iconst 0, 1) := by decide +kernel
theorem dL_band_2 : decode cL_band 2 = .ok (.aload_n 0, 1) := by decide +kernel
theorem dL_band_3 : decode cL_band 3 = .ok (.iload_n 1, 1) := by decide +kernel
theorem dL_band_4 : decode cL_band 4 = .ok (.iload_n 2, 1) := by decide +kernel
theorem dL_band_5 : decode cL_band 5 = .ok (.invokevirtual 46, 3) := by decide +kernel
theorem dL_band_8 : decode cL_band 8 = .ok (.i2l, 1) := by decide +kernel
theorem dL_band_9 : decode cL_band 9 = .ok (.lastore, 1) := by decide +kernel
theorem dL_band_10 : decode cL_band 10 = .ok (.goto 11, 3) := by decide +kernel
theorem dL_band_13 : decode cL_band 13 = .ok (.astore 4, 2) := by decide +kernel
theorem dL_band_15 : decode cL_band 15 = .ok (.iconst 1, 1) := by decide +kernel
theorem dL_band_16 : decode cL_band 16 = .ok (.ireturn, 1) := by decide +kernel
theorem dL_band_17 : decode cL_band 17 = .ok (.astore 4, 2) := by decide +kernel
theorem dL_band_19 : decode cL_band 19 = .ok (.iconst 2, 1) := by decide +kernel
theorem dL_band_20 : decode cL_band 20 = .ok (.ireturn, 1) := by decide +kernel
theorem dL_band_21 : decode cL_band 21 = .ok (.iconst 0, 1) := by decide +kernel
theorem dL_band_22 : decode cL_band 22 = .ok (.ireturn, 1) := by decide +kernel
theorem w_band (hl : l.stackTraces = false) {a1 a2 : Int} {z : Int} (hM : M.length = 19) (hob : M[0]? = some (.inr (6, fs))) (ct : Ct l yX6_band cX6_band 3 (some .int) rmX6_band [.ref 0, iv a1, iv a2] M (fun v M9 => v = some (iv z) ∧ P M9)) (hP : ∀ M9, P M9 → M9.length = 19) (hz : rg z) :
    CtW l yL_band cL_band 5 (some .int) hhL_band rwL_band [.ref 0, iv a1, iv a2, .ref 19] (wr 19 46 M fo) (fun v M8 => v = some (iv 0) ∧ ∃ M9, P M9 ∧ M8 = wr 19 46 M9 (up fo 0 z)) := by
  refine CtW.of hl miL_band (Nat.le_of_ble_eq_true rfl) ?_
  intro X hXl hN ok ex tb
  subst hXl
  refine AW.cast (L2 := [some (.ref 0), some (iv a1), some (iv a2), some (.ref 19), none]) ?_ rfl rfl rfl
  refine a_aload_n (pc := 0) ok dL_band_0 rfl ?_
  refine a_iconst (pc := 1) ok dL_band_1 ?_
  refine a_aload_n (pc := 2) ok dL_band_2 rfl ?_
  refine a_iload_n (pc := 3) ok dL_band_3 rfl ?_
  refine a_iload_n (pc := 4) ok dL_band_4 rfl ?_
  refine x_callV (pc := 5) ok (πs 19 46) 19 dL_band_5 mvL_46 miX6_band (ct) ⟨by decide, by decide, rfl, rfl, Nat.zero_le _, Nat.zero_le _⟩ rfl rfl (Nat.le_of_ble_eq_true rfl) hM (fit_wr hM) (nd_wr _ _) hob rfl (fun v M9 h9 => by rw [hP _ h9.2, hM]) ?_
  rintro _ M' ⟨rfl, hp⟩
  refine AW.cast (st2 := [iv z, iv 0, .ref 19]) (M2 := wr 19 46 M' fo) ?_ rfl rfl (pb_wr hM (hP _ hp))
  refine a_i2l (pc := 8) ok dL_band_8 (by exact hz) ?_
  refine a_last (pc := 9) ok dL_band_9 (wr_out (hP _ hp)) (by decide) (by omega) ?_
  refine AW.cast (M2 := wr 19 46 M' (up fo 0 z)) ?_ rfl rfl (wr_set (hP _ hp))
  refine a_goto (pc := 10) (tgt := 21) ok dL_band_10 (by decide) ?_
  refine a_iconst (pc := 21) ok dL_band_21 ?_
  refine AW.widen (kc2 := 1) (ks2 := 6) (Nat.zero_le _) (Nat.zero_le _) ?_
  exact a_iret (pc := 22) ok dL_band_22 (⟨rfl, M', hp, rfl⟩)
theorem wx_band1 (hl : l.stackTraces = false) {a1 a2 : Int} (hM : M.length = 19) (hob : M[0]? = some (.inr (6, fs))) (ct : CtX l yX6_band cX6_band 3 (some .int) rxband [.ref 0, iv a1, iv a2] M nIO P) (hP : ∀ M9, P M9 → M9.length = 19) :
    CtW l yL_band cL_band 5 (some .int) hhL_band rwL_band [.ref 0, iv a1, iv a2, .ref 19] (wr 19 46 M fo) (fun v M8 => v = some (iv 1) ∧ ∃ M9, P M9 ∧ M8 = wr 19 46 M9 fo) := by
  refine CtW.of hl miL_band (Nat.le_of_ble_eq_true rfl) ?_
  intro X hXl hN ok ex tb
  subst hXl
  refine AW.cast (L2 := [some (.ref 0), some (iv a1), some (iv a2), some (.ref 19), none]) ?_ rfl rfl rfl
  refine a_aload_n (pc := 0) ok dL_band_0 rfl ?_
  refine a_iconst (pc := 1) ok dL_band_1 ?_
  refine a_aload_n (pc := 2) ok dL_band_2 rfl ?_
  refine a_iload_n (pc := 3) ok dL_band_3 rfl ?_
  refine a_iload_n (pc := 4) ok dL_band_4 rfl ?_
  exact w_callV (pc := 5) (hh := hhL_band) (k := 1) (name := nIO) (pre := []) (suf := [⟨0, 10, 17, 13⟩]) (x := ⟨0, 10, 13, 28⟩) ok ex tb (πs 19 46) 19 dL_band_5 mvL_46 miX6_band ct ⟨by decide, by decide, rfl, rfl, by decide, by decide⟩ rfl rfl (Nat.le_of_ble_eq_true rfl) hM (fit_wr hM) (nd_wr _ _) hob rfl (fun M9 h9 => by rw [hP _ h9, hM]) rfl (fun z hz => nomatch hz) (by decide) (by decide) (ug3 194 (by decide +kernel) rfl) cast_nIO (Or.inr ⟨4, dL_band_13, by rw [hN]; decide, dL_band_15, dL_band_16⟩) (fun M9 h9 => ⟨rfl, M9, h9, pb_wr hM (hP _ h9)⟩)
theorem wx_band2 (hl : l.stackTraces = false) {a1 a2 : Int} (hM : M.length = 19) (hob : M[0]? = some (.inr (6, fs))) (ct : CtX l yX6_band cX6_band 3 (some .int) rxband [.ref 0, iv a1, iv a2] M nIA P) (hP : ∀ M9, P M9 → M9.length = 19) :
    CtW l yL_band cL_band 5 (some .int) hhL_band rwL_band [.ref 0, iv a1, iv a2, .ref 19] (wr 19 46 M fo) (fun v M8 => v = some (iv 2) ∧ ∃ M9, P M9 ∧ M8 = wr 19 46 M9 fo) := by
  refine CtW.of hl miL_band (Nat.le_of_ble_eq_true rfl) ?_
  intro X hXl hN ok ex tb
  subst hXl
  refine AW.cast (L2 := [some (.ref 0), some (iv a1), some (iv a2), some (.ref 19), none]) ?_ rfl rfl rfl
  refine a_aload_n (pc := 0) ok dL_band_0 rfl ?_
  refine a_iconst (pc := 1) ok dL_band_1 ?_
  refine a_aload_n (pc := 2) ok dL_band_2 rfl ?_
  refine a_iload_n (pc := 3) ok dL_band_3 rfl ?_
  refine a_iload_n (pc := 4) ok dL_band_4 rfl ?_
  exact w_callV (pc := 5) (hh := hhL_band) (k := 2) (name := nIA) (pre := [⟨0, 10, 13, 28⟩]) (suf := []) (x := ⟨0, 10, 17, 13⟩) ok ex tb (πs 19 46) 19 dL_band_5 mvL_46 miX6_band ct ⟨by decide, by decide, rfl, rfl, by decide, by decide⟩ rfl rfl (Nat.le_of_ble_eq_true rfl) hM (fit_wr hM) (nd_wr _ _) hob rfl (fun M9 h9 => by rw [hP _ h9, hM]) rfl (fun z hz => by cases List.mem_singleton.mp hz; exact ⟨by decide, nIO, ug3 194 (by decide +kernel) rfl, by decide +kernel⟩) (by decide) (by decide) (ug2 191 (by decide +kernel) rfl) cast_nIA (Or.inr ⟨4, dL_band_17, by rw [hN]; decide, dL_band_19, dL_band_20⟩) (fun M9 h9 => ⟨rfl, M9, h9, pb_wr hM (hP _ h9)⟩)
theorem dL_plate_0 : decode cL_plate 0 = .ok (.aload_n 3, 1) := by decide +kernel
theorem dL_plate_1 : decode cL_plate 1 = .ok (.iconst 0, 1) := by decide +kernel
theorem dL_plate_2 : decode cL_plate 2 = .ok (.aload_n 0, 1) := by decide +kernel
theorem dL_plate_3 : decode cL_plate 3 = .ok (.iload_n 1, 1) := by decide +kernel
theorem dL_plate_4 : decode cL_plate 4 = .ok (.iload_n 2, 1) := by decide +kernel
theorem dL_plate_5 : decode cL_plate 5 = .ok (.invokevirtual 49, 3) := by decide +kernel
theorem dL_plate_8 : decode cL_plate 8 = .ok (.i2l, 1) := by decide +kernel
theorem dL_plate_9 : decode cL_plate 9 = .ok (.lastore, 1) := by decide +kernel
theorem dL_plate_10 : decode cL_plate 10 = .ok (.goto 7, 3) := by decide +kernel
theorem dL_plate_13 : decode cL_plate 13 = .ok (.astore 4, 2) := by decide +kernel
theorem dL_plate_15 : decode cL_plate 15 = .ok (.iconst 1, 1) := by decide +kernel
theorem dL_plate_16 : decode cL_plate 16 = .ok (.ireturn, 1) := by decide +kernel
theorem dL_plate_17 : decode cL_plate 17 = .ok (.iconst 0, 1) := by decide +kernel
theorem dL_plate_18 : decode cL_plate 18 = .ok (.ireturn, 1) := by decide +kernel
theorem w_plate (hl : l.stackTraces = false) {a1 a2 : Int} {z : Int} (hM : M.length = 64) (hob : M[0]? = some (.inr (6, fs))) (ct : Ct l yX6_plate cX6_plate 3 (some .int) rmX6_plate [.ref 0, iv a1, iv a2] M (fun v M9 => v = some (iv z) ∧ P M9)) (hP : ∀ M9, P M9 → M9.length = 64) (hz : rg z) :
    CtW l yL_plate cL_plate 5 (some .int) hhL_plate rwL_plate [.ref 0, iv a1, iv a2, .ref 64] (wr 64 72 M fo) (fun v M8 => v = some (iv 0) ∧ ∃ M9, P M9 ∧ M8 = wr 64 72 M9 (up fo 0 z)) := by
  refine CtW.of hl miL_plate (Nat.le_of_ble_eq_true rfl) ?_
  intro X hXl hN ok ex tb
  subst hXl
  refine AW.cast (L2 := [some (.ref 0), some (iv a1), some (iv a2), some (.ref 64), none]) ?_ rfl rfl rfl
  refine a_aload_n (pc := 0) ok dL_plate_0 rfl ?_
  refine a_iconst (pc := 1) ok dL_plate_1 ?_
  refine a_aload_n (pc := 2) ok dL_plate_2 rfl ?_
  refine a_iload_n (pc := 3) ok dL_plate_3 rfl ?_
  refine a_iload_n (pc := 4) ok dL_plate_4 rfl ?_
  refine x_callV (pc := 5) ok (πs 64 72) 64 dL_plate_5 mvL_49 miX6_plate (ct) ⟨by decide, by decide, rfl, rfl, Nat.zero_le _, Nat.zero_le _⟩ rfl rfl (Nat.le_of_ble_eq_true rfl) hM (fit_wr hM) (nd_wr _ _) hob rfl (fun v M9 h9 => by rw [hP _ h9.2, hM]) ?_
  rintro _ M' ⟨rfl, hp⟩
  refine AW.cast (st2 := [iv z, iv 0, .ref 64]) (M2 := wr 64 72 M' fo) ?_ rfl rfl (pb_wr hM (hP _ hp))
  refine a_i2l (pc := 8) ok dL_plate_8 (by exact hz) ?_
  refine a_last (pc := 9) ok dL_plate_9 (wr_out (hP _ hp)) (by decide) (by omega) ?_
  refine AW.cast (M2 := wr 64 72 M' (up fo 0 z)) ?_ rfl rfl (wr_set (hP _ hp))
  refine a_goto (pc := 10) (tgt := 17) ok dL_plate_10 (by decide) ?_
  refine a_iconst (pc := 17) ok dL_plate_17 ?_
  refine AW.widen (kc2 := 1) (ks2 := 6) (Nat.zero_le _) (Nat.zero_le _) ?_
  exact a_iret (pc := 18) ok dL_plate_18 (⟨rfl, M', hp, rfl⟩)
theorem wx_plate (hl : l.stackTraces = false) {a1 a2 : Int} (hM : M.length = 64) (hob : M[0]? = some (.inr (6, fs))) (ct : CtX l yX6_plate cX6_plate 3 (some .int) rxplate [.ref 0, iv a1, iv a2] M nIA P) (hP : ∀ M9, P M9 → M9.length = 64) :
    CtW l yL_plate cL_plate 5 (some .int) hhL_plate rwL_plate [.ref 0, iv a1, iv a2, .ref 64] (wr 64 72 M fo) (fun v M8 => v = some (iv 1) ∧ ∃ M9, P M9 ∧ M8 = wr 64 72 M9 fo) := by
  refine CtW.of hl miL_plate (Nat.le_of_ble_eq_true rfl) ?_
  intro X hXl hN ok ex tb
  subst hXl
  refine AW.cast (L2 := [some (.ref 0), some (iv a1), some (iv a2), some (.ref 64), none]) ?_ rfl rfl rfl
  refine a_aload_n (pc := 0) ok dL_plate_0 rfl ?_
  refine a_iconst (pc := 1) ok dL_plate_1 ?_
  refine a_aload_n (pc := 2) ok dL_plate_2 rfl ?_
  refine a_iload_n (pc := 3) ok dL_plate_3 rfl ?_
  refine a_iload_n (pc := 4) ok dL_plate_4 rfl ?_
  exact w_callV (pc := 5) (hh := hhL_plate) (k := 1) (name := nIA) (pre := []) (suf := []) (x := ⟨0, 10, 13, 13⟩) ok ex tb (πs 64 72) 64 dL_plate_5 mvL_49 miX6_plate ct ⟨by decide, by decide, rfl, rfl, by decide, by decide⟩ rfl rfl (Nat.le_of_ble_eq_true rfl) hM (fit_wr hM) (nd_wr _ _) hob rfl (fun M9 h9 => by rw [hP _ h9, hM]) rfl (fun z hz => nomatch hz) (by decide) (by decide) (ug2 191 (by decide +kernel) rfl) cast_nIA (Or.inr ⟨4, dL_plate_13, by rw [hN]; decide, dL_plate_15, dL_plate_16⟩) (fun M9 h9 => ⟨rfl, M9, h9, pb_wr hM (hP _ h9)⟩)
theorem dL_cell_0 : decode cL_cell 0 = .ok (.aload 4, 2) := by decide +kernel
theorem dL_cell_2 : decode cL_cell 2 = .ok (.iconst 0, 1) := by decide +kernel
theorem dL_cell_3 : decode cL_cell 3 = .ok (.aload_n 0, 1) := by decide +kernel
theorem dL_cell_4 : decode cL_cell 4 = .ok (.iload_n 1, 1) := by decide +kernel
theorem dL_cell_5 : decode cL_cell 5 = .ok (.iload_n 2, 1) := by decide +kernel
theorem dL_cell_6 : decode cL_cell 6 = .ok (.iload_n 3, 1) := by decide +kernel
theorem dL_cell_7 : decode cL_cell 7 = .ok (.invokevirtual 52, 3) := by decide +kernel
theorem dL_cell_10 : decode cL_cell 10 = .ok (.i2l, 1) := by decide +kernel
theorem dL_cell_11 : decode cL_cell 11 = .ok (.lastore, 1) := by decide +kernel
theorem dL_cell_12 : decode cL_cell 12 = .ok (.goto 11, 3) := by decide +kernel
theorem dL_cell_15 : decode cL_cell 15 = .ok (.astore 5, 2) := by decide +kernel
theorem dL_cell_17 : decode cL_cell 17 = .ok (.iconst 1, 1) := by decide +kernel
theorem dL_cell_18 : decode cL_cell 18 = .ok (.ireturn, 1) := by decide +kernel
theorem dL_cell_19 : decode cL_cell 19 = .ok (.astore 5, 2) := by decide +kernel
theorem dL_cell_21 : decode cL_cell 21 = .ok (.iconst 2, 1) := by decide +kernel
theorem dL_cell_22 : decode cL_cell 22 = .ok (.ireturn, 1) := by decide +kernel
theorem dL_cell_23 : decode cL_cell 23 = .ok (.iconst 0, 1) := by decide +kernel
theorem dL_cell_24 : decode cL_cell 24 = .ok (.ireturn, 1) := by decide +kernel
theorem w_cell (hl : l.stackTraces = false) {a1 a2 a3 : Int} {z : Int} (hM : M.length = 64) (hob : M[0]? = some (.inr (6, fs))) (ct : Ct l yX6_cell cX6_cell 4 (some .int) rmX6_cell [.ref 0, iv a1, iv a2, iv a3] M (fun v M9 => v = some (iv z) ∧ P M9)) (hP : ∀ M9, P M9 → M9.length = 64) (hz : rg z) :
    CtW l yL_cell cL_cell 6 (some .int) hhL_cell rwL_cell [.ref 0, iv a1, iv a2, iv a3, .ref 64] (wr 64 72 M fo) (fun v M8 => v = some (iv 0) ∧ ∃ M9, P M9 ∧ M8 = wr 64 72 M9 (up fo 0 z)) := by
  refine CtW.of hl miL_cell (Nat.le_of_ble_eq_true rfl) ?_
  intro X hXl hN ok ex tb
  subst hXl
  refine AW.cast (L2 := [some (.ref 0), some (iv a1), some (iv a2), some (iv a3), some (.ref 64), none]) ?_ rfl rfl rfl
  refine a_aload (pc := 0) ok dL_cell_0 rfl ?_
  refine a_iconst (pc := 2) ok dL_cell_2 ?_
  refine a_aload_n (pc := 3) ok dL_cell_3 rfl ?_
  refine a_iload_n (pc := 4) ok dL_cell_4 rfl ?_
  refine a_iload_n (pc := 5) ok dL_cell_5 rfl ?_
  refine a_iload_n (pc := 6) ok dL_cell_6 rfl ?_
  refine x_callV (pc := 7) ok (πs 64 72) 64 dL_cell_7 mvL_52 miX6_cell (ct) ⟨by decide, by decide, rfl, rfl, Nat.zero_le _, Nat.zero_le _⟩ rfl rfl (Nat.le_of_ble_eq_true rfl) hM (fit_wr hM) (nd_wr _ _) hob rfl (fun v M9 h9 => by rw [hP _ h9.2, hM]) ?_
  rintro _ M' ⟨rfl, hp⟩
  refine AW.cast (st2 := [iv z, iv 0, .ref 64]) (M2 := wr 64 72 M' fo) ?_ rfl rfl (pb_wr hM (hP _ hp))
  refine a_i2l (pc := 10) ok dL_cell_10 (by exact hz) ?_
  refine a_last (pc := 11) ok dL_cell_11 (wr_out (hP _ hp)) (by decide) (by omega) ?_
  refine AW.cast (M2 := wr 64 72 M' (up fo 0 z)) ?_ rfl rfl (wr_set (hP _ hp))
  refine a_goto (pc := 12) (tgt := 23) ok dL_cell_12 (by decide) ?_
  refine a_iconst (pc := 23) ok dL_cell_23 ?_
  refine AW.widen (kc2 := 1) (ks2 := 6) (Nat.zero_le _) (Nat.zero_le _) ?_
  exact a_iret (pc := 24) ok dL_cell_24 (⟨rfl, M', hp, rfl⟩)
theorem wx_cell1 (hl : l.stackTraces = false) {a1 a2 a3 : Int} (hM : M.length = 64) (hob : M[0]? = some (.inr (6, fs))) (ct : CtX l yX6_cell cX6_cell 4 (some .int) rxcell [.ref 0, iv a1, iv a2, iv a3] M nIO P) (hP : ∀ M9, P M9 → M9.length = 64) :
    CtW l yL_cell cL_cell 6 (some .int) hhL_cell rwL_cell [.ref 0, iv a1, iv a2, iv a3, .ref 64] (wr 64 72 M fo) (fun v M8 => v = some (iv 1) ∧ ∃ M9, P M9 ∧ M8 = wr 64 72 M9 fo) := by
  refine CtW.of hl miL_cell (Nat.le_of_ble_eq_true rfl) ?_
  intro X hXl hN ok ex tb
  subst hXl
  refine AW.cast (L2 := [some (.ref 0), some (iv a1), some (iv a2), some (iv a3), some (.ref 64), none]) ?_ rfl rfl rfl
  refine a_aload (pc := 0) ok dL_cell_0 rfl ?_
  refine a_iconst (pc := 2) ok dL_cell_2 ?_
  refine a_aload_n (pc := 3) ok dL_cell_3 rfl ?_
  refine a_iload_n (pc := 4) ok dL_cell_4 rfl ?_
  refine a_iload_n (pc := 5) ok dL_cell_5 rfl ?_
  refine a_iload_n (pc := 6) ok dL_cell_6 rfl ?_
  exact w_callV (pc := 7) (hh := hhL_cell) (k := 1) (name := nIO) (pre := []) (suf := [⟨0, 12, 19, 13⟩]) (x := ⟨0, 12, 15, 28⟩) ok ex tb (πs 64 72) 64 dL_cell_7 mvL_52 miX6_cell ct ⟨by decide, by decide, rfl, rfl, by decide, by decide⟩ rfl rfl (Nat.le_of_ble_eq_true rfl) hM (fit_wr hM) (nd_wr _ _) hob rfl (fun M9 h9 => by rw [hP _ h9, hM]) rfl (fun z hz => nomatch hz) (by decide) (by decide) (ug3 194 (by decide +kernel) rfl) cast_nIO (Or.inr ⟨5, dL_cell_15, by rw [hN]; decide, dL_cell_17, dL_cell_18⟩) (fun M9 h9 => ⟨rfl, M9, h9, pb_wr hM (hP _ h9)⟩)
theorem wx_cell2 (hl : l.stackTraces = false) {a1 a2 a3 : Int} (hM : M.length = 64) (hob : M[0]? = some (.inr (6, fs))) (ct : CtX l yX6_cell cX6_cell 4 (some .int) rxcell [.ref 0, iv a1, iv a2, iv a3] M nIA P) (hP : ∀ M9, P M9 → M9.length = 64) :
    CtW l yL_cell cL_cell 6 (some .int) hhL_cell rwL_cell [.ref 0, iv a1, iv a2, iv a3, .ref 64] (wr 64 72 M fo) (fun v M8 => v = some (iv 2) ∧ ∃ M9, P M9 ∧ M8 = wr 64 72 M9 fo) := by
  refine CtW.of hl miL_cell (Nat.le_of_ble_eq_true rfl) ?_
  intro X hXl hN ok ex tb
  subst hXl
  refine AW.cast (L2 := [some (.ref 0), some (iv a1), some (iv a2), some (iv a3), some (.ref 64), none]) ?_ rfl rfl rfl
  refine a_aload (pc := 0) ok dL_cell_0 rfl ?_
  refine a_iconst (pc := 2) ok dL_cell_2 ?_
  refine a_aload_n (pc := 3) ok dL_cell_3 rfl ?_
  refine a_iload_n (pc := 4) ok dL_cell_4 rfl ?_
  refine a_iload_n (pc := 5) ok dL_cell_5 rfl ?_
  refine a_iload_n (pc := 6) ok dL_cell_6 rfl ?_
  exact w_callV (pc := 7) (hh := hhL_cell) (k := 2) (name := nIA) (pre := [⟨0, 12, 15, 28⟩]) (suf := []) (x := ⟨0, 12, 19, 13⟩) ok ex tb (πs 64 72) 64 dL_cell_7 mvL_52 miX6_cell ct ⟨by decide, by decide, rfl, rfl, by decide, by decide⟩ rfl rfl (Nat.le_of_ble_eq_true rfl) hM (fit_wr hM) (nd_wr _ _) hob rfl (fun M9 h9 => by rw [hP _ h9, hM]) rfl (fun z hz => by cases List.mem_singleton.mp hz; exact ⟨by decide, nIO, ug3 194 (by decide +kernel) rfl, by decide +kernel⟩) (by decide) (by decide) (ug2 191 (by decide +kernel) rfl) cast_nIA (Or.inr ⟨5, dL_cell_19, by rw [hN]; decide, dL_cell_21, dL_cell_22⟩) (fun M9 h9 => ⟨rfl, M9, h9, pb_wr hM (hP _ h9)⟩)
theorem dL_box_0 : decode cL_box 0 = .ok (.aload 6, 2) := by decide +kernel
theorem dL_box_2 : decode cL_box 2 = .ok (.iconst 0, 1) := by decide +kernel
theorem dL_box_3 : decode cL_box 3 = .ok (.aload_n 0, 1) := by decide +kernel
theorem dL_box_4 : decode cL_box 4 = .ok (.iload_n 1, 1) := by decide +kernel
theorem dL_box_5 : decode cL_box 5 = .ok (.iload_n 2, 1) := by decide +kernel
theorem dL_box_6 : decode cL_box 6 = .ok (.iload_n 3, 1) := by decide +kernel
theorem dL_box_7 : decode cL_box 7 = .ok (.iload 4, 2) := by decide +kernel
theorem dL_box_9 : decode cL_box 9 = .ok (.iload 5, 2) := by decide +kernel
theorem dL_box_11 : decode cL_box 11 = .ok (.invokevirtual 55, 3) := by decide +kernel
theorem dL_box_14 : decode cL_box 14 = .ok (.i2l, 1) := by decide +kernel
theorem dL_box_15 : decode cL_box 15 = .ok (.lastore, 1) := by decide +kernel
theorem dL_box_16 : decode cL_box 16 = .ok (.goto 11, 3) := by decide +kernel
theorem dL_box_19 : decode cL_box 19 = .ok (.astore 7, 2) := by decide +kernel
theorem dL_box_21 : decode cL_box 21 = .ok (.iconst 1, 1) := by decide +kernel
theorem dL_box_22 : decode cL_box 22 = .ok (.ireturn, 1) := by decide +kernel
theorem dL_box_23 : decode cL_box 23 = .ok (.astore 7, 2) := by decide +kernel
theorem dL_box_25 : decode cL_box 25 = .ok (.iconst 2, 1) := by decide +kernel
theorem dL_box_26 : decode cL_box 26 = .ok (.ireturn, 1) := by decide +kernel
theorem dL_box_27 : decode cL_box 27 = .ok (.iconst 0, 1) := by decide +kernel
theorem dL_box_28 : decode cL_box 28 = .ok (.ireturn, 1) := by decide +kernel
theorem w_box (hl : l.stackTraces = false) {a1 a2 a3 a4 a5 : Int} {z : Int} (hM : M.length = 64) (hob : M[0]? = some (.inr (6, fs))) (ct : Ct l yX6_box cX6_box 6 (some .int) rmX6_box [.ref 0, iv a1, iv a2, iv a3, iv a4, iv a5] M (fun v M9 => v = some (iv z) ∧ P M9)) (hP : ∀ M9, P M9 → M9.length = 64) (hz : rg z) :
    CtW l yL_box cL_box 8 (some .int) hhL_box rwL_box [.ref 0, iv a1, iv a2, iv a3, iv a4, iv a5, .ref 64] (wr 64 72 M fo) (fun v M8 => v = some (iv 0) ∧ ∃ M9, P M9 ∧ M8 = wr 64 72 M9 (up fo 0 z)) := by
  refine CtW.of hl miL_box (Nat.le_of_ble_eq_true rfl) ?_
  intro X hXl hN ok ex tb
  subst hXl
  refine AW.cast (L2 := [some (.ref 0), some (iv a1), some (iv a2), some (iv a3), some (iv a4), some (iv a5), some (.ref 64), none]) ?_ rfl rfl rfl
  refine a_aload (pc := 0) ok dL_box_0 rfl ?_
  refine a_iconst (pc := 2) ok dL_box_2 ?_
  refine a_aload_n (pc := 3) ok dL_box_3 rfl ?_
  refine a_iload_n (pc := 4) ok dL_box_4 rfl ?_
  refine a_iload_n (pc := 5) ok dL_box_5 rfl ?_
  refine a_iload_n (pc := 6) ok dL_box_6 rfl ?_
  refine a_iload (pc := 7) ok dL_box_7 rfl ?_
  refine a_iload (pc := 9) ok dL_box_9 rfl ?_
  refine x_callV (pc := 11) ok (πs 64 72) 64 dL_box_11 mvL_55 miX6_box (ct) ⟨by decide, by decide, rfl, rfl, Nat.zero_le _, Nat.zero_le _⟩ rfl rfl (Nat.le_of_ble_eq_true rfl) hM (fit_wr hM) (nd_wr _ _) hob rfl (fun v M9 h9 => by rw [hP _ h9.2, hM]) ?_
  rintro _ M' ⟨rfl, hp⟩
  refine AW.cast (st2 := [iv z, iv 0, .ref 64]) (M2 := wr 64 72 M' fo) ?_ rfl rfl (pb_wr hM (hP _ hp))
  refine a_i2l (pc := 14) ok dL_box_14 (by exact hz) ?_
  refine a_last (pc := 15) ok dL_box_15 (wr_out (hP _ hp)) (by decide) (by omega) ?_
  refine AW.cast (M2 := wr 64 72 M' (up fo 0 z)) ?_ rfl rfl (wr_set (hP _ hp))
  refine a_goto (pc := 16) (tgt := 27) ok dL_box_16 (by decide) ?_
  refine a_iconst (pc := 27) ok dL_box_27 ?_
  refine AW.widen (kc2 := 1) (ks2 := 6) (Nat.zero_le _) (Nat.zero_le _) ?_
  exact a_iret (pc := 28) ok dL_box_28 (⟨rfl, M', hp, rfl⟩)
theorem wx_box1 (hl : l.stackTraces = false) {a1 a2 a3 a4 a5 : Int} (hM : M.length = 64) (hob : M[0]? = some (.inr (6, fs))) (ct : CtX l yX6_box cX6_box 6 (some .int) rxbox [.ref 0, iv a1, iv a2, iv a3, iv a4, iv a5] M nIO P) (hP : ∀ M9, P M9 → M9.length = 64) :
    CtW l yL_box cL_box 8 (some .int) hhL_box rwL_box [.ref 0, iv a1, iv a2, iv a3, iv a4, iv a5, .ref 64] (wr 64 72 M fo) (fun v M8 => v = some (iv 1) ∧ ∃ M9, P M9 ∧ M8 = wr 64 72 M9 fo) := by
  refine CtW.of hl miL_box (Nat.le_of_ble_eq_true rfl) ?_
  intro X hXl hN ok ex tb
  subst hXl
  refine AW.cast (L2 := [some (.ref 0), some (iv a1), some (iv a2), some (iv a3), some (iv a4), some (iv a5), some (.ref 64), none]) ?_ rfl rfl rfl
  refine a_aload (pc := 0) ok dL_box_0 rfl ?_
  refine a_iconst (pc := 2) ok dL_box_2 ?_
  refine a_aload_n (pc := 3) ok dL_box_3 rfl ?_
  refine a_iload_n (pc := 4) ok dL_box_4 rfl ?_
  refine a_iload_n (pc := 5) ok dL_box_5 rfl ?_
  refine a_iload_n (pc := 6) ok dL_box_6 rfl ?_
  refine a_iload (pc := 7) ok dL_box_7 rfl ?_
  refine a_iload (pc := 9) ok dL_box_9 rfl ?_
  exact w_callV (pc := 11) (hh := hhL_box) (k := 1) (name := nIO) (pre := []) (suf := [⟨0, 16, 23, 13⟩]) (x := ⟨0, 16, 19, 28⟩) ok ex tb (πs 64 72) 64 dL_box_11 mvL_55 miX6_box ct ⟨by decide, by decide, rfl, rfl, by decide, by decide⟩ rfl rfl (Nat.le_of_ble_eq_true rfl) hM (fit_wr hM) (nd_wr _ _) hob rfl (fun M9 h9 => by rw [hP _ h9, hM]) rfl (fun z hz => nomatch hz) (by decide) (by decide) (ug3 194 (by decide +kernel) rfl) cast_nIO (Or.inr ⟨7, dL_box_19, by rw [hN]; decide, dL_box_21, dL_box_22⟩) (fun M9 h9 => ⟨rfl, M9, h9, pb_wr hM (hP _ h9)⟩)
theorem wx_box2 (hl : l.stackTraces = false) {a1 a2 a3 a4 a5 : Int} (hM : M.length = 64) (hob : M[0]? = some (.inr (6, fs))) (ct : CtX l yX6_box cX6_box 6 (some .int) rxbox [.ref 0, iv a1, iv a2, iv a3, iv a4, iv a5] M nIA P) (hP : ∀ M9, P M9 → M9.length = 64) :
    CtW l yL_box cL_box 8 (some .int) hhL_box rwL_box [.ref 0, iv a1, iv a2, iv a3, iv a4, iv a5, .ref 64] (wr 64 72 M fo) (fun v M8 => v = some (iv 2) ∧ ∃ M9, P M9 ∧ M8 = wr 64 72 M9 fo) := by
  refine CtW.of hl miL_box (Nat.le_of_ble_eq_true rfl) ?_
  intro X hXl hN ok ex tb
  subst hXl
  refine AW.cast (L2 := [some (.ref 0), some (iv a1), some (iv a2), some (iv a3), some (iv a4), some (iv a5), some (.ref 64), none]) ?_ rfl rfl rfl
  refine a_aload (pc := 0) ok dL_box_0 rfl ?_
  refine a_iconst (pc := 2) ok dL_box_2 ?_
  refine a_aload_n (pc := 3) ok dL_box_3 rfl ?_
  refine a_iload_n (pc := 4) ok dL_box_4 rfl ?_
  refine a_iload_n (pc := 5) ok dL_box_5 rfl ?_
  refine a_iload_n (pc := 6) ok dL_box_6 rfl ?_
  refine a_iload (pc := 7) ok dL_box_7 rfl ?_
  refine a_iload (pc := 9) ok dL_box_9 rfl ?_
  exact w_callV (pc := 11) (hh := hhL_box) (k := 2) (name := nIA) (pre := [⟨0, 16, 19, 28⟩]) (suf := []) (x := ⟨0, 16, 23, 13⟩) ok ex tb (πs 64 72) 64 dL_box_11 mvL_55 miX6_box ct ⟨by decide, by decide, rfl, rfl, by decide, by decide⟩ rfl rfl (Nat.le_of_ble_eq_true rfl) hM (fit_wr hM) (nd_wr _ _) hob rfl (fun M9 h9 => by rw [hP _ h9, hM]) rfl (fun z hz => by cases List.mem_singleton.mp hz; exact ⟨by decide, nIO, ug3 194 (by decide +kernel) rfl, by decide +kernel⟩) (by decide) (by decide) (ug2 191 (by decide +kernel) rfl) cast_nIA (Or.inr ⟨7, dL_box_23, by rw [hN]; decide, dL_box_25, dL_box_26⟩) (fun M9 h9 => ⟨rfl, M9, h9, pb_wr hM (hP _ h9)⟩)
theorem dL_threshold_0 : decode cL_threshold 0 = .ok (.aload_n 3, 1) := by decide +kernel
theorem dL_threshold_1 : decode cL_threshold 1 = .ok (.iconst 0, 1) := by decide +kernel
theorem dL_threshold_2 : decode cL_threshold 2 = .ok (.aload_n 0, 1) := by decide +kernel
theorem dL_threshold_3 : decode cL_threshold 3 = .ok (.iload_n 1, 1) := by decide +kernel
theorem dL_threshold_4 : decode cL_threshold 4 = .ok (.iload_n 2, 1) := by decide +kernel
theorem dL_threshold_5 : decode cL_threshold 5 = .ok (.invokevirtual 59, 3) := by decide +kernel
theorem dL_threshold_8 : decode cL_threshold 8 = .ok (.i2l, 1) := by decide +kernel
theorem dL_threshold_9 : decode cL_threshold 9 = .ok (.lastore, 1) := by decide +kernel
theorem dL_threshold_10 : decode cL_threshold 10 = .ok (.goto 11, 3) := by decide +kernel
theorem dL_threshold_13 : decode cL_threshold 13 = .ok (.astore 4, 2) := by decide +kernel
theorem dL_threshold_15 : decode cL_threshold 15 = .ok (.iconst 1, 1) := by decide +kernel
theorem dL_threshold_16 : decode cL_threshold 16 = .ok (.ireturn, 1) := by decide +kernel
theorem dL_threshold_17 : decode cL_threshold 17 = .ok (.astore 4, 2) := by decide +kernel
theorem dL_threshold_19 : decode cL_threshold 19 = .ok (.iconst 2, 1) := by decide +kernel
theorem dL_threshold_20 : decode cL_threshold 20 = .ok (.ireturn, 1) := by decide +kernel
theorem dL_threshold_21 : decode cL_threshold 21 = .ok (.iconst 0, 1) := by decide +kernel
theorem dL_threshold_22 : decode cL_threshold 22 = .ok (.ireturn, 1) := by decide +kernel
theorem w_threshold (hl : l.stackTraces = false) {a1 a2 : Int} {z : Int} (hM : M.length = 64) (hob : M[0]? = some (.inr (6, fs))) (ct : Ct l yX6_threshold cX6_threshold 3 (some .int) rmX6_threshold [.ref 0, iv a1, iv a2] M (fun v M9 => v = some (iv z) ∧ P M9)) (hP : ∀ M9, P M9 → M9.length = 64) (hz : rg z) :
    CtW l yL_threshold cL_threshold 5 (some .int) hhL_threshold rwL_threshold [.ref 0, iv a1, iv a2, .ref 64] (wr 64 72 M fo) (fun v M8 => v = some (iv 0) ∧ ∃ M9, P M9 ∧ M8 = wr 64 72 M9 (up fo 0 z)) := by
  refine CtW.of hl miL_threshold (Nat.le_of_ble_eq_true rfl) ?_
  intro X hXl hN ok ex tb
  subst hXl
  refine AW.cast (L2 := [some (.ref 0), some (iv a1), some (iv a2), some (.ref 64), none]) ?_ rfl rfl rfl
  refine a_aload_n (pc := 0) ok dL_threshold_0 rfl ?_
  refine a_iconst (pc := 1) ok dL_threshold_1 ?_
  refine a_aload_n (pc := 2) ok dL_threshold_2 rfl ?_
  refine a_iload_n (pc := 3) ok dL_threshold_3 rfl ?_
  refine a_iload_n (pc := 4) ok dL_threshold_4 rfl ?_
  refine x_callV (pc := 5) ok (πs 64 72) 64 dL_threshold_5 mvL_59 miX6_threshold (ct) ⟨by decide, by decide, rfl, rfl, Nat.zero_le _, Nat.zero_le _⟩ rfl rfl (Nat.le_of_ble_eq_true rfl) hM (fit_wr hM) (nd_wr _ _) hob rfl (fun v M9 h9 => by rw [hP _ h9.2, hM]) ?_
  rintro _ M' ⟨rfl, hp⟩
  refine AW.cast (st2 := [iv z, iv 0, .ref 64]) (M2 := wr 64 72 M' fo) ?_ rfl rfl (pb_wr hM (hP _ hp))
  refine a_i2l (pc := 8) ok dL_threshold_8 (by exact hz) ?_
  refine a_last (pc := 9) ok dL_threshold_9 (wr_out (hP _ hp)) (by decide) (by omega) ?_
  refine AW.cast (M2 := wr 64 72 M' (up fo 0 z)) ?_ rfl rfl (wr_set (hP _ hp))
  refine a_goto (pc := 10) (tgt := 21) ok dL_threshold_10 (by decide) ?_
  refine a_iconst (pc := 21) ok dL_threshold_21 ?_
  refine AW.widen (kc2 := 1) (ks2 := 6) (Nat.zero_le _) (Nat.zero_le _) ?_
  exact a_iret (pc := 22) ok dL_threshold_22 (⟨rfl, M', hp, rfl⟩)
theorem wx_threshold1 (hl : l.stackTraces = false) {a1 a2 : Int} (hM : M.length = 64) (hob : M[0]? = some (.inr (6, fs))) (ct : CtX l yX6_threshold cX6_threshold 3 (some .int) rxthreshold [.ref 0, iv a1, iv a2] M nIA P) (hP : ∀ M9, P M9 → M9.length = 64) :
    CtW l yL_threshold cL_threshold 5 (some .int) hhL_threshold rwL_threshold [.ref 0, iv a1, iv a2, .ref 64] (wr 64 72 M fo) (fun v M8 => v = some (iv 1) ∧ ∃ M9, P M9 ∧ M8 = wr 64 72 M9 fo) := by
  refine CtW.of hl miL_threshold (Nat.le_of_ble_eq_true rfl) ?_
  intro X hXl hN ok ex tb
  subst hXl
  refine AW.cast (L2 := [some (.ref 0), some (iv a1), some (iv a2), some (.ref 64), none]) ?_ rfl rfl rfl
  refine a_aload_n (pc := 0) ok dL_threshold_0 rfl ?_
  refine a_iconst (pc := 1) ok dL_threshold_1 ?_
  refine a_aload_n (pc := 2) ok dL_threshold_2 rfl ?_
  refine a_iload_n (pc := 3) ok dL_threshold_3 rfl ?_
  refine a_iload_n (pc := 4) ok dL_threshold_4 rfl ?_
  exact w_callV (pc := 5) (hh := hhL_threshold) (k := 1) (name := nIA) (pre := []) (suf := [⟨0, 10, 17, 15⟩]) (x := ⟨0, 10, 13, 13⟩) ok ex tb (πs 64 72) 64 dL_threshold_5 mvL_59 miX6_threshold ct ⟨by decide, by decide, rfl, rfl, by decide, by decide⟩ rfl rfl (Nat.le_of_ble_eq_true rfl) hM (fit_wr hM) (nd_wr _ _) hob rfl (fun M9 h9 => by rw [hP _ h9, hM]) rfl (fun z hz => nomatch hz) (by decide) (by decide) (ug2 191 (by decide +kernel) rfl) cast_nIA (Or.inr ⟨4, dL_threshold_13, by rw [hN]; decide, dL_threshold_15, dL_threshold_16⟩) (fun M9 h9 => ⟨rfl, M9, h9, pb_wr hM (hP _ h9)⟩)
theorem wx_threshold2 (hl : l.stackTraces = false) {a1 a2 : Int} (hM : M.length = 64) (hob : M[0]? = some (.inr (6, fs))) (ct : CtX l yX6_threshold cX6_threshold 3 (some .int) rxthreshold [.ref 0, iv a1, iv a2] M nIS P) (hP : ∀ M9, P M9 → M9.length = 64) :
    CtW l yL_threshold cL_threshold 5 (some .int) hhL_threshold rwL_threshold [.ref 0, iv a1, iv a2, .ref 64] (wr 64 72 M fo) (fun v M8 => v = some (iv 2) ∧ ∃ M9, P M9 ∧ M8 = wr 64 72 M9 fo) := by
  refine CtW.of hl miL_threshold (Nat.le_of_ble_eq_true rfl) ?_
  intro X hXl hN ok ex tb
  subst hXl
  refine AW.cast (L2 := [some (.ref 0), some (iv a1), some (iv a2), some (.ref 64), none]) ?_ rfl rfl rfl
  refine a_aload_n (pc := 0) ok dL_threshold_0 rfl ?_
  refine a_iconst (pc := 1) ok dL_threshold_1 ?_
  refine a_aload_n (pc := 2) ok dL_threshold_2 rfl ?_
  refine a_iload_n (pc := 3) ok dL_threshold_3 rfl ?_
  refine a_iload_n (pc := 4) ok dL_threshold_4 rfl ?_
  exact w_callV (pc := 5) (hh := hhL_threshold) (k := 2) (name := nIS) (pre := [⟨0, 10, 13, 13⟩]) (suf := []) (x := ⟨0, 10, 17, 15⟩) ok ex tb (πs 64 72) 64 dL_threshold_5 mvL_59 miX6_threshold ct ⟨by decide, by decide, rfl, rfl, by decide, by decide⟩ rfl rfl (Nat.le_of_ble_eq_true rfl) hM (fit_wr hM) (nd_wr _ _) hob rfl (fun M9 h9 => by rw [hP _ h9, hM]) rfl (fun z hz => by cases List.mem_singleton.mp hz; exact ⟨by decide, nIA, ug2 191 (by decide +kernel) rfl, by decide +kernel⟩) (by decide) (by decide) (ug2 192 (by decide +kernel) rfl) cast_nIS (Or.inr ⟨4, dL_threshold_17, by rw [hN]; decide, dL_threshold_19, dL_threshold_20⟩) (fun M9 h9 => ⟨rfl, M9, h9, pb_wr hM (hP _ h9)⟩)
theorem dL_share_0 : decode cL_share 0 = .ok (.aload_n 2, 1) := by decide +kernel
theorem dL_share_1 : decode cL_share 1 = .ok (.iconst 0, 1) := by decide +kernel
theorem dL_share_2 : decode cL_share 2 = .ok (.aload_n 0, 1) := by decide +kernel
theorem dL_share_3 : decode cL_share 3 = .ok (.iload_n 1, 1) := by decide +kernel
theorem dL_share_4 : decode cL_share 4 = .ok (.invokevirtual 63, 3) := by decide +kernel
theorem dL_share_7 : decode cL_share 7 = .ok (.i2l, 1) := by decide +kernel
theorem dL_share_8 : decode cL_share 8 = .ok (.lastore, 1) := by decide +kernel
theorem dL_share_9 : decode cL_share 9 = .ok (.goto 6, 3) := by decide +kernel
theorem dL_share_12 : decode cL_share 12 = .ok (.astore_n 3, 1) := by decide +kernel
theorem dL_share_13 : decode cL_share 13 = .ok (.iconst 1, 1) := by decide +kernel
theorem dL_share_14 : decode cL_share 14 = .ok (.ireturn, 1) := by decide +kernel
theorem dL_share_15 : decode cL_share 15 = .ok (.iconst 0, 1) := by decide +kernel
theorem dL_share_16 : decode cL_share 16 = .ok (.ireturn, 1) := by decide +kernel
theorem w_share (hl : l.stackTraces = false) {a1 : Int} {z : Int} (hM : M.length = 64) (hob : M[0]? = some (.inr (6, fs))) (ct : Ct l yX6_share cX6_share 2 (some .int) rmX6_share [.ref 0, iv a1] M (fun v M9 => v = some (iv z) ∧ P M9)) (hP : ∀ M9, P M9 → M9.length = 64) (hz : rg z) :
    CtW l yL_share cL_share 4 (some .int) hhL_share rwL_share [.ref 0, iv a1, .ref 64] (wr 64 72 M fo) (fun v M8 => v = some (iv 0) ∧ ∃ M9, P M9 ∧ M8 = wr 64 72 M9 (up fo 0 z)) := by
  refine CtW.of hl miL_share (Nat.le_of_ble_eq_true rfl) ?_
  intro X hXl hN ok ex tb
  subst hXl
  refine AW.cast (L2 := [some (.ref 0), some (iv a1), some (.ref 64), none]) ?_ rfl rfl rfl
  refine a_aload_n (pc := 0) ok dL_share_0 rfl ?_
  refine a_iconst (pc := 1) ok dL_share_1 ?_
  refine a_aload_n (pc := 2) ok dL_share_2 rfl ?_
  refine a_iload_n (pc := 3) ok dL_share_3 rfl ?_
  refine x_callV (pc := 4) ok (πs 64 72) 64 dL_share_4 mvL_63 miX6_share (ct) ⟨by decide, by decide, rfl, rfl, Nat.zero_le _, Nat.zero_le _⟩ rfl rfl (Nat.le_of_ble_eq_true rfl) hM (fit_wr hM) (nd_wr _ _) hob rfl (fun v M9 h9 => by rw [hP _ h9.2, hM]) ?_
  rintro _ M' ⟨rfl, hp⟩
  refine AW.cast (st2 := [iv z, iv 0, .ref 64]) (M2 := wr 64 72 M' fo) ?_ rfl rfl (pb_wr hM (hP _ hp))
  refine a_i2l (pc := 7) ok dL_share_7 (by exact hz) ?_
  refine a_last (pc := 8) ok dL_share_8 (wr_out (hP _ hp)) (by decide) (by omega) ?_
  refine AW.cast (M2 := wr 64 72 M' (up fo 0 z)) ?_ rfl rfl (wr_set (hP _ hp))
  refine a_goto (pc := 9) (tgt := 15) ok dL_share_9 (by decide) ?_
  refine a_iconst (pc := 15) ok dL_share_15 ?_
  refine AW.widen (kc2 := 1) (ks2 := 6) (Nat.zero_le _) (Nat.zero_le _) ?_
  exact a_iret (pc := 16) ok dL_share_16 (⟨rfl, M', hp, rfl⟩)
theorem wx_share (hl : l.stackTraces = false) {a1 : Int} (hM : M.length = 64) (hob : M[0]? = some (.inr (6, fs))) (ct : CtX l yX6_share cX6_share 2 (some .int) rxshare [.ref 0, iv a1] M nIA P) (hP : ∀ M9, P M9 → M9.length = 64) :
    CtW l yL_share cL_share 4 (some .int) hhL_share rwL_share [.ref 0, iv a1, .ref 64] (wr 64 72 M fo) (fun v M8 => v = some (iv 1) ∧ ∃ M9, P M9 ∧ M8 = wr 64 72 M9 fo) := by
  refine CtW.of hl miL_share (Nat.le_of_ble_eq_true rfl) ?_
  intro X hXl hN ok ex tb
  subst hXl
  refine AW.cast (L2 := [some (.ref 0), some (iv a1), some (.ref 64), none]) ?_ rfl rfl rfl
  refine a_aload_n (pc := 0) ok dL_share_0 rfl ?_
  refine a_iconst (pc := 1) ok dL_share_1 ?_
  refine a_aload_n (pc := 2) ok dL_share_2 rfl ?_
  refine a_iload_n (pc := 3) ok dL_share_3 rfl ?_
  exact w_callV (pc := 4) (hh := hhL_share) (k := 1) (name := nIA) (pre := []) (suf := []) (x := ⟨0, 9, 12, 13⟩) ok ex tb (πs 64 72) 64 dL_share_4 mvL_63 miX6_share ct ⟨by decide, by decide, rfl, rfl, by decide, by decide⟩ rfl rfl (Nat.le_of_ble_eq_true rfl) hM (fit_wr hM) (nd_wr _ _) hob rfl (fun M9 h9 => by rw [hP _ h9, hM]) rfl (fun z hz => nomatch hz) (by decide) (by decide) (ug2 191 (by decide +kernel) rfl) cast_nIA (Or.inl ⟨3, dL_share_12, by rw [hN]; decide, dL_share_13, dL_share_14⟩) (fun M9 h9 => ⟨rfl, M9, h9, pb_wr hM (hP _ h9)⟩)
theorem dL_least_0 : decode cL_least 0 = .ok (.aload_n 2, 1) := by decide +kernel
theorem dL_least_1 : decode cL_least 1 = .ok (.iconst 0, 1) := by decide +kernel
theorem dL_least_2 : decode cL_least 2 = .ok (.aload_n 0, 1) := by decide +kernel
theorem dL_least_3 : decode cL_least 3 = .ok (.iload_n 1, 1) := by decide +kernel
theorem dL_least_4 : decode cL_least 4 = .ok (.invokevirtual 66, 3) := by decide +kernel
theorem dL_least_7 : decode cL_least 7 = .ok (.i2l, 1) := by decide +kernel
theorem dL_least_8 : decode cL_least 8 = .ok (.lastore, 1) := by decide +kernel
theorem dL_least_9 : decode cL_least 9 = .ok (.goto 6, 3) := by decide +kernel
theorem dL_least_12 : decode cL_least 12 = .ok (.astore_n 3, 1) := by decide +kernel
theorem dL_least_13 : decode cL_least 13 = .ok (.iconst 1, 1) := by decide +kernel
theorem dL_least_14 : decode cL_least 14 = .ok (.ireturn, 1) := by decide +kernel
theorem dL_least_15 : decode cL_least 15 = .ok (.iconst 0, 1) := by decide +kernel
theorem dL_least_16 : decode cL_least 16 = .ok (.ireturn, 1) := by decide +kernel
theorem w_least (hl : l.stackTraces = false) {a1 : Int} {z : Int} (hM : M.length = 64) (hob : M[0]? = some (.inr (6, fs))) (ct : Ct l yX6_least cX6_least 3 (some .int) rmX6_least [.ref 0, iv a1] M (fun v M9 => v = some (iv z) ∧ P M9)) (hP : ∀ M9, P M9 → M9.length = 64) (hz : rg z) :
    CtW l yL_least cL_least 4 (some .int) hhL_least rwL_least [.ref 0, iv a1, .ref 64] (wr 64 72 M fo) (fun v M8 => v = some (iv 0) ∧ ∃ M9, P M9 ∧ M8 = wr 64 72 M9 (up fo 0 z)) := by
  refine CtW.of hl miL_least (Nat.le_of_ble_eq_true rfl) ?_
  intro X hXl hN ok ex tb
  subst hXl
  refine AW.cast (L2 := [some (.ref 0), some (iv a1), some (.ref 64), none]) ?_ rfl rfl rfl
  refine a_aload_n (pc := 0) ok dL_least_0 rfl ?_
  refine a_iconst (pc := 1) ok dL_least_1 ?_
  refine a_aload_n (pc := 2) ok dL_least_2 rfl ?_
  refine a_iload_n (pc := 3) ok dL_least_3 rfl ?_
  refine x_callV (pc := 4) ok (πs 64 72) 64 dL_least_4 mvL_66 miX6_least (ct) ⟨by decide, by decide, rfl, rfl, Nat.zero_le _, Nat.zero_le _⟩ rfl rfl (Nat.le_of_ble_eq_true rfl) hM (fit_wr hM) (nd_wr _ _) hob rfl (fun v M9 h9 => by rw [hP _ h9.2, hM]) ?_
  rintro _ M' ⟨rfl, hp⟩
  refine AW.cast (st2 := [iv z, iv 0, .ref 64]) (M2 := wr 64 72 M' fo) ?_ rfl rfl (pb_wr hM (hP _ hp))
  refine a_i2l (pc := 7) ok dL_least_7 (by exact hz) ?_
  refine a_last (pc := 8) ok dL_least_8 (wr_out (hP _ hp)) (by decide) (by omega) ?_
  refine AW.cast (M2 := wr 64 72 M' (up fo 0 z)) ?_ rfl rfl (wr_set (hP _ hp))
  refine a_goto (pc := 9) (tgt := 15) ok dL_least_9 (by decide) ?_
  refine a_iconst (pc := 15) ok dL_least_15 ?_
  refine AW.widen (kc2 := 1) (ks2 := 6) (Nat.zero_le _) (Nat.zero_le _) ?_
  exact a_iret (pc := 16) ok dL_least_16 (⟨rfl, M', hp, rfl⟩)
theorem wx_least (hl : l.stackTraces = false) {a1 : Int} (hM : M.length = 64) (hob : M[0]? = some (.inr (6, fs))) (ct : CtX l yX6_least cX6_least 3 (some .int) rxleast [.ref 0, iv a1] M nIA P) (hP : ∀ M9, P M9 → M9.length = 64) :
    CtW l yL_least cL_least 4 (some .int) hhL_least rwL_least [.ref 0, iv a1, .ref 64] (wr 64 72 M fo) (fun v M8 => v = some (iv 1) ∧ ∃ M9, P M9 ∧ M8 = wr 64 72 M9 fo) := by
  refine CtW.of hl miL_least (Nat.le_of_ble_eq_true rfl) ?_
  intro X hXl hN ok ex tb
  subst hXl
  refine AW.cast (L2 := [some (.ref 0), some (iv a1), some (.ref 64), none]) ?_ rfl rfl rfl
  refine a_aload_n (pc := 0) ok dL_least_0 rfl ?_
  refine a_iconst (pc := 1) ok dL_least_1 ?_
  refine a_aload_n (pc := 2) ok dL_least_2 rfl ?_
  refine a_iload_n (pc := 3) ok dL_least_3 rfl ?_
  exact w_callV (pc := 4) (hh := hhL_least) (k := 1) (name := nIA) (pre := []) (suf := []) (x := ⟨0, 9, 12, 13⟩) ok ex tb (πs 64 72) 64 dL_least_4 mvL_66 miX6_least ct ⟨by decide, by decide, rfl, rfl, by decide, by decide⟩ rfl rfl (Nat.le_of_ble_eq_true rfl) hM (fit_wr hM) (nd_wr _ _) hob rfl (fun M9 h9 => by rw [hP _ h9, hM]) rfl (fun z hz => nomatch hz) (by decide) (by decide) (ug2 191 (by decide +kernel) rfl) cast_nIA (Or.inl ⟨3, dL_least_12, by rw [hN]; decide, dL_least_13, dL_least_14⟩) (fun M9 h9 => ⟨rfl, M9, h9, pb_wr hM (hP _ h9)⟩)
theorem dL_hatch_0 : decode cL_hatch 0 = .ok (.aload_n 3, 1) := by decide +kernel
theorem dL_hatch_1 : decode cL_hatch 1 = .ok (.iconst 0, 1) := by decide +kernel
theorem dL_hatch_2 : decode cL_hatch 2 = .ok (.aload_n 0, 1) := by decide +kernel
theorem dL_hatch_3 : decode cL_hatch 3 = .ok (.iload_n 1, 1) := by decide +kernel
theorem dL_hatch_4 : decode cL_hatch 4 = .ok (.iload_n 2, 1) := by decide +kernel
theorem dL_hatch_5 : decode cL_hatch 5 = .ok (.invokevirtual 69, 3) := by decide +kernel
theorem dL_hatch_8 : decode cL_hatch 8 = .ok (.i2l, 1) := by decide +kernel
theorem dL_hatch_9 : decode cL_hatch 9 = .ok (.lastore, 1) := by decide +kernel
theorem dL_hatch_10 : decode cL_hatch 10 = .ok (.goto 11, 3) := by decide +kernel
theorem dL_hatch_13 : decode cL_hatch 13 = .ok (.astore 4, 2) := by decide +kernel
theorem dL_hatch_15 : decode cL_hatch 15 = .ok (.iconst 1, 1) := by decide +kernel
theorem dL_hatch_16 : decode cL_hatch 16 = .ok (.ireturn, 1) := by decide +kernel
theorem dL_hatch_17 : decode cL_hatch 17 = .ok (.astore 4, 2) := by decide +kernel
theorem dL_hatch_19 : decode cL_hatch 19 = .ok (.iconst 2, 1) := by decide +kernel
theorem dL_hatch_20 : decode cL_hatch 20 = .ok (.ireturn, 1) := by decide +kernel
theorem dL_hatch_21 : decode cL_hatch 21 = .ok (.iconst 0, 1) := by decide +kernel
theorem dL_hatch_22 : decode cL_hatch 22 = .ok (.ireturn, 1) := by decide +kernel
theorem w_hatch (hl : l.stackTraces = false) {a1 a2 : Int} {z : Int} (hM : M.length = 64) (hob : M[0]? = some (.inr (6, fs))) (ct : Ct l yX6_hatch cX6_hatch 4 (some .int) rmX6_hatch [.ref 0, iv a1, iv a2] M (fun v M9 => v = some (iv z) ∧ P M9)) (hP : ∀ M9, P M9 → M9.length = 64) (hz : rg z) :
    CtW l yL_hatch cL_hatch 5 (some .int) hhL_hatch rwL_hatch [.ref 0, iv a1, iv a2, .ref 64] (wr 64 72 M fo) (fun v M8 => v = some (iv 0) ∧ ∃ M9, P M9 ∧ M8 = wr 64 72 M9 (up fo 0 z)) := by
  refine CtW.of hl miL_hatch (Nat.le_of_ble_eq_true rfl) ?_
  intro X hXl hN ok ex tb
  subst hXl
  refine AW.cast (L2 := [some (.ref 0), some (iv a1), some (iv a2), some (.ref 64), none]) ?_ rfl rfl rfl
  refine a_aload_n (pc := 0) ok dL_hatch_0 rfl ?_
  refine a_iconst (pc := 1) ok dL_hatch_1 ?_
  refine a_aload_n (pc := 2) ok dL_hatch_2 rfl ?_
  refine a_iload_n (pc := 3) ok dL_hatch_3 rfl ?_
  refine a_iload_n (pc := 4) ok dL_hatch_4 rfl ?_
  refine x_callV (pc := 5) ok (πs 64 72) 64 dL_hatch_5 mvL_69 miX6_hatch (ct) ⟨by decide, by decide, rfl, rfl, Nat.zero_le _, Nat.zero_le _⟩ rfl rfl (Nat.le_of_ble_eq_true rfl) hM (fit_wr hM) (nd_wr _ _) hob rfl (fun v M9 h9 => by rw [hP _ h9.2, hM]) ?_
  rintro _ M' ⟨rfl, hp⟩
  refine AW.cast (st2 := [iv z, iv 0, .ref 64]) (M2 := wr 64 72 M' fo) ?_ rfl rfl (pb_wr hM (hP _ hp))
  refine a_i2l (pc := 8) ok dL_hatch_8 (by exact hz) ?_
  refine a_last (pc := 9) ok dL_hatch_9 (wr_out (hP _ hp)) (by decide) (by omega) ?_
  refine AW.cast (M2 := wr 64 72 M' (up fo 0 z)) ?_ rfl rfl (wr_set (hP _ hp))
  refine a_goto (pc := 10) (tgt := 21) ok dL_hatch_10 (by decide) ?_
  refine a_iconst (pc := 21) ok dL_hatch_21 ?_
  refine AW.widen (kc2 := 1) (ks2 := 6) (Nat.zero_le _) (Nat.zero_le _) ?_
  exact a_iret (pc := 22) ok dL_hatch_22 (⟨rfl, M', hp, rfl⟩)
theorem wx_hatch1 (hl : l.stackTraces = false) {a1 a2 : Int} (hM : M.length = 64) (hob : M[0]? = some (.inr (6, fs))) (ct : CtX l yX6_hatch cX6_hatch 4 (some .int) rxhatch [.ref 0, iv a1, iv a2] M nIO P) (hP : ∀ M9, P M9 → M9.length = 64) :
    CtW l yL_hatch cL_hatch 5 (some .int) hhL_hatch rwL_hatch [.ref 0, iv a1, iv a2, .ref 64] (wr 64 72 M fo) (fun v M8 => v = some (iv 1) ∧ ∃ M9, P M9 ∧ M8 = wr 64 72 M9 fo) := by
  refine CtW.of hl miL_hatch (Nat.le_of_ble_eq_true rfl) ?_
  intro X hXl hN ok ex tb
  subst hXl
  refine AW.cast (L2 := [some (.ref 0), some (iv a1), some (iv a2), some (.ref 64), none]) ?_ rfl rfl rfl
  refine a_aload_n (pc := 0) ok dL_hatch_0 rfl ?_
  refine a_iconst (pc := 1) ok dL_hatch_1 ?_
  refine a_aload_n (pc := 2) ok dL_hatch_2 rfl ?_
  refine a_iload_n (pc := 3) ok dL_hatch_3 rfl ?_
  refine a_iload_n (pc := 4) ok dL_hatch_4 rfl ?_
  exact w_callV (pc := 5) (hh := hhL_hatch) (k := 1) (name := nIO) (pre := []) (suf := [⟨0, 10, 17, 13⟩]) (x := ⟨0, 10, 13, 28⟩) ok ex tb (πs 64 72) 64 dL_hatch_5 mvL_69 miX6_hatch ct ⟨by decide, by decide, rfl, rfl, by decide, by decide⟩ rfl rfl (Nat.le_of_ble_eq_true rfl) hM (fit_wr hM) (nd_wr _ _) hob rfl (fun M9 h9 => by rw [hP _ h9, hM]) rfl (fun z hz => nomatch hz) (by decide) (by decide) (ug3 194 (by decide +kernel) rfl) cast_nIO (Or.inr ⟨4, dL_hatch_13, by rw [hN]; decide, dL_hatch_15, dL_hatch_16⟩) (fun M9 h9 => ⟨rfl, M9, h9, pb_wr hM (hP _ h9)⟩)
theorem wx_hatch2 (hl : l.stackTraces = false) {a1 a2 : Int} (hM : M.length = 64) (hob : M[0]? = some (.inr (6, fs))) (ct : CtX l yX6_hatch cX6_hatch 4 (some .int) rxhatch [.ref 0, iv a1, iv a2] M nIA P) (hP : ∀ M9, P M9 → M9.length = 64) :
    CtW l yL_hatch cL_hatch 5 (some .int) hhL_hatch rwL_hatch [.ref 0, iv a1, iv a2, .ref 64] (wr 64 72 M fo) (fun v M8 => v = some (iv 2) ∧ ∃ M9, P M9 ∧ M8 = wr 64 72 M9 fo) := by
  refine CtW.of hl miL_hatch (Nat.le_of_ble_eq_true rfl) ?_
  intro X hXl hN ok ex tb
  subst hXl
  refine AW.cast (L2 := [some (.ref 0), some (iv a1), some (iv a2), some (.ref 64), none]) ?_ rfl rfl rfl
  refine a_aload_n (pc := 0) ok dL_hatch_0 rfl ?_
  refine a_iconst (pc := 1) ok dL_hatch_1 ?_
  refine a_aload_n (pc := 2) ok dL_hatch_2 rfl ?_
  refine a_iload_n (pc := 3) ok dL_hatch_3 rfl ?_
  refine a_iload_n (pc := 4) ok dL_hatch_4 rfl ?_
  exact w_callV (pc := 5) (hh := hhL_hatch) (k := 2) (name := nIA) (pre := [⟨0, 10, 13, 28⟩]) (suf := []) (x := ⟨0, 10, 17, 13⟩) ok ex tb (πs 64 72) 64 dL_hatch_5 mvL_69 miX6_hatch ct ⟨by decide, by decide, rfl, rfl, by decide, by decide⟩ rfl rfl (Nat.le_of_ble_eq_true rfl) hM (fit_wr hM) (nd_wr _ _) hob rfl (fun M9 h9 => by rw [hP _ h9, hM]) rfl (fun z hz => by cases List.mem_singleton.mp hz; exact ⟨by decide, nIO, ug3 194 (by decide +kernel) rfl, by decide +kernel⟩) (by decide) (by decide) (ug2 191 (by decide +kernel) rfl) cast_nIA (Or.inr ⟨4, dL_hatch_17, by rw [hN]; decide, dL_hatch_19, dL_hatch_20⟩) (fun M9 h9 => ⟨rfl, M9, h9, pb_wr hM (hP _ h9)⟩)
theorem dL_line_0 : decode cL_line 0 = .ok (.aload_n 2, 1) := by decide +kernel
theorem dL_line_1 : decode cL_line 1 = .ok (.iconst 0, 1) := by decide +kernel
theorem dL_line_2 : decode cL_line 2 = .ok (.aload_n 0, 1) := by decide +kernel
theorem dL_line_3 : decode cL_line 3 = .ok (.iload_n 1, 1) := by decide +kernel
theorem dL_line_4 : decode cL_line 4 = .ok (.invokevirtual 72, 3) := by decide +kernel
theorem dL_line_7 : decode cL_line 7 = .ok (.i2l, 1) := by decide +kernel
theorem dL_line_8 : decode cL_line 8 = .ok (.lastore, 1) := by decide +kernel
theorem dL_line_9 : decode cL_line 9 = .ok (.goto 6, 3) := by decide +kernel
theorem dL_line_12 : decode cL_line 12 = .ok (.astore_n 3, 1) := by decide +kernel
theorem dL_line_13 : decode cL_line 13 = .ok (.iconst 1, 1) := by decide +kernel
theorem dL_line_14 : decode cL_line 14 = .ok (.ireturn, 1) := by decide +kernel
theorem dL_line_15 : decode cL_line 15 = .ok (.iconst 0, 1) := by decide +kernel
theorem dL_line_16 : decode cL_line 16 = .ok (.ireturn, 1) := by decide +kernel
theorem w_line (hl : l.stackTraces = false) {a1 : Int} {z : Int} (hM : M.length = 64) (hob : M[0]? = some (.inr (6, fs))) (ct : Ct l yX6_line cX6_line 3 (some .int) rmX6_line [.ref 0, iv a1] M (fun v M9 => v = some (iv z) ∧ P M9)) (hP : ∀ M9, P M9 → M9.length = 64) (hz : rg z) :
    CtW l yL_line cL_line 4 (some .int) hhL_line rwL_line [.ref 0, iv a1, .ref 64] (wr 64 72 M fo) (fun v M8 => v = some (iv 0) ∧ ∃ M9, P M9 ∧ M8 = wr 64 72 M9 (up fo 0 z)) := by
  refine CtW.of hl miL_line (Nat.le_of_ble_eq_true rfl) ?_
  intro X hXl hN ok ex tb
  subst hXl
  refine AW.cast (L2 := [some (.ref 0), some (iv a1), some (.ref 64), none]) ?_ rfl rfl rfl
  refine a_aload_n (pc := 0) ok dL_line_0 rfl ?_
  refine a_iconst (pc := 1) ok dL_line_1 ?_
  refine a_aload_n (pc := 2) ok dL_line_2 rfl ?_
  refine a_iload_n (pc := 3) ok dL_line_3 rfl ?_
  refine x_callV (pc := 4) ok (πs 64 72) 64 dL_line_4 mvL_72 miX6_line (ct) ⟨by decide, by decide, rfl, rfl, Nat.zero_le _, Nat.zero_le _⟩ rfl rfl (Nat.le_of_ble_eq_true rfl) hM (fit_wr hM) (nd_wr _ _) hob rfl (fun v M9 h9 => by rw [hP _ h9.2, hM]) ?_
  rintro _ M' ⟨rfl, hp⟩
  refine AW.cast (st2 := [iv z, iv 0, .ref 64]) (M2 := wr 64 72 M' fo) ?_ rfl rfl (pb_wr hM (hP _ hp))
  refine a_i2l (pc := 7) ok dL_line_7 (by exact hz) ?_
  refine a_last (pc := 8) ok dL_line_8 (wr_out (hP _ hp)) (by decide) (by omega) ?_
  refine AW.cast (M2 := wr 64 72 M' (up fo 0 z)) ?_ rfl rfl (wr_set (hP _ hp))
  refine a_goto (pc := 9) (tgt := 15) ok dL_line_9 (by decide) ?_
  refine a_iconst (pc := 15) ok dL_line_15 ?_
  refine AW.widen (kc2 := 1) (ks2 := 6) (Nat.zero_le _) (Nat.zero_le _) ?_
  exact a_iret (pc := 16) ok dL_line_16 (⟨rfl, M', hp, rfl⟩)
theorem wx_line (hl : l.stackTraces = false) {a1 : Int} (hM : M.length = 64) (hob : M[0]? = some (.inr (6, fs))) (ct : CtX l yX6_line cX6_line 3 (some .int) rxline [.ref 0, iv a1] M nIA P) (hP : ∀ M9, P M9 → M9.length = 64) :
    CtW l yL_line cL_line 4 (some .int) hhL_line rwL_line [.ref 0, iv a1, .ref 64] (wr 64 72 M fo) (fun v M8 => v = some (iv 1) ∧ ∃ M9, P M9 ∧ M8 = wr 64 72 M9 fo) := by
  refine CtW.of hl miL_line (Nat.le_of_ble_eq_true rfl) ?_
  intro X hXl hN ok ex tb
  subst hXl
  refine AW.cast (L2 := [some (.ref 0), some (iv a1), some (.ref 64), none]) ?_ rfl rfl rfl
  refine a_aload_n (pc := 0) ok dL_line_0 rfl ?_
  refine a_iconst (pc := 1) ok dL_line_1 ?_
  refine a_aload_n (pc := 2) ok dL_line_2 rfl ?_
  refine a_iload_n (pc := 3) ok dL_line_3 rfl ?_
  exact w_callV (pc := 4) (hh := hhL_line) (k := 1) (name := nIA) (pre := []) (suf := []) (x := ⟨0, 9, 12, 13⟩) ok ex tb (πs 64 72) 64 dL_line_4 mvL_72 miX6_line ct ⟨by decide, by decide, rfl, rfl, by decide, by decide⟩ rfl rfl (Nat.le_of_ble_eq_true rfl) hM (fit_wr hM) (nd_wr _ _) hob rfl (fun M9 h9 => by rw [hP _ h9, hM]) rfl (fun z hz => nomatch hz) (by decide) (by decide) (ug2 191 (by decide +kernel) rfl) cast_nIA (Or.inl ⟨3, dL_line_12, by rw [hN]; decide, dL_line_13, dL_line_14⟩) (fun M9 h9 => ⟨rfl, M9, h9, pb_wr hM (hP _ h9)⟩)
theorem dL_spread_0 : decode cL_spread 0 = .ok (.aload_n 2, 1) := by decide +kernel
theorem dL_spread_1 : decode cL_spread 1 = .ok (.iconst 0, 1) := by decide +kernel
theorem dL_spread_2 : decode cL_spread 2 = .ok (.aload_n 0, 1) := by decide +kernel
theorem dL_spread_3 : decode cL_spread 3 = .ok (.iload_n 1, 1) := by decide +kernel
theorem dL_spread_4 : decode cL_spread 4 = .ok (.invokevirtual 75, 3) := by decide +kernel
theorem dL_spread_7 : decode cL_spread 7 = .ok (.i2l, 1) := by decide +kernel
theorem dL_spread_8 : decode cL_spread 8 = .ok (.lastore, 1) := by decide +kernel
theorem dL_spread_9 : decode cL_spread 9 = .ok (.goto 6, 3) := by decide +kernel
theorem dL_spread_12 : decode cL_spread 12 = .ok (.astore_n 3, 1) := by decide +kernel
theorem dL_spread_13 : decode cL_spread 13 = .ok (.iconst 1, 1) := by decide +kernel
theorem dL_spread_14 : decode cL_spread 14 = .ok (.ireturn, 1) := by decide +kernel
theorem dL_spread_15 : decode cL_spread 15 = .ok (.iconst 0, 1) := by decide +kernel
theorem dL_spread_16 : decode cL_spread 16 = .ok (.ireturn, 1) := by decide +kernel
theorem w_spread (hl : l.stackTraces = false) {a1 : Int} {z : Int} (hM : M.length = 64) (hob : M[0]? = some (.inr (6, fs))) (ct : Ct l yX6_spread cX6_spread 2 (some .int) rmX6_spread [.ref 0, iv a1] M (fun v M9 => v = some (iv z) ∧ P M9)) (hP : ∀ M9, P M9 → M9.length = 64) (hz : rg z) :
    CtW l yL_spread cL_spread 4 (some .int) hhL_spread rwL_spread [.ref 0, iv a1, .ref 64] (wr 64 72 M fo) (fun v M8 => v = some (iv 0) ∧ ∃ M9, P M9 ∧ M8 = wr 64 72 M9 (up fo 0 z)) := by
  refine CtW.of hl miL_spread (Nat.le_of_ble_eq_true rfl) ?_
  intro X hXl hN ok ex tb
  subst hXl
  refine AW.cast (L2 := [some (.ref 0), some (iv a1), some (.ref 64), none]) ?_ rfl rfl rfl
  refine a_aload_n (pc := 0) ok dL_spread_0 rfl ?_
  refine a_iconst (pc := 1) ok dL_spread_1 ?_
  refine a_aload_n (pc := 2) ok dL_spread_2 rfl ?_
  refine a_iload_n (pc := 3) ok dL_spread_3 rfl ?_
  refine x_callV (pc := 4) ok (πs 64 72) 64 dL_spread_4 mvL_75 miX6_spread (ct) ⟨by decide, by decide, rfl, rfl, Nat.zero_le _, Nat.zero_le _⟩ rfl rfl (Nat.le_of_ble_eq_true rfl) hM (fit_wr hM) (nd_wr _ _) hob rfl (fun v M9 h9 => by rw [hP _ h9.2, hM]) ?_
  rintro _ M' ⟨rfl, hp⟩
  refine AW.cast (st2 := [iv z, iv 0, .ref 64]) (M2 := wr 64 72 M' fo) ?_ rfl rfl (pb_wr hM (hP _ hp))
  refine a_i2l (pc := 7) ok dL_spread_7 (by exact hz) ?_
  refine a_last (pc := 8) ok dL_spread_8 (wr_out (hP _ hp)) (by decide) (by omega) ?_
  refine AW.cast (M2 := wr 64 72 M' (up fo 0 z)) ?_ rfl rfl (wr_set (hP _ hp))
  refine a_goto (pc := 9) (tgt := 15) ok dL_spread_9 (by decide) ?_
  refine a_iconst (pc := 15) ok dL_spread_15 ?_
  refine AW.widen (kc2 := 1) (ks2 := 6) (Nat.zero_le _) (Nat.zero_le _) ?_
  exact a_iret (pc := 16) ok dL_spread_16 (⟨rfl, M', hp, rfl⟩)
theorem wx_spread (hl : l.stackTraces = false) {a1 : Int} (hM : M.length = 64) (hob : M[0]? = some (.inr (6, fs))) (ct : CtX l yX6_spread cX6_spread 2 (some .int) rxspread [.ref 0, iv a1] M nIA P) (hP : ∀ M9, P M9 → M9.length = 64) :
    CtW l yL_spread cL_spread 4 (some .int) hhL_spread rwL_spread [.ref 0, iv a1, .ref 64] (wr 64 72 M fo) (fun v M8 => v = some (iv 1) ∧ ∃ M9, P M9 ∧ M8 = wr 64 72 M9 fo) := by
  refine CtW.of hl miL_spread (Nat.le_of_ble_eq_true rfl) ?_
  intro X hXl hN ok ex tb
  subst hXl
  refine AW.cast (L2 := [some (.ref 0), some (iv a1), some (.ref 64), none]) ?_ rfl rfl rfl
  refine a_aload_n (pc := 0) ok dL_spread_0 rfl ?_
  refine a_iconst (pc := 1) ok dL_spread_1 ?_
  refine a_aload_n (pc := 2) ok dL_spread_2 rfl ?_
  refine a_iload_n (pc := 3) ok dL_spread_3 rfl ?_
  exact w_callV (pc := 4) (hh := hhL_spread) (k := 1) (name := nIA) (pre := []) (suf := []) (x := ⟨0, 9, 12, 13⟩) ok ex tb (πs 64 72) 64 dL_spread_4 mvL_75 miX6_spread ct ⟨by decide, by decide, rfl, rfl, by decide, by decide⟩ rfl rfl (Nat.le_of_ble_eq_true rfl) hM (fit_wr hM) (nd_wr _ _) hob rfl (fun M9 h9 => by rw [hP _ h9, hM]) rfl (fun z hz => nomatch hz) (by decide) (by decide) (ug2 191 (by decide +kernel) rfl) cast_nIA (Or.inl ⟨3, dL_spread_12, by rw [hN]; decide, dL_spread_13, dL_spread_14⟩) (fun M9 h9 => ⟨rfl, M9, h9, pb_wr hM (hP _ h9)⟩)
theorem dL_noise_0 : decode cL_noise 0 = .ok (.aload 4, 2) := by decide +kernel
theorem dL_noise_2 : decode cL_noise 2 = .ok (.iconst 0, 1) := by decide +kernel
theorem dL_noise_3 : decode cL_noise 3 = .ok (.aload_n 0, 1) := by decide +kernel
theorem dL_noise_4 : decode cL_noise 4 = .ok (.lload_n 1, 1) := by decide +kernel
theorem dL_noise_5 : decode cL_noise 5 = .ok (.iload_n 3, 1) := by decide +kernel
theorem dL_noise_6 : decode cL_noise 6 = .ok (.invokevirtual 78, 3) := by decide +kernel
theorem dL_noise_9 : decode cL_noise 9 = .ok (.i2l, 1) := by decide +kernel
theorem dL_noise_10 : decode cL_noise 10 = .ok (.lastore, 1) := by decide +kernel
theorem dL_noise_11 : decode cL_noise 11 = .ok (.goto 7, 3) := by decide +kernel
theorem dL_noise_14 : decode cL_noise 14 = .ok (.astore 5, 2) := by decide +kernel
theorem dL_noise_16 : decode cL_noise 16 = .ok (.iconst 1, 1) := by decide +kernel
theorem dL_noise_17 : decode cL_noise 17 = .ok (.ireturn, 1) := by decide +kernel
theorem dL_noise_18 : decode cL_noise 18 = .ok (.iconst 0, 1) := by decide +kernel
theorem dL_noise_19 : decode cL_noise 19 = .ok (.ireturn, 1) := by decide +kernel
theorem w_noise (hl : l.stackTraces = false) {a1 a2 : Int} {z : Int} (hM : M.length = 64) (hob : M[0]? = some (.inr (6, fs))) (ct : Ct l yX6_noise cX6_noise 4 (some .int) rmX6_noise [.ref 0, jv a1, iv a2] M (fun v M9 => v = some (iv z) ∧ P M9)) (hP : ∀ M9, P M9 → M9.length = 64) (hz : rg z) :
    CtW l yL_noise cL_noise 6 (some .int) hhL_noise rwL_noise [.ref 0, jv a1, iv a2, .ref 64] (wr 64 72 M fo) (fun v M8 => v = some (iv 0) ∧ ∃ M9, P M9 ∧ M8 = wr 64 72 M9 (up fo 0 z)) := by
  refine CtW.of hl miL_noise (Nat.le_of_ble_eq_true rfl) ?_
  intro X hXl hN ok ex tb
  subst hXl
  refine AW.cast (L2 := [some (.ref 0), some (jv a1), none, some (iv a2), some (.ref 64), none]) ?_ rfl rfl rfl
  refine a_aload (pc := 0) ok dL_noise_0 rfl ?_
  refine a_iconst (pc := 2) ok dL_noise_2 ?_
  refine a_aload_n (pc := 3) ok dL_noise_3 rfl ?_
  refine a_lload_n (pc := 4) ok dL_noise_4 rfl ?_
  refine a_iload_n (pc := 5) ok dL_noise_5 rfl ?_
  refine x_callV (pc := 6) ok (πs 64 72) 64 dL_noise_6 mvL_78 miX6_noise (ct) ⟨by decide, by decide, rfl, rfl, Nat.zero_le _, Nat.zero_le _⟩ rfl rfl (Nat.le_of_ble_eq_true rfl) hM (fit_wr hM) (nd_wr _ _) hob rfl (fun v M9 h9 => by rw [hP _ h9.2, hM]) ?_
  rintro _ M' ⟨rfl, hp⟩
  refine AW.cast (st2 := [iv z, iv 0, .ref 64]) (M2 := wr 64 72 M' fo) ?_ rfl rfl (pb_wr hM (hP _ hp))
  refine a_i2l (pc := 9) ok dL_noise_9 (by exact hz) ?_
  refine a_last (pc := 10) ok dL_noise_10 (wr_out (hP _ hp)) (by decide) (by omega) ?_
  refine AW.cast (M2 := wr 64 72 M' (up fo 0 z)) ?_ rfl rfl (wr_set (hP _ hp))
  refine a_goto (pc := 11) (tgt := 18) ok dL_noise_11 (by decide) ?_
  refine a_iconst (pc := 18) ok dL_noise_18 ?_
  refine AW.widen (kc2 := 1) (ks2 := 6) (Nat.zero_le _) (Nat.zero_le _) ?_
  exact a_iret (pc := 19) ok dL_noise_19 (⟨rfl, M', hp, rfl⟩)
theorem wx_noise (hl : l.stackTraces = false) {a1 a2 : Int} (hM : M.length = 64) (hob : M[0]? = some (.inr (6, fs))) (ct : CtX l yX6_noise cX6_noise 4 (some .int) rxnoise [.ref 0, jv a1, iv a2] M nIA P) (hP : ∀ M9, P M9 → M9.length = 64) :
    CtW l yL_noise cL_noise 6 (some .int) hhL_noise rwL_noise [.ref 0, jv a1, iv a2, .ref 64] (wr 64 72 M fo) (fun v M8 => v = some (iv 1) ∧ ∃ M9, P M9 ∧ M8 = wr 64 72 M9 fo) := by
  refine CtW.of hl miL_noise (Nat.le_of_ble_eq_true rfl) ?_
  intro X hXl hN ok ex tb
  subst hXl
  refine AW.cast (L2 := [some (.ref 0), some (jv a1), none, some (iv a2), some (.ref 64), none]) ?_ rfl rfl rfl
  refine a_aload (pc := 0) ok dL_noise_0 rfl ?_
  refine a_iconst (pc := 2) ok dL_noise_2 ?_
  refine a_aload_n (pc := 3) ok dL_noise_3 rfl ?_
  refine a_lload_n (pc := 4) ok dL_noise_4 rfl ?_
  refine a_iload_n (pc := 5) ok dL_noise_5 rfl ?_
  exact w_callV (pc := 6) (hh := hhL_noise) (k := 1) (name := nIA) (pre := []) (suf := []) (x := ⟨0, 11, 14, 13⟩) ok ex tb (πs 64 72) 64 dL_noise_6 mvL_78 miX6_noise ct ⟨by decide, by decide, rfl, rfl, by decide, by decide⟩ rfl rfl (Nat.le_of_ble_eq_true rfl) hM (fit_wr hM) (nd_wr _ _) hob rfl (fun M9 h9 => by rw [hP _ h9, hM]) rfl (fun z hz => nomatch hz) (by decide) (by decide) (ug2 191 (by decide +kernel) rfl) cast_nIA (Or.inr ⟨5, dL_noise_14, by rw [hN]; decide, dL_noise_16, dL_noise_17⟩) (fun M9 h9 => ⟨rfl, M9, h9, pb_wr hM (hP _ h9)⟩)
theorem dL_undo_0 : decode cL_undo 0 = .ok (.aload_n 1, 1) := by decide +kernel
theorem dL_undo_1 : decode cL_undo 1 = .ok (.iconst 0, 1) := by decide +kernel
theorem dL_undo_2 : decode cL_undo 2 = .ok (.aload_n 0, 1) := by decide +kernel
theorem dL_undo_3 : decode cL_undo 3 = .ok (.invokevirtual 82, 3) := by decide +kernel
theorem dL_undo_6 : decode cL_undo 6 = .ok (.i2l, 1) := by decide +kernel
theorem dL_undo_7 : decode cL_undo 7 = .ok (.lastore, 1) := by decide +kernel
theorem dL_undo_8 : decode cL_undo 8 = .ok (.goto 6, 3) := by decide +kernel
theorem dL_undo_11 : decode cL_undo 11 = .ok (.astore_n 2, 1) := by decide +kernel
theorem dL_undo_12 : decode cL_undo 12 = .ok (.iconst 1, 1) := by decide +kernel
theorem dL_undo_13 : decode cL_undo 13 = .ok (.ireturn, 1) := by decide +kernel
theorem dL_undo_14 : decode cL_undo 14 = .ok (.iconst 0, 1) := by decide +kernel
theorem dL_undo_15 : decode cL_undo 15 = .ok (.ireturn, 1) := by decide +kernel
theorem w_undo (hl : l.stackTraces = false) {z : Int} (hM : M.length = 64) (hob : M[0]? = some (.inr (6, fs))) (ct : Ct l yX6_undo cX6_undo 1 (some .int) rmX6_undo [.ref 0] M (fun v M9 => v = some (iv z) ∧ P M9)) (hP : ∀ M9, P M9 → M9.length = 64) (hz : rg z) :
    CtW l yL_undo cL_undo 3 (some .int) hhL_undo rwL_undo [.ref 0, .ref 64] (wr 64 72 M fo) (fun v M8 => v = some (iv 0) ∧ ∃ M9, P M9 ∧ M8 = wr 64 72 M9 (up fo 0 z)) := by
  refine CtW.of hl miL_undo (Nat.le_of_ble_eq_true rfl) ?_
  intro X hXl hN ok ex tb
  subst hXl
  refine AW.cast (L2 := [some (.ref 0), some (.ref 64), none]) ?_ rfl rfl rfl
  refine a_aload_n (pc := 0) ok dL_undo_0 rfl ?_
  refine a_iconst (pc := 1) ok dL_undo_1 ?_
  refine a_aload_n (pc := 2) ok dL_undo_2 rfl ?_
  refine x_callV (pc := 3) ok (πs 64 72) 64 dL_undo_3 mvL_82 miX6_undo (ct) ⟨by decide, by decide, rfl, rfl, Nat.zero_le _, Nat.zero_le _⟩ rfl rfl (Nat.le_of_ble_eq_true rfl) hM (fit_wr hM) (nd_wr _ _) hob rfl (fun v M9 h9 => by rw [hP _ h9.2, hM]) ?_
  rintro _ M' ⟨rfl, hp⟩
  refine AW.cast (st2 := [iv z, iv 0, .ref 64]) (M2 := wr 64 72 M' fo) ?_ rfl rfl (pb_wr hM (hP _ hp))
  refine a_i2l (pc := 6) ok dL_undo_6 (by exact hz) ?_
  refine a_last (pc := 7) ok dL_undo_7 (wr_out (hP _ hp)) (by decide) (by omega) ?_
  refine AW.cast (M2 := wr 64 72 M' (up fo 0 z)) ?_ rfl rfl (wr_set (hP _ hp))
  refine a_goto (pc := 8) (tgt := 14) ok dL_undo_8 (by decide) ?_
  refine a_iconst (pc := 14) ok dL_undo_14 ?_
  refine AW.widen (kc2 := 1) (ks2 := 6) (Nat.zero_le _) (Nat.zero_le _) ?_
  exact a_iret (pc := 15) ok dL_undo_15 (⟨rfl, M', hp, rfl⟩)
theorem wx_undo (hl : l.stackTraces = false) (hM : M.length = 64) (hob : M[0]? = some (.inr (6, fs))) (ct : CtX l yX6_undo cX6_undo 1 (some .int) rxundo [.ref 0] M nIS P) (hP : ∀ M9, P M9 → M9.length = 64) :
    CtW l yL_undo cL_undo 3 (some .int) hhL_undo rwL_undo [.ref 0, .ref 64] (wr 64 72 M fo) (fun v M8 => v = some (iv 1) ∧ ∃ M9, P M9 ∧ M8 = wr 64 72 M9 fo) := by
  refine CtW.of hl miL_undo (Nat.le_of_ble_eq_true rfl) ?_
  intro X hXl hN ok ex tb
  subst hXl
  refine AW.cast (L2 := [some (.ref 0), some (.ref 64), none]) ?_ rfl rfl rfl
  refine a_aload_n (pc := 0) ok dL_undo_0 rfl ?_
  refine a_iconst (pc := 1) ok dL_undo_1 ?_
  refine a_aload_n (pc := 2) ok dL_undo_2 rfl ?_
  exact w_callV (pc := 3) (hh := hhL_undo) (k := 1) (name := nIS) (pre := []) (suf := []) (x := ⟨0, 8, 11, 15⟩) ok ex tb (πs 64 72) 64 dL_undo_3 mvL_82 miX6_undo ct ⟨by decide, by decide, rfl, rfl, by decide, by decide⟩ rfl rfl (Nat.le_of_ble_eq_true rfl) hM (fit_wr hM) (nd_wr _ _) hob rfl (fun M9 h9 => by rw [hP _ h9, hM]) rfl (fun z hz => nomatch hz) (by decide) (by decide) (ug2 192 (by decide +kernel) rfl) cast_nIS (Or.inl ⟨2, dL_undo_11, by rw [hN]; decide, dL_undo_12, dL_undo_13⟩) (fun M9 h9 => ⟨rfl, M9, h9, pb_wr hM (hP _ h9)⟩)
theorem dL_ifLeast_0 : decode cL_ifLeast 0 = .ok (.aload_n 3, 1) := by decide +kernel
theorem dL_ifLeast_1 : decode cL_ifLeast 1 = .ok (.iconst 0, 1) := by decide +kernel
theorem dL_ifLeast_2 : decode cL_ifLeast 2 = .ok (.aload_n 0, 1) := by decide +kernel
theorem dL_ifLeast_3 : decode cL_ifLeast 3 = .ok (.iload_n 1, 1) := by decide +kernel
theorem dL_ifLeast_4 : decode cL_ifLeast 4 = .ok (.iload_n 2, 1) := by decide +kernel
theorem dL_ifLeast_5 : decode cL_ifLeast 5 = .ok (.invokevirtual 85, 3) := by decide +kernel
theorem dL_ifLeast_8 : decode cL_ifLeast 8 = .ok (.i2l, 1) := by decide +kernel
theorem dL_ifLeast_9 : decode cL_ifLeast 9 = .ok (.lastore, 1) := by decide +kernel
theorem dL_ifLeast_10 : decode cL_ifLeast 10 = .ok (.goto 7, 3) := by decide +kernel
theorem dL_ifLeast_13 : decode cL_ifLeast 13 = .ok (.astore 4, 2) := by decide +kernel
theorem dL_ifLeast_15 : decode cL_ifLeast 15 = .ok (.iconst 1, 1) := by decide +kernel
theorem dL_ifLeast_16 : decode cL_ifLeast 16 = .ok (.ireturn, 1) := by decide +kernel
theorem dL_ifLeast_17 : decode cL_ifLeast 17 = .ok (.iconst 0, 1) := by decide +kernel
theorem dL_ifLeast_18 : decode cL_ifLeast 18 = .ok (.ireturn, 1) := by decide +kernel
theorem w_ifLeast (hl : l.stackTraces = false) {a1 a2 : Int} {z : Int} (hM : M.length = 18) (hob : M[0]? = some (.inr (6, fs))) (ct : Ct l yX6_ifLeast cX6_ifLeast 3 (some .int) rmX6_ifLeast [.ref 0, iv a1, iv a2] M (fun v M9 => v = some (iv z) ∧ P M9)) (hP : ∀ M9, P M9 → M9.length = 18) (hz : rg z) :
    CtW l yL_ifLeast cL_ifLeast 5 (some .int) hhL_ifLeast rwL_ifLeast [.ref 0, iv a1, iv a2, .ref 18] (wr 18 25 M fo) (fun v M8 => v = some (iv 0) ∧ ∃ M9, P M9 ∧ M8 = wr 18 25 M9 (up fo 0 z)) := by
  refine CtW.of hl miL_ifLeast (Nat.le_of_ble_eq_true rfl) ?_
  intro X hXl hN ok ex tb
  subst hXl
  refine AW.cast (L2 := [some (.ref 0), some (iv a1), some (iv a2), some (.ref 18), none]) ?_ rfl rfl rfl
  refine a_aload_n (pc := 0) ok dL_ifLeast_0 rfl ?_
  refine a_iconst (pc := 1) ok dL_ifLeast_1 ?_
  refine a_aload_n (pc := 2) ok dL_ifLeast_2 rfl ?_
  refine a_iload_n (pc := 3) ok dL_ifLeast_3 rfl ?_
  refine a_iload_n (pc := 4) ok dL_ifLeast_4 rfl ?_
  refine x_callV (pc := 5) ok (πs 18 25) 18 dL_ifLeast_5 mvL_85 miX6_ifLeast (ct) ⟨by decide, by decide, rfl, rfl, Nat.zero_le _, Nat.zero_le _⟩ rfl rfl (Nat.le_of_ble_eq_true rfl) hM (fit_wr hM) (nd_wr _ _) hob rfl (fun v M9 h9 => by rw [hP _ h9.2, hM]) ?_
  rintro _ M' ⟨rfl, hp⟩
  refine AW.cast (st2 := [iv z, iv 0, .ref 18]) (M2 := wr 18 25 M' fo) ?_ rfl rfl (pb_wr hM (hP _ hp))
  refine a_i2l (pc := 8) ok dL_ifLeast_8 (by exact hz) ?_
  refine a_last (pc := 9) ok dL_ifLeast_9 (wr_out (hP _ hp)) (by decide) (by omega) ?_
  refine AW.cast (M2 := wr 18 25 M' (up fo 0 z)) ?_ rfl rfl (wr_set (hP _ hp))
  refine a_goto (pc := 10) (tgt := 17) ok dL_ifLeast_10 (by decide) ?_
  refine a_iconst (pc := 17) ok dL_ifLeast_17 ?_
  refine AW.widen (kc2 := 1) (ks2 := 6) (Nat.zero_le _) (Nat.zero_le _) ?_
  exact a_iret (pc := 18) ok dL_ifLeast_18 (⟨rfl, M', hp, rfl⟩)
theorem wx_ifLeast (hl : l.stackTraces = false) {a1 a2 : Int} (hM : M.length = 18) (hob : M[0]? = some (.inr (6, fs))) (ct : CtX l yX6_ifLeast cX6_ifLeast 3 (some .int) rxifLeast [.ref 0, iv a1, iv a2] M nIA P) (hP : ∀ M9, P M9 → M9.length = 18) :
    CtW l yL_ifLeast cL_ifLeast 5 (some .int) hhL_ifLeast rwL_ifLeast [.ref 0, iv a1, iv a2, .ref 18] (wr 18 25 M fo) (fun v M8 => v = some (iv 1) ∧ ∃ M9, P M9 ∧ M8 = wr 18 25 M9 fo) := by
  refine CtW.of hl miL_ifLeast (Nat.le_of_ble_eq_true rfl) ?_
  intro X hXl hN ok ex tb
  subst hXl
  refine AW.cast (L2 := [some (.ref 0), some (iv a1), some (iv a2), some (.ref 18), none]) ?_ rfl rfl rfl
  refine a_aload_n (pc := 0) ok dL_ifLeast_0 rfl ?_
  refine a_iconst (pc := 1) ok dL_ifLeast_1 ?_
  refine a_aload_n (pc := 2) ok dL_ifLeast_2 rfl ?_
  refine a_iload_n (pc := 3) ok dL_ifLeast_3 rfl ?_
  refine a_iload_n (pc := 4) ok dL_ifLeast_4 rfl ?_
  exact w_callV (pc := 5) (hh := hhL_ifLeast) (k := 1) (name := nIA) (pre := []) (suf := []) (x := ⟨0, 10, 13, 13⟩) ok ex tb (πs 18 25) 18 dL_ifLeast_5 mvL_85 miX6_ifLeast ct ⟨by decide, by decide, rfl, rfl, by decide, by decide⟩ rfl rfl (Nat.le_of_ble_eq_true rfl) hM (fit_wr hM) (nd_wr _ _) hob rfl (fun M9 h9 => by rw [hP _ h9, hM]) rfl (fun z hz => nomatch hz) (by decide) (by decide) (ug2 191 (by decide +kernel) rfl) cast_nIA (Or.inr ⟨4, dL_ifLeast_13, by rw [hN]; decide, dL_ifLeast_15, dL_ifLeast_16⟩) (fun M9 h9 => ⟨rfl, M9, h9, pb_wr hM (hP _ h9)⟩)
theorem dL_leastFor_0 : decode cL_leastFor 0 = .ok (.aload_n 2, 1) := by decide +kernel
theorem dL_leastFor_1 : decode cL_leastFor 1 = .ok (.iconst 0, 1) := by decide +kernel
theorem dL_leastFor_2 : decode cL_leastFor 2 = .ok (.aload_n 0, 1) := by decide +kernel
theorem dL_leastFor_3 : decode cL_leastFor 3 = .ok (.iload_n 1, 1) := by decide +kernel
theorem dL_leastFor_4 : decode cL_leastFor 4 = .ok (.invokevirtual 88, 3) := by decide +kernel
theorem dL_leastFor_7 : decode cL_leastFor 7 = .ok (.i2l, 1) := by decide +kernel
theorem dL_leastFor_8 : decode cL_leastFor 8 = .ok (.lastore, 1) := by decide +kernel
theorem dL_leastFor_9 : decode cL_leastFor 9 = .ok (.goto 6, 3) := by decide +kernel
theorem dL_leastFor_12 : decode cL_leastFor 12 = .ok (.astore_n 3, 1) := by decide +kernel
theorem dL_leastFor_13 : decode cL_leastFor 13 = .ok (.iconst 1, 1) := by decide +kernel
theorem dL_leastFor_14 : decode cL_leastFor 14 = .ok (.ireturn, 1) := by decide +kernel
theorem dL_leastFor_15 : decode cL_leastFor 15 = .ok (.iconst 0, 1) := by decide +kernel
theorem dL_leastFor_16 : decode cL_leastFor 16 = .ok (.ireturn, 1) := by decide +kernel
theorem w_leastFor (hl : l.stackTraces = false) {a1 : Int} {z : Int} (hM : M.length = 18) (hob : M[0]? = some (.inr (6, fs))) (ct : Ct l yX6_leastFor cX6_leastFor 3 (some .int) rmX6_leastFor [.ref 0, iv a1] M (fun v M9 => v = some (iv z) ∧ P M9)) (hP : ∀ M9, P M9 → M9.length = 18) (hz : rg z) :
    CtW l yL_leastFor cL_leastFor 4 (some .int) hhL_leastFor rwL_leastFor [.ref 0, iv a1, .ref 18] (wr 18 25 M fo) (fun v M8 => v = some (iv 0) ∧ ∃ M9, P M9 ∧ M8 = wr 18 25 M9 (up fo 0 z)) := by
  refine CtW.of hl miL_leastFor (Nat.le_of_ble_eq_true rfl) ?_
  intro X hXl hN ok ex tb
  subst hXl
  refine AW.cast (L2 := [some (.ref 0), some (iv a1), some (.ref 18), none]) ?_ rfl rfl rfl
  refine a_aload_n (pc := 0) ok dL_leastFor_0 rfl ?_
  refine a_iconst (pc := 1) ok dL_leastFor_1 ?_
  refine a_aload_n (pc := 2) ok dL_leastFor_2 rfl ?_
  refine a_iload_n (pc := 3) ok dL_leastFor_3 rfl ?_
  refine x_callV (pc := 4) ok (πs 18 25) 18 dL_leastFor_4 mvL_88 miX6_leastFor (ct) ⟨by decide, by decide, rfl, rfl, Nat.zero_le _, Nat.zero_le _⟩ rfl rfl (Nat.le_of_ble_eq_true rfl) hM (fit_wr hM) (nd_wr _ _) hob rfl (fun v M9 h9 => by rw [hP _ h9.2, hM]) ?_
  rintro _ M' ⟨rfl, hp⟩
  refine AW.cast (st2 := [iv z, iv 0, .ref 18]) (M2 := wr 18 25 M' fo) ?_ rfl rfl (pb_wr hM (hP _ hp))
  refine a_i2l (pc := 7) ok dL_leastFor_7 (by exact hz) ?_
  refine a_last (pc := 8) ok dL_leastFor_8 (wr_out (hP _ hp)) (by decide) (by omega) ?_
  refine AW.cast (M2 := wr 18 25 M' (up fo 0 z)) ?_ rfl rfl (wr_set (hP _ hp))
  refine a_goto (pc := 9) (tgt := 15) ok dL_leastFor_9 (by decide) ?_
  refine a_iconst (pc := 15) ok dL_leastFor_15 ?_
  refine AW.widen (kc2 := 1) (ks2 := 6) (Nat.zero_le _) (Nat.zero_le _) ?_
  exact a_iret (pc := 16) ok dL_leastFor_16 (⟨rfl, M', hp, rfl⟩)
theorem wx_leastFor (hl : l.stackTraces = false) {a1 : Int} (hM : M.length = 18) (hob : M[0]? = some (.inr (6, fs))) (ct : CtX l yX6_leastFor cX6_leastFor 3 (some .int) rxleastFor [.ref 0, iv a1] M nIA P) (hP : ∀ M9, P M9 → M9.length = 18) :
    CtW l yL_leastFor cL_leastFor 4 (some .int) hhL_leastFor rwL_leastFor [.ref 0, iv a1, .ref 18] (wr 18 25 M fo) (fun v M8 => v = some (iv 1) ∧ ∃ M9, P M9 ∧ M8 = wr 18 25 M9 fo) := by
  refine CtW.of hl miL_leastFor (Nat.le_of_ble_eq_true rfl) ?_
  intro X hXl hN ok ex tb
  subst hXl
  refine AW.cast (L2 := [some (.ref 0), some (iv a1), some (.ref 18), none]) ?_ rfl rfl rfl
  refine a_aload_n (pc := 0) ok dL_leastFor_0 rfl ?_
  refine a_iconst (pc := 1) ok dL_leastFor_1 ?_
  refine a_aload_n (pc := 2) ok dL_leastFor_2 rfl ?_
  refine a_iload_n (pc := 3) ok dL_leastFor_3 rfl ?_
  exact w_callV (pc := 4) (hh := hhL_leastFor) (k := 1) (name := nIA) (pre := []) (suf := []) (x := ⟨0, 9, 12, 13⟩) ok ex tb (πs 18 25) 18 dL_leastFor_4 mvL_88 miX6_leastFor ct ⟨by decide, by decide, rfl, rfl, by decide, by decide⟩ rfl rfl (Nat.le_of_ble_eq_true rfl) hM (fit_wr hM) (nd_wr _ _) hob rfl (fun M9 h9 => by rw [hP _ h9, hM]) rfl (fun z hz => nomatch hz) (by decide) (by decide) (ug2 191 (by decide +kernel) rfl) cast_nIA (Or.inl ⟨3, dL_leastFor_12, by rw [hN]; decide, dL_leastFor_13, dL_leastFor_14⟩) (fun M9 h9 => ⟨rfl, M9, h9, pb_wr hM (hP _ h9)⟩)
theorem dL_bestMove_0 : decode cL_bestMove 0 = .ok (.aload_n 2, 1) := by decide +kernel
theorem dL_bestMove_1 : decode cL_bestMove 1 = .ok (.iconst 0, 1) := by decide +kernel
theorem dL_bestMove_2 : decode cL_bestMove 2 = .ok (.aload_n 0, 1) := by decide +kernel
theorem dL_bestMove_3 : decode cL_bestMove 3 = .ok (.iload_n 1, 1) := by decide +kernel
theorem dL_bestMove_4 : decode cL_bestMove 4 = .ok (.invokevirtual 91, 3) := by decide +kernel
theorem dL_bestMove_7 : decode cL_bestMove 7 = .ok (.i2l, 1) := by decide +kernel
theorem dL_bestMove_8 : decode cL_bestMove 8 = .ok (.lastore, 1) := by decide +kernel
theorem dL_bestMove_9 : decode cL_bestMove 9 = .ok (.goto 6, 3) := by decide +kernel
theorem dL_bestMove_12 : decode cL_bestMove 12 = .ok (.astore_n 3, 1) := by decide +kernel
theorem dL_bestMove_13 : decode cL_bestMove 13 = .ok (.iconst 1, 1) := by decide +kernel
theorem dL_bestMove_14 : decode cL_bestMove 14 = .ok (.ireturn, 1) := by decide +kernel
theorem dL_bestMove_15 : decode cL_bestMove 15 = .ok (.iconst 0, 1) := by decide +kernel
theorem dL_bestMove_16 : decode cL_bestMove 16 = .ok (.ireturn, 1) := by decide +kernel
theorem w_bestMove (hl : l.stackTraces = false) {a1 : Int} {z : Int} (hM : M.length = 18) (hob : M[0]? = some (.inr (6, fs))) (ct : Ct l yX6_bestMove cX6_bestMove 9 (some .int) rmX6_bestMove [.ref 0, iv a1] M (fun v M9 => v = some (iv z) ∧ P M9)) (hP : ∀ M9, P M9 → M9.length = 18) (hz : rg z) :
    CtW l yL_bestMove cL_bestMove 4 (some .int) hhL_bestMove rwL_bestMove [.ref 0, iv a1, .ref 18] (wr 18 25 M fo) (fun v M8 => v = some (iv 0) ∧ ∃ M9, P M9 ∧ M8 = wr 18 25 M9 (up fo 0 z)) := by
  refine CtW.of hl miL_bestMove (Nat.le_of_ble_eq_true rfl) ?_
  intro X hXl hN ok ex tb
  subst hXl
  refine AW.cast (L2 := [some (.ref 0), some (iv a1), some (.ref 18), none]) ?_ rfl rfl rfl
  refine a_aload_n (pc := 0) ok dL_bestMove_0 rfl ?_
  refine a_iconst (pc := 1) ok dL_bestMove_1 ?_
  refine a_aload_n (pc := 2) ok dL_bestMove_2 rfl ?_
  refine a_iload_n (pc := 3) ok dL_bestMove_3 rfl ?_
  refine x_callV (pc := 4) ok (πs 18 25) 18 dL_bestMove_4 mvL_91 miX6_bestMove (ct) ⟨by decide, by decide, rfl, rfl, Nat.zero_le _, Nat.zero_le _⟩ rfl rfl (Nat.le_of_ble_eq_true rfl) hM (fit_wr hM) (nd_wr _ _) hob rfl (fun v M9 h9 => by rw [hP _ h9.2, hM]) ?_
  rintro _ M' ⟨rfl, hp⟩
  refine AW.cast (st2 := [iv z, iv 0, .ref 18]) (M2 := wr 18 25 M' fo) ?_ rfl rfl (pb_wr hM (hP _ hp))
  refine a_i2l (pc := 7) ok dL_bestMove_7 (by exact hz) ?_
  refine a_last (pc := 8) ok dL_bestMove_8 (wr_out (hP _ hp)) (by decide) (by omega) ?_
  refine AW.cast (M2 := wr 18 25 M' (up fo 0 z)) ?_ rfl rfl (wr_set (hP _ hp))
  refine a_goto (pc := 9) (tgt := 15) ok dL_bestMove_9 (by decide) ?_
  refine a_iconst (pc := 15) ok dL_bestMove_15 ?_
  refine AW.widen (kc2 := 1) (ks2 := 6) (Nat.zero_le _) (Nat.zero_le _) ?_
  exact a_iret (pc := 16) ok dL_bestMove_16 (⟨rfl, M', hp, rfl⟩)
theorem wx_bestMove (hl : l.stackTraces = false) {a1 : Int} (hM : M.length = 18) (hob : M[0]? = some (.inr (6, fs))) (ct : CtX l yX6_bestMove cX6_bestMove 9 (some .int) rxbestMove [.ref 0, iv a1] M nIO P) (hP : ∀ M9, P M9 → M9.length = 18) :
    CtW l yL_bestMove cL_bestMove 4 (some .int) hhL_bestMove rwL_bestMove [.ref 0, iv a1, .ref 18] (wr 18 25 M fo) (fun v M8 => v = some (iv 1) ∧ ∃ M9, P M9 ∧ M8 = wr 18 25 M9 fo) := by
  refine CtW.of hl miL_bestMove (Nat.le_of_ble_eq_true rfl) ?_
  intro X hXl hN ok ex tb
  subst hXl
  refine AW.cast (L2 := [some (.ref 0), some (iv a1), some (.ref 18), none]) ?_ rfl rfl rfl
  refine a_aload_n (pc := 0) ok dL_bestMove_0 rfl ?_
  refine a_iconst (pc := 1) ok dL_bestMove_1 ?_
  refine a_aload_n (pc := 2) ok dL_bestMove_2 rfl ?_
  refine a_iload_n (pc := 3) ok dL_bestMove_3 rfl ?_
  exact w_callV (pc := 4) (hh := hhL_bestMove) (k := 1) (name := nIO) (pre := []) (suf := []) (x := ⟨0, 9, 12, 28⟩) ok ex tb (πs 18 25) 18 dL_bestMove_4 mvL_91 miX6_bestMove ct ⟨by decide, by decide, rfl, rfl, by decide, by decide⟩ rfl rfl (Nat.le_of_ble_eq_true rfl) hM (fit_wr hM) (nd_wr _ _) hob rfl (fun M9 h9 => by rw [hP _ h9, hM]) rfl (fun z hz => nomatch hz) (by decide) (by decide) (ug3 194 (by decide +kernel) rfl) cast_nIO (Or.inl ⟨3, dL_bestMove_12, by rw [hN]; decide, dL_bestMove_13, dL_bestMove_14⟩) (fun M9 h9 => ⟨rfl, M9, h9, pb_wr hM (hP _ h9)⟩)
theorem dL_ifCell_0 : decode cL_ifCell 0 = .ok (.aload 5, 2) := by decide +kernel
theorem dL_ifCell_2 : decode cL_ifCell 2 = .ok (.iconst 0, 1) := by decide +kernel
theorem dL_ifCell_3 : decode cL_ifCell 3 = .ok (.aload_n 0, 1) := by decide +kernel
theorem dL_ifCell_4 : decode cL_ifCell 4 = .ok (.iload_n 1, 1) := by decide +kernel
theorem dL_ifCell_5 : decode cL_ifCell 5 = .ok (.iload_n 2, 1) := by decide +kernel
theorem dL_ifCell_6 : decode cL_ifCell 6 = .ok (.iload_n 3, 1) := by decide +kernel
theorem dL_ifCell_7 : decode cL_ifCell 7 = .ok (.iload 4, 2) := by decide +kernel
theorem dL_ifCell_9 : decode cL_ifCell 9 = .ok (.invokevirtual 94, 3) := by decide +kernel
theorem dL_ifCell_12 : decode cL_ifCell 12 = .ok (.i2l, 1) := by decide +kernel
theorem dL_ifCell_13 : decode cL_ifCell 13 = .ok (.lastore, 1) := by decide +kernel
theorem dL_ifCell_14 : decode cL_ifCell 14 = .ok (.goto 11, 3) := by decide +kernel
theorem dL_ifCell_17 : decode cL_ifCell 17 = .ok (.astore 6, 2) := by decide +kernel
theorem dL_ifCell_19 : decode cL_ifCell 19 = .ok (.iconst 1, 1) := by decide +kernel
theorem dL_ifCell_20 : decode cL_ifCell 20 = .ok (.ireturn, 1) := by decide +kernel
theorem dL_ifCell_21 : decode cL_ifCell 21 = .ok (.astore 6, 2) := by decide +kernel
theorem dL_ifCell_23 : decode cL_ifCell 23 = .ok (.iconst 2, 1) := by decide +kernel
theorem dL_ifCell_24 : decode cL_ifCell 24 = .ok (.ireturn, 1) := by decide +kernel
theorem dL_ifCell_25 : decode cL_ifCell 25 = .ok (.iconst 0, 1) := by decide +kernel
theorem dL_ifCell_26 : decode cL_ifCell 26 = .ok (.ireturn, 1) := by decide +kernel
theorem w_ifCell (hl : l.stackTraces = false) {a1 a2 a3 a4 : Int} {z : Int} (hM : M.length = 33) (hob : M[0]? = some (.inr (6, fs))) (ct : Ct l yX6_ifCell cX6_ifCell 5 (some .int) rmX6_ifCell [.ref 0, iv a1, iv a2, iv a3, iv a4] M (fun v M9 => v = some (iv z) ∧ P M9)) (hP : ∀ M9, P M9 → M9.length = 33) (hz : rg z) :
    CtW l yL_ifCell cL_ifCell 7 (some .int) hhL_ifCell rwL_ifCell [.ref 0, iv a1, iv a2, iv a3, iv a4, .ref 33] (wr 33 46 M fo) (fun v M8 => v = some (iv 0) ∧ ∃ M9, P M9 ∧ M8 = wr 33 46 M9 (up fo 0 z)) := by
  refine CtW.of hl miL_ifCell (Nat.le_of_ble_eq_true rfl) ?_
  intro X hXl hN ok ex tb
  subst hXl
  refine AW.cast (L2 := [some (.ref 0), some (iv a1), some (iv a2), some (iv a3), some (iv a4), some (.ref 33), none]) ?_ rfl rfl rfl
  refine a_aload (pc := 0) ok dL_ifCell_0 rfl ?_
  refine a_iconst (pc := 2) ok dL_ifCell_2 ?_
  refine a_aload_n (pc := 3) ok dL_ifCell_3 rfl ?_
  refine a_iload_n (pc := 4) ok dL_ifCell_4 rfl ?_
  refine a_iload_n (pc := 5) ok dL_ifCell_5 rfl ?_
  refine a_iload_n (pc := 6) ok dL_ifCell_6 rfl ?_
  refine a_iload (pc := 7) ok dL_ifCell_7 rfl ?_
  refine x_callV (pc := 9) ok (πs 33 46) 33 dL_ifCell_9 mvL_94 miX6_ifCell (ct) ⟨by decide, by decide, rfl, rfl, Nat.zero_le _, Nat.zero_le _⟩ rfl rfl (Nat.le_of_ble_eq_true rfl) hM (fit_wr hM) (nd_wr _ _) hob rfl (fun v M9 h9 => by rw [hP _ h9.2, hM]) ?_
  rintro _ M' ⟨rfl, hp⟩
  refine AW.cast (st2 := [iv z, iv 0, .ref 33]) (M2 := wr 33 46 M' fo) ?_ rfl rfl (pb_wr hM (hP _ hp))
  refine a_i2l (pc := 12) ok dL_ifCell_12 (by exact hz) ?_
  refine a_last (pc := 13) ok dL_ifCell_13 (wr_out (hP _ hp)) (by decide) (by omega) ?_
  refine AW.cast (M2 := wr 33 46 M' (up fo 0 z)) ?_ rfl rfl (wr_set (hP _ hp))
  refine a_goto (pc := 14) (tgt := 25) ok dL_ifCell_14 (by decide) ?_
  refine a_iconst (pc := 25) ok dL_ifCell_25 ?_
  refine AW.widen (kc2 := 1) (ks2 := 6) (Nat.zero_le _) (Nat.zero_le _) ?_
  exact a_iret (pc := 26) ok dL_ifCell_26 (⟨rfl, M', hp, rfl⟩)
theorem wx_ifCell1 (hl : l.stackTraces = false) {a1 a2 a3 a4 : Int} (hM : M.length = 33) (hob : M[0]? = some (.inr (6, fs))) (ct : CtX l yX6_ifCell cX6_ifCell 5 (some .int) rxifCell [.ref 0, iv a1, iv a2, iv a3, iv a4] M nIO P) (hP : ∀ M9, P M9 → M9.length = 33) :
    CtW l yL_ifCell cL_ifCell 7 (some .int) hhL_ifCell rwL_ifCell [.ref 0, iv a1, iv a2, iv a3, iv a4, .ref 33] (wr 33 46 M fo) (fun v M8 => v = some (iv 1) ∧ ∃ M9, P M9 ∧ M8 = wr 33 46 M9 fo) := by
  refine CtW.of hl miL_ifCell (Nat.le_of_ble_eq_true rfl) ?_
  intro X hXl hN ok ex tb
  subst hXl
  refine AW.cast (L2 := [some (.ref 0), some (iv a1), some (iv a2), some (iv a3), some (iv a4), some (.ref 33), none]) ?_ rfl rfl rfl
  refine a_aload (pc := 0) ok dL_ifCell_0 rfl ?_
  refine a_iconst (pc := 2) ok dL_ifCell_2 ?_
  refine a_aload_n (pc := 3) ok dL_ifCell_3 rfl ?_
  refine a_iload_n (pc := 4) ok dL_ifCell_4 rfl ?_
  refine a_iload_n (pc := 5) ok dL_ifCell_5 rfl ?_
  refine a_iload_n (pc := 6) ok dL_ifCell_6 rfl ?_
  refine a_iload (pc := 7) ok dL_ifCell_7 rfl ?_
  exact w_callV (pc := 9) (hh := hhL_ifCell) (k := 1) (name := nIO) (pre := []) (suf := [⟨0, 14, 21, 13⟩]) (x := ⟨0, 14, 17, 28⟩) ok ex tb (πs 33 46) 33 dL_ifCell_9 mvL_94 miX6_ifCell ct ⟨by decide, by decide, rfl, rfl, by decide, by decide⟩ rfl rfl (Nat.le_of_ble_eq_true rfl) hM (fit_wr hM) (nd_wr _ _) hob rfl (fun M9 h9 => by rw [hP _ h9, hM]) rfl (fun z hz => nomatch hz) (by decide) (by decide) (ug3 194 (by decide +kernel) rfl) cast_nIO (Or.inr ⟨6, dL_ifCell_17, by rw [hN]; decide, dL_ifCell_19, dL_ifCell_20⟩) (fun M9 h9 => ⟨rfl, M9, h9, pb_wr hM (hP _ h9)⟩)
theorem wx_ifCell2 (hl : l.stackTraces = false) {a1 a2 a3 a4 : Int} (hM : M.length = 33) (hob : M[0]? = some (.inr (6, fs))) (ct : CtX l yX6_ifCell cX6_ifCell 5 (some .int) rxifCell [.ref 0, iv a1, iv a2, iv a3, iv a4] M nIA P) (hP : ∀ M9, P M9 → M9.length = 33) :
    CtW l yL_ifCell cL_ifCell 7 (some .int) hhL_ifCell rwL_ifCell [.ref 0, iv a1, iv a2, iv a3, iv a4, .ref 33] (wr 33 46 M fo) (fun v M8 => v = some (iv 2) ∧ ∃ M9, P M9 ∧ M8 = wr 33 46 M9 fo) := by
  refine CtW.of hl miL_ifCell (Nat.le_of_ble_eq_true rfl) ?_
  intro X hXl hN ok ex tb
  subst hXl
  refine AW.cast (L2 := [some (.ref 0), some (iv a1), some (iv a2), some (iv a3), some (iv a4), some (.ref 33), none]) ?_ rfl rfl rfl
  refine a_aload (pc := 0) ok dL_ifCell_0 rfl ?_
  refine a_iconst (pc := 2) ok dL_ifCell_2 ?_
  refine a_aload_n (pc := 3) ok dL_ifCell_3 rfl ?_
  refine a_iload_n (pc := 4) ok dL_ifCell_4 rfl ?_
  refine a_iload_n (pc := 5) ok dL_ifCell_5 rfl ?_
  refine a_iload_n (pc := 6) ok dL_ifCell_6 rfl ?_
  refine a_iload (pc := 7) ok dL_ifCell_7 rfl ?_
  exact w_callV (pc := 9) (hh := hhL_ifCell) (k := 2) (name := nIA) (pre := [⟨0, 14, 17, 28⟩]) (suf := []) (x := ⟨0, 14, 21, 13⟩) ok ex tb (πs 33 46) 33 dL_ifCell_9 mvL_94 miX6_ifCell ct ⟨by decide, by decide, rfl, rfl, by decide, by decide⟩ rfl rfl (Nat.le_of_ble_eq_true rfl) hM (fit_wr hM) (nd_wr _ _) hob rfl (fun M9 h9 => by rw [hP _ h9, hM]) rfl (fun z hz => by cases List.mem_singleton.mp hz; exact ⟨by decide, nIO, ug3 194 (by decide +kernel) rfl, by decide +kernel⟩) (by decide) (by decide) (ug2 191 (by decide +kernel) rfl) cast_nIA (Or.inr ⟨6, dL_ifCell_21, by rw [hN]; decide, dL_ifCell_23, dL_ifCell_24⟩) (fun M9 h9 => ⟨rfl, M9, h9, pb_wr hM (hP _ h9)⟩)
theorem dL_runScript_0 : decode cL_runScript 0 = .ok (.aload 4, 2) := by decide +kernel
theorem dL_runScript_2 : decode cL_runScript 2 = .ok (.iconst 0, 1) := by decide +kernel
theorem dL_runScript_3 : decode cL_runScript 3 = .ok (.aload_n 0, 1) := by decide +kernel
theorem dL_runScript_4 : decode cL_runScript 4 = .ok (.iload_n 1, 1) := by decide +kernel
theorem dL_runScript_5 : decode cL_runScript 5 = .ok (.lload_n 2, 1) := by decide +kernel
theorem dL_runScript_6 : decode cL_runScript 6 = .ok (.invokevirtual 98, 3) := by decide +kernel
theorem dL_runScript_9 : decode cL_runScript 9 = .ok (.i2l, 1) := by decide +kernel
theorem dL_runScript_10 : decode cL_runScript 10 = .ok (.lastore, 1) := by decide +kernel
theorem dL_runScript_11 : decode cL_runScript 11 = .ok (.goto 7, 3) := by decide +kernel
theorem dL_runScript_14 : decode cL_runScript 14 = .ok (.astore 5, 2) := by decide +kernel
theorem dL_runScript_16 : decode cL_runScript 16 = .ok (.iconst 1, 1) := by decide +kernel
theorem dL_runScript_17 : decode cL_runScript 17 = .ok (.ireturn, 1) := by decide +kernel
theorem dL_runScript_18 : decode cL_runScript 18 = .ok (.iconst 0, 1) := by decide +kernel
theorem dL_runScript_19 : decode cL_runScript 19 = .ok (.ireturn, 1) := by decide +kernel
theorem w_runScript (hl : l.stackTraces = false) {a1 a2 : Int} {z : Int} (hM : M.length = 18) (hob : M[0]? = some (.inr (6, fs))) (ct : Ct l yX6_runScript cX6_runScript 9 (some .int) rmX6_runScript [.ref 0, iv a1, jv a2] M (fun v M9 => v = some (iv z) ∧ P M9)) (hP : ∀ M9, P M9 → M9.length = 18) (hz : rg z) :
    CtW l yL_runScript cL_runScript 6 (some .int) hhL_runScript rwL_runScript [.ref 0, iv a1, jv a2, .ref 18] (wr 18 25 M fo) (fun v M8 => v = some (iv 0) ∧ ∃ M9, P M9 ∧ M8 = wr 18 25 M9 (up fo 0 z)) := by
  refine CtW.of hl miL_runScript (Nat.le_of_ble_eq_true rfl) ?_
  intro X hXl hN ok ex tb
  subst hXl
  refine AW.cast (L2 := [some (.ref 0), some (iv a1), some (jv a2), none, some (.ref 18), none]) ?_ rfl rfl rfl
  refine a_aload (pc := 0) ok dL_runScript_0 rfl ?_
  refine a_iconst (pc := 2) ok dL_runScript_2 ?_
  refine a_aload_n (pc := 3) ok dL_runScript_3 rfl ?_
  refine a_iload_n (pc := 4) ok dL_runScript_4 rfl ?_
  refine a_lload_n (pc := 5) ok dL_runScript_5 rfl ?_
  refine x_callV (pc := 6) ok (πs 18 25) 18 dL_runScript_6 mvL_98 miX6_runScript (ct) ⟨by decide, by decide, rfl, rfl, Nat.zero_le _, Nat.zero_le _⟩ rfl rfl (Nat.le_of_ble_eq_true rfl) hM (fit_wr hM) (nd_wr _ _) hob rfl (fun v M9 h9 => by rw [hP _ h9.2, hM]) ?_
  rintro _ M' ⟨rfl, hp⟩
  refine AW.cast (st2 := [iv z, iv 0, .ref 18]) (M2 := wr 18 25 M' fo) ?_ rfl rfl (pb_wr hM (hP _ hp))
  refine a_i2l (pc := 9) ok dL_runScript_9 (by exact hz) ?_
  refine a_last (pc := 10) ok dL_runScript_10 (wr_out (hP _ hp)) (by decide) (by omega) ?_
  refine AW.cast (M2 := wr 18 25 M' (up fo 0 z)) ?_ rfl rfl (wr_set (hP _ hp))
  refine a_goto (pc := 11) (tgt := 18) ok dL_runScript_11 (by decide) ?_
  refine a_iconst (pc := 18) ok dL_runScript_18 ?_
  refine AW.widen (kc2 := 1) (ks2 := 6) (Nat.zero_le _) (Nat.zero_le _) ?_
  exact a_iret (pc := 19) ok dL_runScript_19 (⟨rfl, M', hp, rfl⟩)
theorem wx_runScript (hl : l.stackTraces = false) {a1 a2 : Int} (hM : M.length = 18) (hob : M[0]? = some (.inr (6, fs))) (ct : CtX l yX6_runScript cX6_runScript 9 (some .int) rxrunScript [.ref 0, iv a1, jv a2] M nIA P) (hP : ∀ M9, P M9 → M9.length = 18) :
    CtW l yL_runScript cL_runScript 6 (some .int) hhL_runScript rwL_runScript [.ref 0, iv a1, jv a2, .ref 18] (wr 18 25 M fo) (fun v M8 => v = some (iv 1) ∧ ∃ M9, P M9 ∧ M8 = wr 18 25 M9 fo) := by
  refine CtW.of hl miL_runScript (Nat.le_of_ble_eq_true rfl) ?_
  intro X hXl hN ok ex tb
  subst hXl
  refine AW.cast (L2 := [some (.ref 0), some (iv a1), some (jv a2), none, some (.ref 18), none]) ?_ rfl rfl rfl
  refine a_aload (pc := 0) ok dL_runScript_0 rfl ?_
  refine a_iconst (pc := 2) ok dL_runScript_2 ?_
  refine a_aload_n (pc := 3) ok dL_runScript_3 rfl ?_
  refine a_iload_n (pc := 4) ok dL_runScript_4 rfl ?_
  refine a_lload_n (pc := 5) ok dL_runScript_5 rfl ?_
  exact w_callV (pc := 6) (hh := hhL_runScript) (k := 1) (name := nIA) (pre := []) (suf := []) (x := ⟨0, 11, 14, 13⟩) ok ex tb (πs 18 25) 18 dL_runScript_6 mvL_98 miX6_runScript ct ⟨by decide, by decide, rfl, rfl, by decide, by decide⟩ rfl rfl (Nat.le_of_ble_eq_true rfl) hM (fit_wr hM) (nd_wr _ _) hob rfl (fun M9 h9 => by rw [hP _ h9, hM]) rfl (fun z hz => nomatch hz) (by decide) (by decide) (ug2 191 (by decide +kernel) rfl) cast_nIA (Or.inr ⟨5, dL_runScript_14, by rw [hN]; decide, dL_runScript_16, dL_runScript_17⟩) (fun M9 h9 => ⟨rfl, M9, h9, pb_wr hM (hP _ h9)⟩)
theorem dL_simulate_0 : decode cL_simulate 0 = .ok (.aload 4, 2) := by decide +kernel
theorem dL_simulate_2 : decode cL_simulate 2 = .ok (.iconst 0, 1) := by decide +kernel
theorem dL_simulate_3 : decode cL_simulate 3 = .ok (.aload_n 0, 1) := by decide +kernel
theorem dL_simulate_4 : decode cL_simulate 4 = .ok (.lload_n 1, 1) := by decide +kernel
theorem dL_simulate_5 : decode cL_simulate 5 = .ok (.iload_n 3, 1) := by decide +kernel
theorem dL_simulate_6 : decode cL_simulate 6 = .ok (.invokevirtual 102, 3) := by decide +kernel
theorem dL_simulate_9 : decode cL_simulate 9 = .ok (.i2l, 1) := by decide +kernel
theorem dL_simulate_10 : decode cL_simulate 10 = .ok (.lastore, 1) := by decide +kernel
theorem dL_simulate_11 : decode cL_simulate 11 = .ok (.goto 7, 3) := by decide +kernel
theorem dL_simulate_14 : decode cL_simulate 14 = .ok (.astore 5, 2) := by decide +kernel
theorem dL_simulate_16 : decode cL_simulate 16 = .ok (.iconst 1, 1) := by decide +kernel
theorem dL_simulate_17 : decode cL_simulate 17 = .ok (.ireturn, 1) := by decide +kernel
theorem dL_simulate_18 : decode cL_simulate 18 = .ok (.iconst 0, 1) := by decide +kernel
theorem dL_simulate_19 : decode cL_simulate 19 = .ok (.ireturn, 1) := by decide +kernel
theorem w_simulate (hl : l.stackTraces = false) {a1 a2 : Int} {z : Int} (hM : M.length = 18) (hob : M[0]? = some (.inr (6, fs))) (ct : Ct l yX6_simulate cX6_simulate 7 (some .int) rmX6_simulate [.ref 0, jv a1, iv a2] M (fun v M9 => v = some (iv z) ∧ P M9)) (hP : ∀ M9, P M9 → M9.length = 18) (hz : rg z) :
    CtW l yL_simulate cL_simulate 6 (some .int) hhL_simulate rwL_simulate [.ref 0, jv a1, iv a2, .ref 18] (wr 18 25 M fo) (fun v M8 => v = some (iv 0) ∧ ∃ M9, P M9 ∧ M8 = wr 18 25 M9 (up fo 0 z)) := by
  refine CtW.of hl miL_simulate (Nat.le_of_ble_eq_true rfl) ?_
  intro X hXl hN ok ex tb
  subst hXl
  refine AW.cast (L2 := [some (.ref 0), some (jv a1), none, some (iv a2), some (.ref 18), none]) ?_ rfl rfl rfl
  refine a_aload (pc := 0) ok dL_simulate_0 rfl ?_
  refine a_iconst (pc := 2) ok dL_simulate_2 ?_
  refine a_aload_n (pc := 3) ok dL_simulate_3 rfl ?_
  refine a_lload_n (pc := 4) ok dL_simulate_4 rfl ?_
  refine a_iload_n (pc := 5) ok dL_simulate_5 rfl ?_
  refine x_callV (pc := 6) ok (πs 18 25) 18 dL_simulate_6 mvL_102 miX6_simulate (ct) ⟨by decide, by decide, rfl, rfl, Nat.zero_le _, Nat.zero_le _⟩ rfl rfl (Nat.le_of_ble_eq_true rfl) hM (fit_wr hM) (nd_wr _ _) hob rfl (fun v M9 h9 => by rw [hP _ h9.2, hM]) ?_
  rintro _ M' ⟨rfl, hp⟩
  refine AW.cast (st2 := [iv z, iv 0, .ref 18]) (M2 := wr 18 25 M' fo) ?_ rfl rfl (pb_wr hM (hP _ hp))
  refine a_i2l (pc := 9) ok dL_simulate_9 (by exact hz) ?_
  refine a_last (pc := 10) ok dL_simulate_10 (wr_out (hP _ hp)) (by decide) (by omega) ?_
  refine AW.cast (M2 := wr 18 25 M' (up fo 0 z)) ?_ rfl rfl (wr_set (hP _ hp))
  refine a_goto (pc := 11) (tgt := 18) ok dL_simulate_11 (by decide) ?_
  refine a_iconst (pc := 18) ok dL_simulate_18 ?_
  refine AW.widen (kc2 := 1) (ks2 := 6) (Nat.zero_le _) (Nat.zero_le _) ?_
  exact a_iret (pc := 19) ok dL_simulate_19 (⟨rfl, M', hp, rfl⟩)
theorem wx_simulate (hl : l.stackTraces = false) {a1 a2 : Int} (hM : M.length = 18) (hob : M[0]? = some (.inr (6, fs))) (ct : CtX l yX6_simulate cX6_simulate 7 (some .int) rxsimulate [.ref 0, jv a1, iv a2] M nIA P) (hP : ∀ M9, P M9 → M9.length = 18) :
    CtW l yL_simulate cL_simulate 6 (some .int) hhL_simulate rwL_simulate [.ref 0, jv a1, iv a2, .ref 18] (wr 18 25 M fo) (fun v M8 => v = some (iv 1) ∧ ∃ M9, P M9 ∧ M8 = wr 18 25 M9 fo) := by
  refine CtW.of hl miL_simulate (Nat.le_of_ble_eq_true rfl) ?_
  intro X hXl hN ok ex tb
  subst hXl
  refine AW.cast (L2 := [some (.ref 0), some (jv a1), none, some (iv a2), some (.ref 18), none]) ?_ rfl rfl rfl
  refine a_aload (pc := 0) ok dL_simulate_0 rfl ?_
  refine a_iconst (pc := 2) ok dL_simulate_2 ?_
  refine a_aload_n (pc := 3) ok dL_simulate_3 rfl ?_
  refine a_lload_n (pc := 4) ok dL_simulate_4 rfl ?_
  refine a_iload_n (pc := 5) ok dL_simulate_5 rfl ?_
  exact w_callV (pc := 6) (hh := hhL_simulate) (k := 1) (name := nIA) (pre := []) (suf := []) (x := ⟨0, 11, 14, 13⟩) ok ex tb (πs 18 25) 18 dL_simulate_6 mvL_102 miX6_simulate ct ⟨by decide, by decide, rfl, rfl, by decide, by decide⟩ rfl rfl (Nat.le_of_ble_eq_true rfl) hM (fit_wr hM) (nd_wr _ _) hob rfl (fun M9 h9 => by rw [hP _ h9, hM]) rfl (fun z hz => nomatch hz) (by decide) (by decide) (ug2 191 (by decide +kernel) rfl) cast_nIA (Or.inr ⟨5, dL_simulate_14, by rw [hN]; decide, dL_simulate_16, dL_simulate_17⟩) (fun M9 h9 => ⟨rfl, M9, h9, pb_wr hM (hP _ h9)⟩)
theorem dL_save_0 : decode cL_save 0 = .ok (.aload_n 2, 1) := by decide +kernel
theorem dL_save_1 : decode cL_save 1 = .ok (.iconst 0, 1) := by decide +kernel
theorem dL_save_2 : decode cL_save 2 = .ok (.aload_n 0, 1) := by decide +kernel
theorem dL_save_3 : decode cL_save 3 = .ok (.iload_n 1, 1) := by decide +kernel
theorem dL_save_4 : decode cL_save 4 = .ok (.invokevirtual 105, 3) := by decide +kernel
theorem dL_save_7 : decode cL_save 7 = .ok (.i2l, 1) := by decide +kernel
theorem dL_save_8 : decode cL_save 8 = .ok (.lastore, 1) := by decide +kernel
theorem dL_save_9 : decode cL_save 9 = .ok (.goto 6, 3) := by decide +kernel
theorem dL_save_12 : decode cL_save 12 = .ok (.astore_n 3, 1) := by decide +kernel
theorem dL_save_13 : decode cL_save 13 = .ok (.iconst 1, 1) := by decide +kernel
theorem dL_save_14 : decode cL_save 14 = .ok (.ireturn, 1) := by decide +kernel
theorem dL_save_15 : decode cL_save 15 = .ok (.iconst 0, 1) := by decide +kernel
theorem dL_save_16 : decode cL_save 16 = .ok (.ireturn, 1) := by decide +kernel
theorem w_save (hl : l.stackTraces = false) {a1 : Int} {z : Int} (hM : M.length = 16) (hob : M[0]? = some (.inr (6, fs))) (ct : Ct l yX6_save cX6_save 2 (some .int) rmX6_save [.ref 0, iv a1] M (fun v M9 => v = some (iv z) ∧ P M9)) (hP : ∀ M9, P M9 → M9.length = 16) (hz : rg z) :
    CtW l yL_save cL_save 4 (some .int) hhL_save rwL_save [.ref 0, iv a1, .ref 16] (wr 16 24 M fo) (fun v M8 => v = some (iv 0) ∧ ∃ M9, P M9 ∧ M8 = wr 16 24 M9 (up fo 0 z)) := by
  refine CtW.of hl miL_save (Nat.le_of_ble_eq_true rfl) ?_
  intro X hXl hN ok ex tb
  subst hXl
  refine AW.cast (L2 := [some (.ref 0), some (iv a1), some (.ref 16), none]) ?_ rfl rfl rfl
  refine a_aload_n (pc := 0) ok dL_save_0 rfl ?_
  refine a_iconst (pc := 1) ok dL_save_1 ?_
  refine a_aload_n (pc := 2) ok dL_save_2 rfl ?_
  refine a_iload_n (pc := 3) ok dL_save_3 rfl ?_
  refine x_callV (pc := 4) ok (πs 16 24) 16 dL_save_4 mvL_105 miX6_save (ct) ⟨by decide, by decide, rfl, rfl, Nat.zero_le _, Nat.zero_le _⟩ rfl rfl (Nat.le_of_ble_eq_true rfl) hM (fit_wr hM) (nd_wr _ _) hob rfl (fun v M9 h9 => by rw [hP _ h9.2, hM]) ?_
  rintro _ M' ⟨rfl, hp⟩
  refine AW.cast (st2 := [iv z, iv 0, .ref 16]) (M2 := wr 16 24 M' fo) ?_ rfl rfl (pb_wr hM (hP _ hp))
  refine a_i2l (pc := 7) ok dL_save_7 (by exact hz) ?_
  refine a_last (pc := 8) ok dL_save_8 (wr_out (hP _ hp)) (by decide) (by omega) ?_
  refine AW.cast (M2 := wr 16 24 M' (up fo 0 z)) ?_ rfl rfl (wr_set (hP _ hp))
  refine a_goto (pc := 9) (tgt := 15) ok dL_save_9 (by decide) ?_
  refine a_iconst (pc := 15) ok dL_save_15 ?_
  refine AW.widen (kc2 := 1) (ks2 := 6) (Nat.zero_le _) (Nat.zero_le _) ?_
  exact a_iret (pc := 16) ok dL_save_16 (⟨rfl, M', hp, rfl⟩)
theorem wx_save (hl : l.stackTraces = false) {a1 : Int} (hM : M.length = 16) (hob : M[0]? = some (.inr (6, fs))) (ct : CtX l yX6_save cX6_save 2 (some .int) rxsave [.ref 0, iv a1] M nIO P) (hP : ∀ M9, P M9 → M9.length = 16) :
    CtW l yL_save cL_save 4 (some .int) hhL_save rwL_save [.ref 0, iv a1, .ref 16] (wr 16 24 M fo) (fun v M8 => v = some (iv 1) ∧ ∃ M9, P M9 ∧ M8 = wr 16 24 M9 fo) := by
  refine CtW.of hl miL_save (Nat.le_of_ble_eq_true rfl) ?_
  intro X hXl hN ok ex tb
  subst hXl
  refine AW.cast (L2 := [some (.ref 0), some (iv a1), some (.ref 16), none]) ?_ rfl rfl rfl
  refine a_aload_n (pc := 0) ok dL_save_0 rfl ?_
  refine a_iconst (pc := 1) ok dL_save_1 ?_
  refine a_aload_n (pc := 2) ok dL_save_2 rfl ?_
  refine a_iload_n (pc := 3) ok dL_save_3 rfl ?_
  exact w_callV (pc := 4) (hh := hhL_save) (k := 1) (name := nIO) (pre := []) (suf := []) (x := ⟨0, 9, 12, 28⟩) ok ex tb (πs 16 24) 16 dL_save_4 mvL_105 miX6_save ct ⟨by decide, by decide, rfl, rfl, by decide, by decide⟩ rfl rfl (Nat.le_of_ble_eq_true rfl) hM (fit_wr hM) (nd_wr _ _) hob rfl (fun M9 h9 => by rw [hP _ h9, hM]) rfl (fun z hz => nomatch hz) (by decide) (by decide) (ug3 194 (by decide +kernel) rfl) cast_nIO (Or.inl ⟨3, dL_save_12, by rw [hN]; decide, dL_save_13, dL_save_14⟩) (fun M9 h9 => ⟨rfl, M9, h9, pb_wr hM (hP _ h9)⟩)
theorem dL_restore_0 : decode cL_restore 0 = .ok (.aload_n 2, 1) := by decide +kernel
theorem dL_restore_1 : decode cL_restore 1 = .ok (.iconst 0, 1) := by decide +kernel
theorem dL_restore_2 : decode cL_restore 2 = .ok (.aload_n 0, 1) := by decide +kernel
theorem dL_restore_3 : decode cL_restore 3 = .ok (.iload_n 1, 1) := by decide +kernel
theorem dL_restore_4 : decode cL_restore 4 = .ok (.invokevirtual 108, 3) := by decide +kernel
theorem dL_restore_7 : decode cL_restore 7 = .ok (.i2l, 1) := by decide +kernel
theorem dL_restore_8 : decode cL_restore 8 = .ok (.lastore, 1) := by decide +kernel
theorem dL_restore_9 : decode cL_restore 9 = .ok (.goto 9, 3) := by decide +kernel
theorem dL_restore_12 : decode cL_restore 12 = .ok (.astore_n 3, 1) := by decide +kernel
theorem dL_restore_13 : decode cL_restore 13 = .ok (.iconst 1, 1) := by decide +kernel
theorem dL_restore_14 : decode cL_restore 14 = .ok (.ireturn, 1) := by decide +kernel
theorem dL_restore_15 : decode cL_restore 15 = .ok (.astore_n 3, 1) := by decide +kernel
theorem dL_restore_16 : decode cL_restore 16 = .ok (.iconst 2, 1) := by decide +kernel
theorem dL_restore_17 : decode cL_restore 17 = .ok (.ireturn, 1) := by decide +kernel
theorem dL_restore_18 : decode cL_restore 18 = .ok (.iconst 0, 1) := by decide +kernel
theorem dL_restore_19 : decode cL_restore 19 = .ok (.ireturn, 1) := by decide +kernel
theorem w_restore (hl : l.stackTraces = false) {a1 : Int} {z : Int} (hM : M.length = 16) (hob : M[0]? = some (.inr (6, fs))) (ct : Ct l yX6_restore cX6_restore 2 (some .int) rmX6_restore [.ref 0, iv a1] M (fun v M9 => v = some (iv z) ∧ P M9)) (hP : ∀ M9, P M9 → M9.length = 16) (hz : rg z) :
    CtW l yL_restore cL_restore 4 (some .int) hhL_restore rwL_restore [.ref 0, iv a1, .ref 16] (wr 16 24 M fo) (fun v M8 => v = some (iv 0) ∧ ∃ M9, P M9 ∧ M8 = wr 16 24 M9 (up fo 0 z)) := by
  refine CtW.of hl miL_restore (Nat.le_of_ble_eq_true rfl) ?_
  intro X hXl hN ok ex tb
  subst hXl
  refine AW.cast (L2 := [some (.ref 0), some (iv a1), some (.ref 16), none]) ?_ rfl rfl rfl
  refine a_aload_n (pc := 0) ok dL_restore_0 rfl ?_
  refine a_iconst (pc := 1) ok dL_restore_1 ?_
  refine a_aload_n (pc := 2) ok dL_restore_2 rfl ?_
  refine a_iload_n (pc := 3) ok dL_restore_3 rfl ?_
  refine x_callV (pc := 4) ok (πs 16 24) 16 dL_restore_4 mvL_108 miX6_restore (ct) ⟨by decide, by decide, rfl, rfl, Nat.zero_le _, Nat.zero_le _⟩ rfl rfl (Nat.le_of_ble_eq_true rfl) hM (fit_wr hM) (nd_wr _ _) hob rfl (fun v M9 h9 => by rw [hP _ h9.2, hM]) ?_
  rintro _ M' ⟨rfl, hp⟩
  refine AW.cast (st2 := [iv z, iv 0, .ref 16]) (M2 := wr 16 24 M' fo) ?_ rfl rfl (pb_wr hM (hP _ hp))
  refine a_i2l (pc := 7) ok dL_restore_7 (by exact hz) ?_
  refine a_last (pc := 8) ok dL_restore_8 (wr_out (hP _ hp)) (by decide) (by omega) ?_
  refine AW.cast (M2 := wr 16 24 M' (up fo 0 z)) ?_ rfl rfl (wr_set (hP _ hp))
  refine a_goto (pc := 9) (tgt := 18) ok dL_restore_9 (by decide) ?_
  refine a_iconst (pc := 18) ok dL_restore_18 ?_
  refine AW.widen (kc2 := 1) (ks2 := 6) (Nat.zero_le _) (Nat.zero_le _) ?_
  exact a_iret (pc := 19) ok dL_restore_19 (⟨rfl, M', hp, rfl⟩)
theorem wx_restore1 (hl : l.stackTraces = false) {a1 : Int} (hM : M.length = 16) (hob : M[0]? = some (.inr (6, fs))) (ct : CtX l yX6_restore cX6_restore 2 (some .int) rxrestore [.ref 0, iv a1] M nIO P) (hP : ∀ M9, P M9 → M9.length = 16) :
    CtW l yL_restore cL_restore 4 (some .int) hhL_restore rwL_restore [.ref 0, iv a1, .ref 16] (wr 16 24 M fo) (fun v M8 => v = some (iv 1) ∧ ∃ M9, P M9 ∧ M8 = wr 16 24 M9 fo) := by
  refine CtW.of hl miL_restore (Nat.le_of_ble_eq_true rfl) ?_
  intro X hXl hN ok ex tb
  subst hXl
  refine AW.cast (L2 := [some (.ref 0), some (iv a1), some (.ref 16), none]) ?_ rfl rfl rfl
  refine a_aload_n (pc := 0) ok dL_restore_0 rfl ?_
  refine a_iconst (pc := 1) ok dL_restore_1 ?_
  refine a_aload_n (pc := 2) ok dL_restore_2 rfl ?_
  refine a_iload_n (pc := 3) ok dL_restore_3 rfl ?_
  exact w_callV (pc := 4) (hh := hhL_restore) (k := 1) (name := nIO) (pre := []) (suf := [⟨0, 9, 15, 15⟩]) (x := ⟨0, 9, 12, 28⟩) ok ex tb (πs 16 24) 16 dL_restore_4 mvL_108 miX6_restore ct ⟨by decide, by decide, rfl, rfl, by decide, by decide⟩ rfl rfl (Nat.le_of_ble_eq_true rfl) hM (fit_wr hM) (nd_wr _ _) hob rfl (fun M9 h9 => by rw [hP _ h9, hM]) rfl (fun z hz => nomatch hz) (by decide) (by decide) (ug3 194 (by decide +kernel) rfl) cast_nIO (Or.inl ⟨3, dL_restore_12, by rw [hN]; decide, dL_restore_13, dL_restore_14⟩) (fun M9 h9 => ⟨rfl, M9, h9, pb_wr hM (hP _ h9)⟩)
theorem wx_restore2 (hl : l.stackTraces = false) {a1 : Int} (hM : M.length = 16) (hob : M[0]? = some (.inr (6, fs))) (ct : CtX l yX6_restore cX6_restore 2 (some .int) rxrestore [.ref 0, iv a1] M nIS P) (hP : ∀ M9, P M9 → M9.length = 16) :
    CtW l yL_restore cL_restore 4 (some .int) hhL_restore rwL_restore [.ref 0, iv a1, .ref 16] (wr 16 24 M fo) (fun v M8 => v = some (iv 2) ∧ ∃ M9, P M9 ∧ M8 = wr 16 24 M9 fo) := by
  refine CtW.of hl miL_restore (Nat.le_of_ble_eq_true rfl) ?_
  intro X hXl hN ok ex tb
  subst hXl
  refine AW.cast (L2 := [some (.ref 0), some (iv a1), some (.ref 16), none]) ?_ rfl rfl rfl
  refine a_aload_n (pc := 0) ok dL_restore_0 rfl ?_
  refine a_iconst (pc := 1) ok dL_restore_1 ?_
  refine a_aload_n (pc := 2) ok dL_restore_2 rfl ?_
  refine a_iload_n (pc := 3) ok dL_restore_3 rfl ?_
  exact w_callV (pc := 4) (hh := hhL_restore) (k := 2) (name := nIS) (pre := [⟨0, 9, 12, 28⟩]) (suf := []) (x := ⟨0, 9, 15, 15⟩) ok ex tb (πs 16 24) 16 dL_restore_4 mvL_108 miX6_restore ct ⟨by decide, by decide, rfl, rfl, by decide, by decide⟩ rfl rfl (Nat.le_of_ble_eq_true rfl) hM (fit_wr hM) (nd_wr _ _) hob rfl (fun M9 h9 => by rw [hP _ h9, hM]) rfl (fun z hz => by cases List.mem_singleton.mp hz; exact ⟨by decide, nIO, ug3 194 (by decide +kernel) rfl, by decide +kernel⟩) (by decide) (by decide) (ug2 192 (by decide +kernel) rfl) cast_nIS (Or.inl ⟨3, dL_restore_15, by rw [hN]; decide, dL_restore_16, dL_restore_17⟩) (fun M9 h9 => ⟨rfl, M9, h9, pb_wr hM (hP _ h9)⟩)
end WW1
