/-! CONSTRUCTORS of small classes. Printed by wip/whole/gen/mk82.py. -/
abbrev zz : Int → Int := fun _ => 0
abbrev S00 : St := st0 zz 8 8
section CT2
variable {l : Launch}
theorem dX3_init_0 : decode cX3_init 0 = .ok (.aload_n 0, 1) := by decide +kernel
theorem dX3_init_1 : decode cX3_init 1 = .ok (.invokespecial 3, 3) := by decide +kernel
theorem dX3_init_4 : decode cX3_init 4 = .ok (.aload_n 0, 1) := by decide +kernel
theorem dX3_init_5 : decode cX3_init 5 = .ok (.iconst 0, 1) := by decide +kernel
theorem dX3_init_6 : decode cX3_init 6 = .ok (.putfield 9, 3) := by decide +kernel
theorem dX3_init_9 : decode cX3_init 9 = .ok (.aload_n 0, 1) := by decide +kernel
theorem dX3_init_10 : decode cX3_init 10 = .ok (.iconst 0, 1) := by decide +kernel
theorem dX3_init_11 : decode cX3_init 11 = .ok (.putfield 15, 3) := by decide +kernel
theorem dX3_init_14 : decode cX3_init 14 = .ok (.aload_n 0, 1) := by decide +kernel
theorem dX3_init_15 : decode cX3_init 15 = .ok (.iconst 0, 1) := by decide +kernel
theorem dX3_init_16 : decode cX3_init 16 = .ok (.putfield 18, 3) := by decide +kernel
theorem dX3_init_19 : decode cX3_init 19 = .ok (.aload_n 0, 1) := by decide +kernel
theorem dX3_init_20 : decode cX3_init 20 = .ok (.iconst (-1), 1) := by decide +kernel
theorem dX3_init_21 : decode cX3_init 21 = .ok (.putfield 21, 3) := by decide +kernel
theorem dX3_init_24 : decode cX3_init 24 = .ok (.return_, 1) := by decide +kernel
def rgX3_init : Room := { frames := 2, cells := 0, slots := 0, locals := 60 }
abbrev N3 : List va_E := [ob 3 [iv 0, iv 0, iv 0, iv (-1)]]
theorem kN3 : kcM 1 N3 := (by repeat' (first | exact True.intro | exact rfl | refine ⟨?_, ?_⟩))
theorem gX3 : CtG l yX3_init cX3_init 1 rgX3_init [.ref 0] [ob 3 bl3] N3 := by
  refine CtG.of miX3_init (Nat.le_of_ble_eq_true rfl) ?_
  intro X hXl hN hnm gk
  replace hnm : X.2.2.1.1.name = "<init>" := hnm
  have ok := gk.ok
  refine AW.cast (L2 := [some (.ref 0)]) ?_ rfl rfl rfl
  refine a_aload_n (pc := 0) ok dX3_init_0 rfl ?_
  refine a_objI (pc := 1) ok dX3_init_1 (ug1 190 (by decide +kernel) rfl) ⟨by decide, by decide⟩ (Nat.le_of_ble_eq_true rfl) ?_
  refine a_aload_n (pc := 4) ok dX3_init_4 rfl ?_
  refine a_iconst (pc := 5) ok dX3_init_5 ?_
  refine a_putf (pc := 6) ok dX3_init_6 fp3_9 rfl (by first | rfl | decide) (by first | rfl | decide) (Nat.le_of_ble_eq_true rfl) ?_
  refine a_aload_n (pc := 9) ok dX3_init_9 rfl ?_
  refine a_iconst (pc := 10) ok dX3_init_10 ?_
  refine a_putf (pc := 11) ok dX3_init_11 fp3_15 rfl (by first | rfl | decide) (by first | rfl | decide) (Nat.le_of_ble_eq_true rfl) ?_
  refine a_aload_n (pc := 14) ok dX3_init_14 rfl ?_
  refine a_iconst (pc := 15) ok dX3_init_15 ?_
  refine a_putf (pc := 16) ok dX3_init_16 fp3_18 rfl (by first | rfl | decide) (by first | rfl | decide) (Nat.le_of_ble_eq_true rfl) ?_
  refine a_aload_n (pc := 19) ok dX3_init_19 rfl ?_
  refine a_iconst (pc := 20) ok dX3_init_20 ?_
  refine a_putf (pc := 21) ok dX3_init_21 fp3_21 rfl (by first | rfl | decide) (by first | rfl | decide) (Nat.le_of_ble_eq_true rfl) ?_
  exact a_vret (pc := 24) ok dX3_init_24 (⟨rfl, rfl⟩)
theorem dX5_init_0 : decode cX5_init 0 = .ok (.aload_n 0, 1) := by decide +kernel
theorem dX5_init_1 : decode cX5_init 1 = .ok (.invokespecial 3, 3) := by decide +kernel
theorem dX5_init_4 : decode cX5_init 4 = .ok (.aload_n 0, 1) := by decide +kernel
theorem dX5_init_5 : decode cX5_init 5 = .ok (.bipush 120, 2) := by decide +kernel
theorem dX5_init_7 : decode cX5_init 7 = .ok (.newarray .int, 2) := by decide +kernel
theorem dX5_init_9 : decode cX5_init 9 = .ok (.putfield 9, 3) := by decide +kernel
theorem dX5_init_12 : decode cX5_init 12 = .ok (.aload_n 0, 1) := by decide +kernel
theorem dX5_init_13 : decode cX5_init 13 = .ok (.iconst 0, 1) := by decide +kernel
theorem dX5_init_14 : decode cX5_init 14 = .ok (.putfield 15, 3) := by decide +kernel
theorem dX5_init_17 : decode cX5_init 17 = .ok (.return_, 1) := by decide +kernel
def rgX5_init : Room := { frames := 2, cells := 1, slots := 120, locals := 60 }
abbrev N5 : List va_E := txA 0 0 zz
theorem kN5 : kcM 2 N5 := (by repeat' (first | exact True.intro | exact rfl | refine ⟨?_, ?_⟩))
theorem gX5 : CtG l yX5_init cX5_init 1 rgX5_init [.ref 0] [ob 5 bl5] N5 := by
  refine CtG.of miX5_init (Nat.le_of_ble_eq_true rfl) ?_
  intro X hXl hN hnm gk
  replace hnm : X.2.2.1.1.name = "<init>" := hnm
  have ok := gk.ok
  refine AW.cast (L2 := [some (.ref 0)]) ?_ rfl rfl rfl
  refine a_aload_n (pc := 0) ok dX5_init_0 rfl ?_
  refine a_objI (pc := 1) ok dX5_init_1 (ug1 30 (by decide +kernel) rfl) ⟨by decide, by decide⟩ (Nat.le_of_ble_eq_true rfl) ?_
  refine a_aload_n (pc := 4) ok dX5_init_4 rfl ?_
  refine a_bipush (pc := 5) ok dX5_init_5 (by decide) ?_
  refine a_newa (pc := 7) (t := 0) (n := 120) (x := .inl (arr fun _ => 0)) gk (Nat.le_of_ble_eq_true rfl) dX5_init_7 ac_int (fun _ => rfl) (fun _ => rfl) True.intro (fun _ => rfl) (by decide) rfl (by decide) ⟨by decide, by decide⟩ (by repeat' (first | exact True.intro | exact rfl | refine ⟨?_, ?_⟩)) rfl rfl ?_
  intro X hs gk
  replace hXl := hs.l.trans hXl
  replace hN := hs.n.trans hN
  replace hnm := hs.m.trans hnm
  have ok := gk.ok
  refine a_putfF (pc := 9) ok dX5_init_9 fpF5_9 hnm rfl rfl rfl (Nat.le_of_ble_eq_true rfl) ?_
  refine a_aload_n (pc := 12) ok dX5_init_12 rfl ?_
  refine a_iconst (pc := 13) ok dX5_init_13 ?_
  refine a_putf (pc := 14) ok dX5_init_14 fp5_15 rfl (by first | rfl | decide) (by first | rfl | decide) (Nat.le_of_ble_eq_true rfl) ?_
  exact a_vret (pc := 17) ok dX5_init_17 (⟨rfl, rfl⟩)
theorem dX2_init_0 : decode cX2_init 0 = .ok (.aload_n 0, 1) := by decide +kernel
theorem dX2_init_1 : decode cX2_init 1 = .ok (.invokespecial 3, 3) := by decide +kernel
theorem dX2_init_4 : decode cX2_init 4 = .ok (.aload_n 0, 1) := by decide +kernel
theorem dX2_init_5 : decode cX2_init 5 = .ok (.sipush 144, 3) := by decide +kernel
theorem dX2_init_8 : decode cX2_init 8 = .ok (.newarray .int, 2) := by decide +kernel
theorem dX2_init_10 : decode cX2_init 10 = .ok (.putfield 9, 3) := by decide +kernel
theorem dX2_init_13 : decode cX2_init 13 = .ok (.aload_n 0, 1) := by decide +kernel
theorem dX2_init_14 : decode cX2_init 14 = .ok (.sipush 144, 3) := by decide +kernel
theorem dX2_init_17 : decode cX2_init 17 = .ok (.newarray .int, 2) := by decide +kernel
theorem dX2_init_19 : decode cX2_init 19 = .ok (.putfield 15, 3) := by decide +kernel
theorem dX2_init_22 : decode cX2_init 22 = .ok (.aload_n 0, 1) := by decide +kernel
theorem dX2_init_23 : decode cX2_init 23 = .ok (.sipush 144, 3) := by decide +kernel
theorem dX2_init_26 : decode cX2_init 26 = .ok (.newarray .int, 2) := by decide +kernel
theorem dX2_init_28 : decode cX2_init 28 = .ok (.putfield 18, 3) := by decide +kernel
theorem dX2_init_31 : decode cX2_init 31 = .ok (.aload_n 0, 1) := by decide +kernel
theorem dX2_init_32 : decode cX2_init 32 = .ok (.sipush 144, 3) := by decide +kernel
theorem dX2_init_35 : decode cX2_init 35 = .ok (.newarray .int, 2) := by decide +kernel
theorem dX2_init_37 : decode cX2_init 37 = .ok (.putfield 21, 3) := by decide +kernel
theorem dX2_init_40 : decode cX2_init 40 = .ok (.aload_n 0, 1) := by decide +kernel
theorem dX2_init_41 : decode cX2_init 41 = .ok (.sipush 144, 3) := by decide +kernel
theorem dX2_init_44 : decode cX2_init 44 = .ok (.newarray .int, 2) := by decide +kernel
theorem dX2_init_46 : decode cX2_init 46 = .ok (.putfield 24, 3) := by decide +kernel
theorem dX2_init_49 : decode cX2_init 49 = .ok (.return_, 1) := by decide +kernel
def rgX2_init : Room := { frames := 2, cells := 5, slots := 720, locals := 60 }
abbrev N2 : List va_E := nsA 0 zz zz zz zz zz
theorem kN2 : kcM 6 N2 := (by repeat' (first | exact True.intro | exact rfl | refine ⟨?_, ?_⟩))
theorem gX2 : CtG l yX2_init cX2_init 1 rgX2_init [.ref 0] [ob 2 bl2] N2 := by
  refine CtG.of miX2_init (Nat.le_of_ble_eq_true rfl) ?_
  intro X hXl hN hnm gk
  replace hnm : X.2.2.1.1.name = "<init>" := hnm
  have ok := gk.ok
  refine AW.cast (L2 := [some (.ref 0)]) ?_ rfl rfl rfl
  refine a_aload_n (pc := 0) ok dX2_init_0 rfl ?_
  refine a_objI (pc := 1) ok dX2_init_1 (ug1 165 (by decide +kernel) rfl) ⟨by decide, by decide⟩ (Nat.le_of_ble_eq_true rfl) ?_
  refine a_aload_n (pc := 4) ok dX2_init_4 rfl ?_
  refine a_sipush (pc := 5) ok dX2_init_5 (by decide) ?_
  refine a_newa (pc := 8) (t := 0) (n := 144) (x := .inl (arr fun _ => 0)) gk (Nat.le_of_ble_eq_true rfl) dX2_init_8 ac_int (fun _ => rfl) (fun _ => rfl) True.intro (fun _ => rfl) (by decide) rfl (by decide) ⟨by decide, by decide⟩ (by repeat' (first | exact True.intro | exact rfl | refine ⟨?_, ?_⟩)) rfl rfl ?_
  intro X hs gk
  replace hXl := hs.l.trans hXl
  replace hN := hs.n.trans hN
  replace hnm := hs.m.trans hnm
  have ok := gk.ok
  refine a_putfF (pc := 10) ok dX2_init_10 fpF2_9 hnm rfl rfl rfl (Nat.le_of_ble_eq_true rfl) ?_
  refine a_aload_n (pc := 13) ok dX2_init_13 rfl ?_
  refine a_sipush (pc := 14) ok dX2_init_14 (by decide) ?_
  refine a_newa (pc := 17) (t := 0) (n := 144) (x := .inl (arr fun _ => 0)) gk (Nat.le_of_ble_eq_true rfl) dX2_init_17 ac_int (fun _ => rfl) (fun _ => rfl) True.intro (fun _ => rfl) (by decide) rfl (by decide) ⟨by decide, by decide⟩ (by repeat' (first | exact True.intro | exact rfl | refine ⟨?_, ?_⟩)) rfl rfl ?_
  intro X hs gk
  replace hXl := hs.l.trans hXl
  replace hN := hs.n.trans hN
  replace hnm := hs.m.trans hnm
  have ok := gk.ok
  refine a_putfF (pc := 19) ok dX2_init_19 fpF2_15 hnm rfl rfl rfl (Nat.le_of_ble_eq_true rfl) ?_
  refine a_aload_n (pc := 22) ok dX2_init_22 rfl ?_
  refine a_sipush (pc := 23) ok dX2_init_23 (by decide) ?_
  refine a_newa (pc := 26) (t := 0) (n := 144) (x := .inl (arr fun _ => 0)) gk (Nat.le_of_ble_eq_true rfl) dX2_init_26 ac_int (fun _ => rfl) (fun _ => rfl) True.intro (fun _ => rfl) (by decide) rfl (by decide) ⟨by decide, by decide⟩ (by repeat' (first | exact True.intro | exact rfl | refine ⟨?_, ?_⟩)) rfl rfl ?_
  intro X hs gk
  replace hXl := hs.l.trans hXl
  replace hN := hs.n.trans hN
  replace hnm := hs.m.trans hnm
  have ok := gk.ok
  refine a_putfF (pc := 28) ok dX2_init_28 fpF2_18 hnm rfl rfl rfl (Nat.le_of_ble_eq_true rfl) ?_
  refine a_aload_n (pc := 31) ok dX2_init_31 rfl ?_
  refine a_sipush (pc := 32) ok dX2_init_32 (by decide) ?_
  refine a_newa (pc := 35) (t := 0) (n := 144) (x := .inl (arr fun _ => 0)) gk (Nat.le_of_ble_eq_true rfl) dX2_init_35 ac_int (fun _ => rfl) (fun _ => rfl) True.intro (fun _ => rfl) (by decide) rfl (by decide) ⟨by decide, by decide⟩ (by repeat' (first | exact True.intro | exact rfl | refine ⟨?_, ?_⟩)) rfl rfl ?_
  intro X hs gk
  replace hXl := hs.l.trans hXl
  replace hN := hs.n.trans hN
  replace hnm := hs.m.trans hnm
  have ok := gk.ok
  refine a_putfF (pc := 37) ok dX2_init_37 fpF2_21 hnm rfl rfl rfl (Nat.le_of_ble_eq_true rfl) ?_
  refine a_aload_n (pc := 40) ok dX2_init_40 rfl ?_
  refine a_sipush (pc := 41) ok dX2_init_41 (by decide) ?_
  refine a_newa (pc := 44) (t := 0) (n := 144) (x := .inl (arr fun _ => 0)) gk (Nat.le_of_ble_eq_true rfl) dX2_init_44 ac_int (fun _ => rfl) (fun _ => rfl) True.intro (fun _ => rfl) (by decide) rfl (by decide) ⟨by decide, by decide⟩ (by repeat' (first | exact True.intro | exact rfl | refine ⟨?_, ?_⟩)) rfl rfl ?_
  intro X hs gk
  replace hXl := hs.l.trans hXl
  replace hN := hs.n.trans hN
  replace hnm := hs.m.trans hnm
  have ok := gk.ok
  refine a_putfF (pc := 46) ok dX2_init_46 fpF2_24 hnm rfl rfl rfl (Nat.le_of_ble_eq_true rfl) ?_
  exact a_vret (pc := 49) ok dX2_init_49 (⟨rfl, rfl⟩)
theorem dX0_init_0 : decode cX0_init 0 = .ok (.aload_n 0, 1) := by decide +kernel
theorem dX0_init_1 : decode cX0_init 1 = .ok (.invokespecial 3, 3) := by decide +kernel
theorem dX0_init_4 : decode cX0_init 4 = .ok (.aload_n 0, 1) := by decide +kernel
theorem dX0_init_5 : decode cX0_init 5 = .ok (.iconst 1, 1) := by decide +kernel
theorem dX0_init_6 : decode cX0_init 6 = .ok (.putfield 9, 3) := by decide +kernel
theorem dX0_init_9 : decode cX0_init 9 = .ok (.aload_n 0, 1) := by decide +kernel
theorem dX0_init_10 : decode cX0_init 10 = .ok (.iconst 1, 1) := by decide +kernel
theorem dX0_init_11 : decode cX0_init 11 = .ok (.putfield 15, 3) := by decide +kernel
theorem dX0_init_14 : decode cX0_init 14 = .ok (.aload_n 0, 1) := by decide +kernel
theorem dX0_init_15 : decode cX0_init 15 = .ok (.iconst 1, 1) := by decide +kernel
theorem dX0_init_16 : decode cX0_init 16 = .ok (.putfield 18, 3) := by decide +kernel
theorem dX0_init_19 : decode cX0_init 19 = .ok (.aload_n 0, 1) := by decide +kernel
theorem dX0_init_20 : decode cX0_init 20 = .ok (.iconst 0, 1) := by decide +kernel
theorem dX0_init_21 : decode cX0_init 21 = .ok (.putfield 21, 3) := by decide +kernel
theorem dX0_init_24 : decode cX0_init 24 = .ok (.aload_n 0, 1) := by decide +kernel
theorem dX0_init_25 : decode cX0_init 25 = .ok (.sipush 144, 3) := by decide +kernel
theorem dX0_init_28 : decode cX0_init 28 = .ok (.newarray .int, 2) := by decide +kernel
theorem dX0_init_30 : decode cX0_init 30 = .ok (.putfield 24, 3) := by decide +kernel
theorem dX0_init_33 : decode cX0_init 33 = .ok (.aload_n 0, 1) := by decide +kernel
theorem dX0_init_34 : decode cX0_init 34 = .ok (.sipush 144, 3) := by decide +kernel
theorem dX0_init_37 : decode cX0_init 37 = .ok (.newarray .int, 2) := by decide +kernel
theorem dX0_init_39 : decode cX0_init 39 = .ok (.putfield 28, 3) := by decide +kernel
theorem dX0_init_42 : decode cX0_init 42 = .ok (.aload_n 0, 1) := by decide +kernel
theorem dX0_init_43 : decode cX0_init 43 = .ok (.sipush 144, 3) := by decide +kernel
theorem dX0_init_46 : decode cX0_init 46 = .ok (.newarray .int, 2) := by decide +kernel
theorem dX0_init_48 : decode cX0_init 48 = .ok (.putfield 31, 3) := by decide +kernel
theorem dX0_init_51 : decode cX0_init 51 = .ok (.aload_n 0, 1) := by decide +kernel
theorem dX0_init_52 : decode cX0_init 52 = .ok (.sipush 144, 3) := by decide +kernel
theorem dX0_init_55 : decode cX0_init 55 = .ok (.newarray .int, 2) := by decide +kernel
theorem dX0_init_57 : decode cX0_init 57 = .ok (.putfield 34, 3) := by decide +kernel
theorem dX0_init_60 : decode cX0_init 60 = .ok (.aload_n 0, 1) := by decide +kernel
theorem dX0_init_61 : decode cX0_init 61 = .ok (.sipush 144, 3) := by decide +kernel
theorem dX0_init_64 : decode cX0_init 64 = .ok (.newarray .int, 2) := by decide +kernel
theorem dX0_init_66 : decode cX0_init 66 = .ok (.putfield 37, 3) := by decide +kernel
theorem dX0_init_69 : decode cX0_init 69 = .ok (.aload_n 0, 1) := by decide +kernel
theorem dX0_init_70 : decode cX0_init 70 = .ok (.sipush 144, 3) := by decide +kernel
theorem dX0_init_73 : decode cX0_init 73 = .ok (.newarray .int, 2) := by decide +kernel
theorem dX0_init_75 : decode cX0_init 75 = .ok (.putfield 40, 3) := by decide +kernel
theorem dX0_init_78 : decode cX0_init 78 = .ok (.aload_n 0, 1) := by decide +kernel
theorem dX0_init_79 : decode cX0_init 79 = .ok (.sipush 144, 3) := by decide +kernel
theorem dX0_init_82 : decode cX0_init 82 = .ok (.newarray .int, 2) := by decide +kernel
theorem dX0_init_84 : decode cX0_init 84 = .ok (.putfield 43, 3) := by decide +kernel
theorem dX0_init_87 : decode cX0_init 87 = .ok (.return_, 1) := by decide +kernel
def rgX0_init : Room := { frames := 2, cells := 7, slots := 1008, locals := 60 }
abbrev N0 : List va_E := isA 0 1 1 1 0 zz zz zz zz zz zz zz
theorem kN0 : kcM 8 N0 := (by repeat' (first | exact True.intro | exact rfl | refine ⟨?_, ?_⟩))
theorem gX0 : CtG l yX0_init cX0_init 1 rgX0_init [.ref 0] [ob 0 bl0] N0 := by
  refine CtG.of miX0_init (Nat.le_of_ble_eq_true rfl) ?_
  intro X hXl hN hnm gk
  replace hnm : X.2.2.1.1.name = "<init>" := hnm
  have ok := gk.ok
  refine AW.cast (L2 := [some (.ref 0)]) ?_ rfl rfl rfl
  refine a_aload_n (pc := 0) ok dX0_init_0 rfl ?_
  refine a_objI (pc := 1) ok dX0_init_1 (ug1 119 (by decide +kernel) rfl) ⟨by decide, by decide⟩ (Nat.le_of_ble_eq_true rfl) ?_
  refine a_aload_n (pc := 4) ok dX0_init_4 rfl ?_
  refine a_iconst (pc := 5) ok dX0_init_5 ?_
  refine a_putf (pc := 6) ok dX0_init_6 fp0_9 rfl (by first | rfl | decide) (by first | rfl | decide) (Nat.le_of_ble_eq_true rfl) ?_
  refine a_aload_n (pc := 9) ok dX0_init_9 rfl ?_
  refine a_iconst (pc := 10) ok dX0_init_10 ?_
  refine a_putf (pc := 11) ok dX0_init_11 fp0_15 rfl (by first | rfl | decide) (by first | rfl | decide) (Nat.le_of_ble_eq_true rfl) ?_
  refine a_aload_n (pc := 14) ok dX0_init_14 rfl ?_
  refine a_iconst (pc := 15) ok dX0_init_15 ?_
  refine a_putf (pc := 16) ok dX0_init_16 fp0_18 rfl (by first | rfl | decide) (by first | rfl | decide) (Nat.le_of_ble_eq_true rfl) ?_
  refine a_aload_n (pc := 19) ok dX0_init_19 rfl ?_
  refine a_iconst (pc := 20) ok dX0_init_20 ?_
  refine a_putf (pc := 21) ok dX0_init_21 fp0_21 rfl (by first | rfl | decide) (by first | rfl | decide) (Nat.le_of_ble_eq_true rfl) ?_
  refine a_aload_n (pc := 24) ok dX0_init_24 rfl ?_
  refine a_sipush (pc := 25) ok dX0_init_25 (by decide) ?_
  refine a_newa (pc := 28) (t := 0) (n := 144) (x := .inl (arr fun _ => 0)) gk (Nat.le_of_ble_eq_true rfl) dX0_init_28 ac_int (fun _ => rfl) (fun _ => rfl) True.intro (fun _ => rfl) (by decide) rfl (by decide) ⟨by decide, by decide⟩ (by repeat' (first | exact True.intro | exact rfl | refine ⟨?_, ?_⟩)) rfl rfl ?_
  intro X hs gk
  replace hXl := hs.l.trans hXl
  replace hN := hs.n.trans hN
  replace hnm := hs.m.trans hnm
  have ok := gk.ok
  refine a_putfF (pc := 30) ok dX0_init_30 fpF0_24 hnm rfl rfl rfl (Nat.le_of_ble_eq_true rfl) ?_
  refine a_aload_n (pc := 33) ok dX0_init_33 rfl ?_
  refine a_sipush (pc := 34) ok dX0_init_34 (by decide) ?_
  refine a_newa (pc := 37) (t := 0) (n := 144) (x := .inl (arr fun _ => 0)) gk (Nat.le_of_ble_eq_true rfl) dX0_init_37 ac_int (fun _ => rfl) (fun _ => rfl) True.intro (fun _ => rfl) (by decide) rfl (by decide) ⟨by decide, by decide⟩ (by repeat' (first | exact True.intro | exact rfl | refine ⟨?_, ?_⟩)) rfl rfl ?_
  intro X hs gk
  replace hXl := hs.l.trans hXl
  replace hN := hs.n.trans hN
  replace hnm := hs.m.trans hnm
  have ok := gk.ok
  refine a_putfF (pc := 39) ok dX0_init_39 fpF0_28 hnm rfl rfl rfl (Nat.le_of_ble_eq_true rfl) ?_
  refine a_aload_n (pc := 42) ok dX0_init_42 rfl ?_
  refine a_sipush (pc := 43) ok dX0_init_43 (by decide) ?_
  refine a_newa (pc := 46) (t := 0) (n := 144) (x := .inl (arr fun _ => 0)) gk (Nat.le_of_ble_eq_true rfl) dX0_init_46 ac_int (fun _ => rfl) (fun _ => rfl) True.intro (fun _ => rfl) (by decide) rfl (by decide) ⟨by decide, by decide⟩ (by repeat' (first | exact True.intro | exact rfl | refine ⟨?_, ?_⟩)) rfl rfl ?_
  intro X hs gk
  replace hXl := hs.l.trans hXl
  replace hN := hs.n.trans hN
  replace hnm := hs.m.trans hnm
  have ok := gk.ok
  refine a_putfF (pc := 48) ok dX0_init_48 fpF0_31 hnm rfl rfl rfl (Nat.le_of_ble_eq_true rfl) ?_
  refine a_aload_n (pc := 51) ok dX0_init_51 rfl ?_
  refine a_sipush (pc := 52) ok dX0_init_52 (by decide) ?_
  refine a_newa (pc := 55) (t := 0) (n := 144) (x := .inl (arr fun _ => 0)) gk (Nat.le_of_ble_eq_true rfl) dX0_init_55 ac_int (fun _ => rfl) (fun _ => rfl) True.intro (fun _ => rfl) (by decide) rfl (by decide) ⟨by decide, by decide⟩ (by repeat' (first | exact True.intro | exact rfl | refine ⟨?_, ?_⟩)) rfl rfl ?_
  intro X hs gk
  replace hXl := hs.l.trans hXl
  replace hN := hs.n.trans hN
  replace hnm := hs.m.trans hnm
  have ok := gk.ok
  refine a_putfF (pc := 57) ok dX0_init_57 fpF0_34 hnm rfl rfl rfl (Nat.le_of_ble_eq_true rfl) ?_
  refine a_aload_n (pc := 60) ok dX0_init_60 rfl ?_
  refine a_sipush (pc := 61) ok dX0_init_61 (by decide) ?_
  refine a_newa (pc := 64) (t := 0) (n := 144) (x := .inl (arr fun _ => 0)) gk (Nat.le_of_ble_eq_true rfl) dX0_init_64 ac_int (fun _ => rfl) (fun _ => rfl) True.intro (fun _ => rfl) (by decide) rfl (by decide) ⟨by decide, by decide⟩ (by repeat' (first | exact True.intro | exact rfl | refine ⟨?_, ?_⟩)) rfl rfl ?_
  intro X hs gk
  replace hXl := hs.l.trans hXl
  replace hN := hs.n.trans hN
  replace hnm := hs.m.trans hnm
  have ok := gk.ok
  refine a_putfF (pc := 66) ok dX0_init_66 fpF0_37 hnm rfl rfl rfl (Nat.le_of_ble_eq_true rfl) ?_
  refine a_aload_n (pc := 69) ok dX0_init_69 rfl ?_
  refine a_sipush (pc := 70) ok dX0_init_70 (by decide) ?_
  refine a_newa (pc := 73) (t := 0) (n := 144) (x := .inl (arr fun _ => 0)) gk (Nat.le_of_ble_eq_true rfl) dX0_init_73 ac_int (fun _ => rfl) (fun _ => rfl) True.intro (fun _ => rfl) (by decide) rfl (by decide) ⟨by decide, by decide⟩ (by repeat' (first | exact True.intro | exact rfl | refine ⟨?_, ?_⟩)) rfl rfl ?_
  intro X hs gk
  replace hXl := hs.l.trans hXl
  replace hN := hs.n.trans hN
  replace hnm := hs.m.trans hnm
  have ok := gk.ok
  refine a_putfF (pc := 75) ok dX0_init_75 fpF0_40 hnm rfl rfl rfl (Nat.le_of_ble_eq_true rfl) ?_
  refine a_aload_n (pc := 78) ok dX0_init_78 rfl ?_
  refine a_sipush (pc := 79) ok dX0_init_79 (by decide) ?_
  refine a_newa (pc := 82) (t := 0) (n := 144) (x := .inl (arr fun _ => 0)) gk (Nat.le_of_ble_eq_true rfl) dX0_init_82 ac_int (fun _ => rfl) (fun _ => rfl) True.intro (fun _ => rfl) (by decide) rfl (by decide) ⟨by decide, by decide⟩ (by repeat' (first | exact True.intro | exact rfl | refine ⟨?_, ?_⟩)) rfl rfl ?_
  intro X hs gk
  replace hXl := hs.l.trans hXl
  replace hN := hs.n.trans hN
  replace hnm := hs.m.trans hnm
  have ok := gk.ok
  refine a_putfF (pc := 84) ok dX0_init_84 fpF0_43 hnm rfl rfl rfl (Nat.le_of_ble_eq_true rfl) ?_
  exact a_vret (pc := 87) ok dX0_init_87 (⟨rfl, rfl⟩)
theorem dX4_init_0 : decode cX4_init 0 = .ok (.aload_n 0, 1) := by decide +kernel
theorem dX4_init_1 : decode cX4_init 1 = .ok (.invokespecial 3, 3) := by decide +kernel
theorem dX4_init_4 : decode cX4_init 4 = .ok (.aload_n 0, 1) := by decide +kernel
theorem dX4_init_5 : decode cX4_init 5 = .ok (.sipush 144, 3) := by decide +kernel
theorem dX4_init_8 : decode cX4_init 8 = .ok (.newarray .int, 2) := by decide +kernel
theorem dX4_init_10 : decode cX4_init 10 = .ok (.putfield 9, 3) := by decide +kernel
theorem dX4_init_13 : decode cX4_init 13 = .ok (.aload_n 0, 1) := by decide +kernel
theorem dX4_init_14 : decode cX4_init 14 = .ok (.iconst 5, 1) := by decide +kernel
theorem dX4_init_15 : decode cX4_init 15 = .ok (.newarray .int, 2) := by decide +kernel
theorem dX4_init_17 : decode cX4_init 17 = .ok (.putfield 15, 3) := by decide +kernel
theorem dX4_init_20 : decode cX4_init 20 = .ok (.aload_n 0, 1) := by decide +kernel
theorem dX4_init_21 : decode cX4_init 21 = .ok (.bipush 6, 2) := by decide +kernel
theorem dX4_init_23 : decode cX4_init 23 = .ok (.newarray .int, 2) := by decide +kernel
theorem dX4_init_25 : decode cX4_init 25 = .ok (.putfield 18, 3) := by decide +kernel
theorem dX4_init_28 : decode cX4_init 28 = .ok (.aload_n 0, 1) := by decide +kernel
theorem dX4_init_29 : decode cX4_init 29 = .ok (.bipush 8, 2) := by decide +kernel
theorem dX4_init_31 : decode cX4_init 31 = .ok (.bipush 8, 2) := by decide +kernel
theorem dX4_init_33 : decode cX4_init 33 = .ok (.invokevirtual 21, 3) := by decide +kernel
theorem dX4_init_36 : decode cX4_init 36 = .ok (.return_, 1) := by decide +kernel
def rgX4_init : Room := { frames := 3, cells := 3, slots := 155, locals := 68 }
abbrev N4 : List va_E := stS 0 S00
theorem kN4 : kcM 4 N4 := (by repeat' (first | exact True.intro | exact rfl | refine ⟨?_, ?_⟩))
theorem gX4 : CtG l yX4_init cX4_init 1 rgX4_init [.ref 0] [ob 4 bl4] N4 := by
  refine CtG.of miX4_init (Nat.le_of_ble_eq_true rfl) ?_
  intro X hXl hN hnm gk
  replace hnm : X.2.2.1.1.name = "<init>" := hnm
  have ok := gk.ok
  refine AW.cast (L2 := [some (.ref 0)]) ?_ rfl rfl rfl
  refine a_aload_n (pc := 0) ok dX4_init_0 rfl ?_
  refine a_objI (pc := 1) ok dX4_init_1 (ug1 45 (by decide +kernel) rfl) ⟨by decide, by decide⟩ (Nat.le_of_ble_eq_true rfl) ?_
  refine a_aload_n (pc := 4) ok dX4_init_4 rfl ?_
  refine a_sipush (pc := 5) ok dX4_init_5 (by decide) ?_
  refine a_newa (pc := 8) (t := 0) (n := 144) (x := .inl (arr fun _ => 0)) gk (Nat.le_of_ble_eq_true rfl) dX4_init_8 ac_int (fun _ => rfl) (fun _ => rfl) True.intro (fun _ => rfl) (by decide) rfl (by decide) ⟨by decide, by decide⟩ (by repeat' (first | exact True.intro | exact rfl | refine ⟨?_, ?_⟩)) rfl rfl ?_
  intro X hs gk
  replace hXl := hs.l.trans hXl
  replace hN := hs.n.trans hN
  replace hnm := hs.m.trans hnm
  have ok := gk.ok
  refine a_putfF (pc := 10) ok dX4_init_10 fpF4_9 hnm rfl rfl rfl (Nat.le_of_ble_eq_true rfl) ?_
  refine a_aload_n (pc := 13) ok dX4_init_13 rfl ?_
  refine a_iconst (pc := 14) ok dX4_init_14 ?_
  refine a_newa (pc := 15) (t := 0) (n := 5) (x := .inl (arr fun _ => 0)) gk (Nat.le_of_ble_eq_true rfl) dX4_init_15 ac_int (fun _ => rfl) (fun _ => rfl) True.intro (fun _ => rfl) (by decide) rfl (by decide) ⟨by decide, by decide⟩ (by repeat' (first | exact True.intro | exact rfl | refine ⟨?_, ?_⟩)) rfl rfl ?_
  intro X hs gk
  replace hXl := hs.l.trans hXl
  replace hN := hs.n.trans hN
  replace hnm := hs.m.trans hnm
  have ok := gk.ok
  refine a_putfF (pc := 17) ok dX4_init_17 fpF4_15 hnm rfl rfl rfl (Nat.le_of_ble_eq_true rfl) ?_
  refine a_aload_n (pc := 20) ok dX4_init_20 rfl ?_
  refine a_bipush (pc := 21) ok dX4_init_21 (by decide) ?_
  refine a_newa (pc := 23) (t := 0) (n := 6) (x := .inl (arr fun _ => 0)) gk (Nat.le_of_ble_eq_true rfl) dX4_init_23 ac_int (fun _ => rfl) (fun _ => rfl) True.intro (fun _ => rfl) (by decide) rfl (by decide) ⟨by decide, by decide⟩ (by repeat' (first | exact True.intro | exact rfl | refine ⟨?_, ?_⟩)) rfl rfl ?_
  intro X hs gk
  replace hXl := hs.l.trans hXl
  replace hN := hs.n.trans hN
  replace hnm := hs.m.trans hnm
  have ok := gk.ok
  refine a_putfF (pc := 25) ok dX4_init_25 fpF4_18 hnm rfl rfl rfl (Nat.le_of_ble_eq_true rfl) ?_
  subst hXl
  refine AW.cast (M2 := stM 0 0 zz zz 0 0 zz 0) ?_ rfl rfl rfl
  refine a_aload_n (pc := 28) ok dX4_init_28 rfl ?_
  refine a_bipush (pc := 29) ok dX4_init_29 (by decide) ?_
  refine a_bipush (pc := 31) ok dX4_init_31 (by decide) ?_
  refine a_callVv (pc := 33) ok [0, 1, 2, 3] dX4_init_33 mv4_21 miX4_reset (c_reset (n := 0)) ⟨by decide, by decide, rfl, rfl, by decide, by decide⟩ rfl rfl (Nat.le_of_ble_eq_true rfl) rfl (by decide) rfl rfl rfl ?_
  exact a_vret (pc := 36) ok dX4_init_36 (⟨rfl, rfl⟩)
end CT2
