/-! CONSTRUCTORS: the Model. Printed by wip/whole/gen/mk85.py. -/
section CT4
variable {l : Launch}
theorem dX7_init_0 : decode cX7_init 0 = .ok (.aload_n 0, 1) := by decide +kernel
theorem dX7_init_1 : decode cX7_init 1 = .ok (.invokespecial 1, 3) := by decide +kernel
theorem dX7_init_4 : decode cX7_init 4 = .ok (.aload_n 0, 1) := by decide +kernel
theorem dX7_init_5 : decode cX7_init 5 = .ok (.bipush 120, 2) := by decide +kernel
theorem dX7_init_7 : decode cX7_init 7 = .ok (.newarray .int, 2) := by decide +kernel
theorem dX7_init_9 : decode cX7_init 9 = .ok (.putfield 7, 3) := by decide +kernel
theorem dX7_init_12 : decode cX7_init 12 = .ok (.aload_n 0, 1) := by decide +kernel
theorem dX7_init_13 : decode cX7_init 13 = .ok (.sipush 160, 3) := by decide +kernel
theorem dX7_init_16 : decode cX7_init 16 = .ok (.newarray .int, 2) := by decide +kernel
theorem dX7_init_18 : decode cX7_init 18 = .ok (.putfield 13, 3) := by decide +kernel
theorem dX7_init_21 : decode cX7_init 21 = .ok (.aload_n 0, 1) := by decide +kernel
theorem dX7_init_22 : decode cX7_init 22 = .ok (.sipush 160, 3) := by decide +kernel
theorem dX7_init_25 : decode cX7_init 25 = .ok (.newarray .int, 2) := by decide +kernel
theorem dX7_init_27 : decode cX7_init 27 = .ok (.putfield 16, 3) := by decide +kernel
theorem dX7_init_30 : decode cX7_init 30 = .ok (.aload_n 0, 1) := by decide +kernel
theorem dX7_init_31 : decode cX7_init 31 = .ok (.sipush 2240, 3) := by decide +kernel
theorem dX7_init_34 : decode cX7_init 34 = .ok (.newarray .int, 2) := by decide +kernel
theorem dX7_init_36 : decode cX7_init 36 = .ok (.putfield 19, 3) := by decide +kernel
theorem dX7_init_39 : decode cX7_init 39 = .ok (.aload_n 0, 1) := by decide +kernel
theorem dX7_init_40 : decode cX7_init 40 = .ok (.sipush 320, 3) := by decide +kernel
theorem dX7_init_43 : decode cX7_init 43 = .ok (.newarray .int, 2) := by decide +kernel
theorem dX7_init_45 : decode cX7_init 45 = .ok (.putfield 22, 3) := by decide +kernel
theorem dX7_init_48 : decode cX7_init 48 = .ok (.aload_n 0, 1) := by decide +kernel
theorem dX7_init_49 : decode cX7_init 49 = .ok (.iconst 2, 1) := by decide +kernel
theorem dX7_init_50 : decode cX7_init 50 = .ok (.newarray .boolean, 2) := by decide +kernel
theorem dX7_init_52 : decode cX7_init 52 = .ok (.putfield 25, 3) := by decide +kernel
theorem dX7_init_55 : decode cX7_init 55 = .ok (.aload_n 0, 1) := by decide +kernel
theorem dX7_init_56 : decode cX7_init 56 = .ok (.sipush 144, 3) := by decide +kernel
theorem dX7_init_59 : decode cX7_init 59 = .ok (.newarray .int, 2) := by decide +kernel
theorem dX7_init_61 : decode cX7_init 61 = .ok (.putfield 29, 3) := by decide +kernel
theorem dX7_init_64 : decode cX7_init 64 = .ok (.aload_n 0, 1) := by decide +kernel
theorem dX7_init_65 : decode cX7_init 65 = .ok (.sipush 144, 3) := by decide +kernel
theorem dX7_init_68 : decode cX7_init 68 = .ok (.newarray .int, 2) := by decide +kernel
theorem dX7_init_70 : decode cX7_init 70 = .ok (.putfield 32, 3) := by decide +kernel
theorem dX7_init_73 : decode cX7_init 73 = .ok (.aload_n 0, 1) := by decide +kernel
theorem dX7_init_74 : decode cX7_init 74 = .ok (.sipush 144, 3) := by decide +kernel
theorem dX7_init_77 : decode cX7_init 77 = .ok (.newarray .int, 2) := by decide +kernel
theorem dX7_init_79 : decode cX7_init 79 = .ok (.putfield 35, 3) := by decide +kernel
theorem dX7_init_82 : decode cX7_init 82 = .ok (.aload_n 0, 1) := by decide +kernel
theorem dX7_init_83 : decode cX7_init 83 = .ok (.sipush 144, 3) := by decide +kernel
theorem dX7_init_86 : decode cX7_init 86 = .ok (.newarray .int, 2) := by decide +kernel
theorem dX7_init_88 : decode cX7_init 88 = .ok (.putfield 38, 3) := by decide +kernel
theorem dX7_init_91 : decode cX7_init 91 = .ok (.aload_n 0, 1) := by decide +kernel
theorem dX7_init_92 : decode cX7_init 92 = .ok (.sipush 144, 3) := by decide +kernel
theorem dX7_init_95 : decode cX7_init 95 = .ok (.newarray .int, 2) := by decide +kernel
theorem dX7_init_97 : decode cX7_init 97 = .ok (.putfield 41, 3) := by decide +kernel
theorem dX7_init_100 : decode cX7_init 100 = .ok (.aload_n 0, 1) := by decide +kernel
theorem dX7_init_101 : decode cX7_init 101 = .ok (.sipush 144, 3) := by decide +kernel
theorem dX7_init_104 : decode cX7_init 104 = .ok (.newarray .int, 2) := by decide +kernel
theorem dX7_init_106 : decode cX7_init 106 = .ok (.putfield 44, 3) := by decide +kernel
theorem dX7_init_109 : decode cX7_init 109 = .ok (.aload_n 0, 1) := by decide +kernel
theorem dX7_init_110 : decode cX7_init 110 = .ok (.sipush 144, 3) := by decide +kernel
theorem dX7_init_113 : decode cX7_init 113 = .ok (.newarray .int, 2) := by decide +kernel
theorem dX7_init_115 : decode cX7_init 115 = .ok (.putfield 47, 3) := by decide +kernel
theorem dX7_init_118 : decode cX7_init 118 = .ok (.aload_n 0, 1) := by decide +kernel
theorem dX7_init_119 : decode cX7_init 119 = .ok (.sipush 144, 3) := by decide +kernel
theorem dX7_init_122 : decode cX7_init 122 = .ok (.newarray .int, 2) := by decide +kernel
theorem dX7_init_124 : decode cX7_init 124 = .ok (.putfield 50, 3) := by decide +kernel
theorem dX7_init_127 : decode cX7_init 127 = .ok (.aload_n 0, 1) := by decide +kernel
theorem dX7_init_128 : decode cX7_init 128 = .ok (.sipush 144, 3) := by decide +kernel
theorem dX7_init_131 : decode cX7_init 131 = .ok (.newarray .int, 2) := by decide +kernel
theorem dX7_init_133 : decode cX7_init 133 = .ok (.putfield 53, 3) := by decide +kernel
theorem dX7_init_136 : decode cX7_init 136 = .ok (.aload_n 0, 1) := by decide +kernel
theorem dX7_init_137 : decode cX7_init 137 = .ok (.getfield 13, 3) := by decide +kernel
theorem dX7_init_140 : decode cX7_init 140 = .ok (.bipush 8, 2) := by decide +kernel
theorem dX7_init_142 : decode cX7_init 142 = .ok (.bipush 8, 2) := by decide +kernel
theorem dX7_init_144 : decode cX7_init 144 = .ok (.invokestatic 56, 3) := by decide +kernel
theorem dX7_init_147 : decode cX7_init 147 = .ok (.aload_n 0, 1) := by decide +kernel
theorem dX7_init_148 : decode cX7_init 148 = .ok (.getfield 13, 3) := by decide +kernel
theorem dX7_init_151 : decode cX7_init 151 = .ok (.invokestatic 60, 3) := by decide +kernel
theorem dX7_init_154 : decode cX7_init 154 = .ok (.return_, 1) := by decide +kernel
def rgX7_init : Room := { frames := 2, cells := 15, slots := 4298, locals := 60 }
abbrev Z00 : St := (0, 0, zz, zz, 0, 0, zz, 0)
theorem row_zz : rowS Z00 = zz := by
  funext j
  show (if j = 0 then (0 : Int) else if j = 1 then 0 else if j = 2 then 0 else if j < 8 then 0 else if j = 8 then 0 else if j < 15 then 0 else if j = 15 then 0 else 0) = 0
  repeat' split
  all_goals rfl
abbrev N7 : List va_E := [ob 7 [iv 0, .ref 1, iv 0, .ref 2, .ref 3, .ref 4, iv 0, .ref 5, .ref 6, .ref 7, .ref 8, iv 0, .ref 9, .ref 10, .ref 11, .ref 12, .ref 13, .ref 14, .ref 15, iv 0, iv 0, iv 0, iv 0, iv 0, iv 0], ia 120 zz, ia 160 (rowS S00), ia 160 (rowS Z00), ia 2240 zz, ia 320 zz, za 2 zz, ia 144 zz, ia 144 zz, ia 144 zz, ia 144 zz, ia 144 zz, ia 144 zz, ia 144 zz, ia 144 zz, ia 144 zz]
theorem kN7 : kcM 16 N7 := (by repeat' (first | exact True.intro | exact rfl | refine ⟨?_, ?_⟩))
theorem gX7 : CtG l yX7_init cX7_init 1 rgX7_init [.ref 0] [ob 7 bl7] N7 := by
  refine CtG.of miX7_init (Nat.le_of_ble_eq_true rfl) ?_
  intro X hXl hN hnm gk
  replace hnm : X.2.2.1.1.name = "<init>" := hnm
  have ok := gk.ok
  refine AW.cast (L2 := [some (.ref 0)]) ?_ rfl rfl rfl
  refine a_aload_n (pc := 0) ok dX7_init_0 rfl ?_
  refine a_objI (pc := 1) ok dX7_init_1 (ug5 63 (by decide +kernel) rfl) ⟨by decide, by decide⟩ (Nat.le_of_ble_eq_true rfl) ?_
  refine a_aload_n (pc := 4) ok dX7_init_4 rfl ?_
  refine a_bipush (pc := 5) ok dX7_init_5 (by decide) ?_
  refine a_newa (pc := 7) (t := 0) (n := 120) (x := .inl (arr fun _ => 0)) gk (Nat.le_of_ble_eq_true rfl) dX7_init_7 ac_int (fun _ => rfl) (fun _ => rfl) True.intro (fun _ => rfl) (by decide) rfl (by decide) ⟨by decide, by decide⟩ (by repeat' (first | exact True.intro | exact rfl | refine ⟨?_, ?_⟩)) rfl rfl ?_
  intro X hs gk
  replace hXl := hs.l.trans hXl
  replace hN := hs.n.trans hN
  replace hnm := hs.m.trans hnm
  have ok := gk.ok
  refine a_putfF (pc := 9) ok dX7_init_9 fpF7_7 hnm rfl rfl rfl (Nat.le_of_ble_eq_true rfl) ?_
  refine AW.cast (M2 := [ob 7 [iv 0, .ref 1, iv 0, .null, .null, .null, iv 0, .null, .null, .null, .null, iv 0, .null, .null, .null, .null, .null, .null, .null, iv 0, iv 0, iv 0, iv 0, iv 0, iv 0], ia 120 zz]) ?_ rfl rfl rfl
  refine a_aload_n (pc := 12) ok dX7_init_12 rfl ?_
  refine a_sipush (pc := 13) ok dX7_init_13 (by decide) ?_
  refine a_newa (pc := 16) (t := 0) (n := 160) (x := .inl (arr fun _ => 0)) gk (Nat.le_of_ble_eq_true rfl) dX7_init_16 ac_int (fun _ => rfl) (fun _ => rfl) True.intro (fun _ => rfl) (by decide) rfl (by decide) ⟨by decide, by decide⟩ (by repeat' (first | exact True.intro | exact rfl | refine ⟨?_, ?_⟩)) rfl rfl ?_
  intro X hs gk
  replace hXl := hs.l.trans hXl
  replace hN := hs.n.trans hN
  replace hnm := hs.m.trans hnm
  have ok := gk.ok
  refine a_putfF (pc := 18) ok dX7_init_18 fpF7_13 hnm rfl rfl rfl (Nat.le_of_ble_eq_true rfl) ?_
  refine AW.cast (M2 := [ob 7 [iv 0, .ref 1, iv 0, .ref 2, .null, .null, iv 0, .null, .null, .null, .null, iv 0, .null, .null, .null, .null, .null, .null, .null, iv 0, iv 0, iv 0, iv 0, iv 0, iv 0], ia 120 zz, ia 160 zz]) ?_ rfl rfl rfl
  refine a_aload_n (pc := 21) ok dX7_init_21 rfl ?_
  refine a_sipush (pc := 22) ok dX7_init_22 (by decide) ?_
  refine a_newa (pc := 25) (t := 0) (n := 160) (x := .inl (arr fun _ => 0)) gk (Nat.le_of_ble_eq_true rfl) dX7_init_25 ac_int (fun _ => rfl) (fun _ => rfl) True.intro (fun _ => rfl) (by decide) rfl (by decide) ⟨by decide, by decide⟩ (by repeat' (first | exact True.intro | exact rfl | refine ⟨?_, ?_⟩)) rfl rfl ?_
  intro X hs gk
  replace hXl := hs.l.trans hXl
  replace hN := hs.n.trans hN
  replace hnm := hs.m.trans hnm
  have ok := gk.ok
  refine a_putfF (pc := 27) ok dX7_init_27 fpF7_16 hnm rfl rfl rfl (Nat.le_of_ble_eq_true rfl) ?_
  refine AW.cast (M2 := [ob 7 [iv 0, .ref 1, iv 0, .ref 2, .ref 3, .null, iv 0, .null, .null, .null, .null, iv 0, .null, .null, .null, .null, .null, .null, .null, iv 0, iv 0, iv 0, iv 0, iv 0, iv 0], ia 120 zz, ia 160 zz, ia 160 zz]) ?_ rfl rfl rfl
  refine a_aload_n (pc := 30) ok dX7_init_30 rfl ?_
  refine a_sipush (pc := 31) ok dX7_init_31 (by decide) ?_
  refine a_newa (pc := 34) (t := 0) (n := 2240) (x := .inl (arr fun _ => 0)) gk (Nat.le_of_ble_eq_true rfl) dX7_init_34 ac_int (fun _ => rfl) (fun _ => rfl) True.intro (fun _ => rfl) (by decide) rfl (by decide) ⟨by decide, by decide⟩ (by repeat' (first | exact True.intro | exact rfl | refine ⟨?_, ?_⟩)) rfl rfl ?_
  intro X hs gk
  replace hXl := hs.l.trans hXl
  replace hN := hs.n.trans hN
  replace hnm := hs.m.trans hnm
  have ok := gk.ok
  refine a_putfF (pc := 36) ok dX7_init_36 fpF7_19 hnm rfl rfl rfl (Nat.le_of_ble_eq_true rfl) ?_
  refine AW.cast (M2 := [ob 7 [iv 0, .ref 1, iv 0, .ref 2, .ref 3, .ref 4, iv 0, .null, .null, .null, .null, iv 0, .null, .null, .null, .null, .null, .null, .null, iv 0, iv 0, iv 0, iv 0, iv 0, iv 0], ia 120 zz, ia 160 zz, ia 160 zz, ia 2240 zz]) ?_ rfl rfl rfl
  refine a_aload_n (pc := 39) ok dX7_init_39 rfl ?_
  refine a_sipush (pc := 40) ok dX7_init_40 (by decide) ?_
  refine a_newa (pc := 43) (t := 0) (n := 320) (x := .inl (arr fun _ => 0)) gk (Nat.le_of_ble_eq_true rfl) dX7_init_43 ac_int (fun _ => rfl) (fun _ => rfl) True.intro (fun _ => rfl) (by decide) rfl (by decide) ⟨by decide, by decide⟩ (by repeat' (first | exact True.intro | exact rfl | refine ⟨?_, ?_⟩)) rfl rfl ?_
  intro X hs gk
  replace hXl := hs.l.trans hXl
  replace hN := hs.n.trans hN
  replace hnm := hs.m.trans hnm
  have ok := gk.ok
  refine a_putfF (pc := 45) ok dX7_init_45 fpF7_22 hnm rfl rfl rfl (Nat.le_of_ble_eq_true rfl) ?_
  refine AW.cast (M2 := [ob 7 [iv 0, .ref 1, iv 0, .ref 2, .ref 3, .ref 4, iv 0, .ref 5, .null, .null, .null, iv 0, .null, .null, .null, .null, .null, .null, .null, iv 0, iv 0, iv 0, iv 0, iv 0, iv 0], ia 120 zz, ia 160 zz, ia 160 zz, ia 2240 zz, ia 320 zz]) ?_ rfl rfl rfl
  refine a_aload_n (pc := 48) ok dX7_init_48 rfl ?_
  refine a_iconst (pc := 49) ok dX7_init_49 ?_
  refine a_newa (pc := 50) (t := 1) (n := 2) (x := .inl (arr fun _ => 0)) gk (Nat.le_of_ble_eq_true rfl) dX7_init_50 ac_boolean (fun _ => rfl) (fun _ => rfl) True.intro (fun _ => rfl) (by decide) rfl (by decide) ⟨by decide, by decide⟩ (by repeat' (first | exact True.intro | exact rfl | refine ⟨?_, ?_⟩)) rfl rfl ?_
  intro X hs gk
  replace hXl := hs.l.trans hXl
  replace hN := hs.n.trans hN
  replace hnm := hs.m.trans hnm
  have ok := gk.ok
  refine a_putfF (pc := 52) ok dX7_init_52 fpF7_25 hnm rfl rfl rfl (Nat.le_of_ble_eq_true rfl) ?_
  refine AW.cast (M2 := [ob 7 [iv 0, .ref 1, iv 0, .ref 2, .ref 3, .ref 4, iv 0, .ref 5, .ref 6, .null, .null, iv 0, .null, .null, .null, .null, .null, .null, .null, iv 0, iv 0, iv 0, iv 0, iv 0, iv 0], ia 120 zz, ia 160 zz, ia 160 zz, ia 2240 zz, ia 320 zz, za 2 zz]) ?_ rfl rfl rfl
  refine a_aload_n (pc := 55) ok dX7_init_55 rfl ?_
  refine a_sipush (pc := 56) ok dX7_init_56 (by decide) ?_
  refine a_newa (pc := 59) (t := 0) (n := 144) (x := .inl (arr fun _ => 0)) gk (Nat.le_of_ble_eq_true rfl) dX7_init_59 ac_int (fun _ => rfl) (fun _ => rfl) True.intro (fun _ => rfl) (by decide) rfl (by decide) ⟨by decide, by decide⟩ (by repeat' (first | exact True.intro | exact rfl | refine ⟨?_, ?_⟩)) rfl rfl ?_
  intro X hs gk
  replace hXl := hs.l.trans hXl
  replace hN := hs.n.trans hN
  replace hnm := hs.m.trans hnm
  have ok := gk.ok
  refine a_putfF (pc := 61) ok dX7_init_61 fpF7_29 hnm rfl rfl rfl (Nat.le_of_ble_eq_true rfl) ?_
  refine AW.cast (M2 := [ob 7 [iv 0, .ref 1, iv 0, .ref 2, .ref 3, .ref 4, iv 0, .ref 5, .ref 6, .ref 7, .null, iv 0, .null, .null, .null, .null, .null, .null, .null, iv 0, iv 0, iv 0, iv 0, iv 0, iv 0], ia 120 zz, ia 160 zz, ia 160 zz, ia 2240 zz, ia 320 zz, za 2 zz, ia 144 zz]) ?_ rfl rfl rfl
  refine a_aload_n (pc := 64) ok dX7_init_64 rfl ?_
  refine a_sipush (pc := 65) ok dX7_init_65 (by decide) ?_
  refine a_newa (pc := 68) (t := 0) (n := 144) (x := .inl (arr fun _ => 0)) gk (Nat.le_of_ble_eq_true rfl) dX7_init_68 ac_int (fun _ => rfl) (fun _ => rfl) True.intro (fun _ => rfl) (by decide) rfl (by decide) ⟨by decide, by decide⟩ (by repeat' (first | exact True.intro | exact rfl | refine ⟨?_, ?_⟩)) rfl rfl ?_
  intro X hs gk
  replace hXl := hs.l.trans hXl
  replace hN := hs.n.trans hN
  replace hnm := hs.m.trans hnm
  have ok := gk.ok
  refine a_putfF (pc := 70) ok dX7_init_70 fpF7_32 hnm rfl rfl rfl (Nat.le_of_ble_eq_true rfl) ?_
  refine AW.cast (M2 := [ob 7 [iv 0, .ref 1, iv 0, .ref 2, .ref 3, .ref 4, iv 0, .ref 5, .ref 6, .ref 7, .ref 8, iv 0, .null, .null, .null, .null, .null, .null, .null, iv 0, iv 0, iv 0, iv 0, iv 0, iv 0], ia 120 zz, ia 160 zz, ia 160 zz, ia 2240 zz, ia 320 zz, za 2 zz, ia 144 zz, ia 144 zz]) ?_ rfl rfl rfl
  refine a_aload_n (pc := 73) ok dX7_init_73 rfl ?_
  refine a_sipush (pc := 74) ok dX7_init_74 (by decide) ?_
  refine a_newa (pc := 77) (t := 0) (n := 144) (x := .inl (arr fun _ => 0)) gk (Nat.le_of_ble_eq_true rfl) dX7_init_77 ac_int (fun _ => rfl) (fun _ => rfl) True.intro (fun _ => rfl) (by decide) rfl (by decide) ⟨by decide, by decide⟩ (by repeat' (first | exact True.intro | exact rfl | refine ⟨?_, ?_⟩)) rfl rfl ?_
  intro X hs gk
  replace hXl := hs.l.trans hXl
  replace hN := hs.n.trans hN
  replace hnm := hs.m.trans hnm
  have ok := gk.ok
  refine a_putfF (pc := 79) ok dX7_init_79 fpF7_35 hnm rfl rfl rfl (Nat.le_of_ble_eq_true rfl) ?_
  refine AW.cast (M2 := [ob 7 [iv 0, .ref 1, iv 0, .ref 2, .ref 3, .ref 4, iv 0, .ref 5, .ref 6, .ref 7, .ref 8, iv 0, .ref 9, .null, .null, .null, .null, .null, .null, iv 0, iv 0, iv 0, iv 0, iv 0, iv 0], ia 120 zz, ia 160 zz, ia 160 zz, ia 2240 zz, ia 320 zz, za 2 zz, ia 144 zz, ia 144 zz, ia 144 zz]) ?_ rfl rfl rfl
  refine a_aload_n (pc := 82) ok dX7_init_82 rfl ?_
  refine a_sipush (pc := 83) ok dX7_init_83 (by decide) ?_
  refine a_newa (pc := 86) (t := 0) (n := 144) (x := .inl (arr fun _ => 0)) gk (Nat.le_of_ble_eq_true rfl) dX7_init_86 ac_int (fun _ => rfl) (fun _ => rfl) True.intro (fun _ => rfl) (by decide) rfl (by decide) ⟨by decide, by decide⟩ (by repeat' (first | exact True.intro | exact rfl | refine ⟨?_, ?_⟩)) rfl rfl ?_
  intro X hs gk
  replace hXl := hs.l.trans hXl
  replace hN := hs.n.trans hN
  replace hnm := hs.m.trans hnm
  have ok := gk.ok
  refine a_putfF (pc := 88) ok dX7_init_88 fpF7_38 hnm rfl rfl rfl (Nat.le_of_ble_eq_true rfl) ?_
  refine AW.cast (M2 := [ob 7 [iv 0, .ref 1, iv 0, .ref 2, .ref 3, .ref 4, iv 0, .ref 5, .ref 6, .ref 7, .ref 8, iv 0, .ref 9, .ref 10, .null, .null, .null, .null, .null, iv 0, iv 0, iv 0, iv 0, iv 0, iv 0], ia 120 zz, ia 160 zz, ia 160 zz, ia 2240 zz, ia 320 zz, za 2 zz, ia 144 zz, ia 144 zz, ia 144 zz, ia 144 zz]) ?_ rfl rfl rfl
  refine a_aload_n (pc := 91) ok dX7_init_91 rfl ?_
  refine a_sipush (pc := 92) ok dX7_init_92 (by decide) ?_
  refine a_newa (pc := 95) (t := 0) (n := 144) (x := .inl (arr fun _ => 0)) gk (Nat.le_of_ble_eq_true rfl) dX7_init_95 ac_int (fun _ => rfl) (fun _ => rfl) True.intro (fun _ => rfl) (by decide) rfl (by decide) ⟨by decide, by decide⟩ (by repeat' (first | exact True.intro | exact rfl | refine ⟨?_, ?_⟩)) rfl rfl ?_
  intro X hs gk
  replace hXl := hs.l.trans hXl
  replace hN := hs.n.trans hN
  replace hnm := hs.m.trans hnm
  have ok := gk.ok
  refine a_putfF (pc := 97) ok dX7_init_97 fpF7_41 hnm rfl rfl rfl (Nat.le_of_ble_eq_true rfl) ?_
  refine AW.cast (M2 := [ob 7 [iv 0, .ref 1, iv 0, .ref 2, .ref 3, .ref 4, iv 0, .ref 5, .ref 6, .ref 7, .ref 8, iv 0, .ref 9, .ref 10, .ref 11, .null, .null, .null, .null, iv 0, iv 0, iv 0, iv 0, iv 0, iv 0], ia 120 zz, ia 160 zz, ia 160 zz, ia 2240 zz, ia 320 zz, za 2 zz, ia 144 zz, ia 144 zz, ia 144 zz, ia 144 zz, ia 144 zz]) ?_ rfl rfl rfl
  refine a_aload_n (pc := 100) ok dX7_init_100 rfl ?_
  refine a_sipush (pc := 101) ok dX7_init_101 (by decide) ?_
  refine a_newa (pc := 104) (t := 0) (n := 144) (x := .inl (arr fun _ => 0)) gk (Nat.le_of_ble_eq_true rfl) dX7_init_104 ac_int (fun _ => rfl) (fun _ => rfl) True.intro (fun _ => rfl) (by decide) rfl (by decide) ⟨by decide, by decide⟩ (by repeat' (first | exact True.intro | exact rfl | refine ⟨?_, ?_⟩)) rfl rfl ?_
  intro X hs gk
  replace hXl := hs.l.trans hXl
  replace hN := hs.n.trans hN
  replace hnm := hs.m.trans hnm
  have ok := gk.ok
  refine a_putfF (pc := 106) ok dX7_init_106 fpF7_44 hnm rfl rfl rfl (Nat.le_of_ble_eq_true rfl) ?_
  refine AW.cast (M2 := [ob 7 [iv 0, .ref 1, iv 0, .ref 2, .ref 3, .ref 4, iv 0, .ref 5, .ref 6, .ref 7, .ref 8, iv 0, .ref 9, .ref 10, .ref 11, .ref 12, .null, .null, .null, iv 0, iv 0, iv 0, iv 0, iv 0, iv 0], ia 120 zz, ia 160 zz, ia 160 zz, ia 2240 zz, ia 320 zz, za 2 zz, ia 144 zz, ia 144 zz, ia 144 zz, ia 144 zz, ia 144 zz, ia 144 zz]) ?_ rfl rfl rfl
  refine a_aload_n (pc := 109) ok dX7_init_109 rfl ?_
  refine a_sipush (pc := 110) ok dX7_init_110 (by decide) ?_
  refine a_newa (pc := 113) (t := 0) (n := 144) (x := .inl (arr fun _ => 0)) gk (Nat.le_of_ble_eq_true rfl) dX7_init_113 ac_int (fun _ => rfl) (fun _ => rfl) True.intro (fun _ => rfl) (by decide) rfl (by decide) ⟨by decide, by decide⟩ (by repeat' (first | exact True.intro | exact rfl | refine ⟨?_, ?_⟩)) rfl rfl ?_
  intro X hs gk
  replace hXl := hs.l.trans hXl
  replace hN := hs.n.trans hN
  replace hnm := hs.m.trans hnm
  have ok := gk.ok
  refine a_putfF (pc := 115) ok dX7_init_115 fpF7_47 hnm rfl rfl rfl (Nat.le_of_ble_eq_true rfl) ?_
  refine AW.cast (M2 := [ob 7 [iv 0, .ref 1, iv 0, .ref 2, .ref 3, .ref 4, iv 0, .ref 5, .ref 6, .ref 7, .ref 8, iv 0, .ref 9, .ref 10, .ref 11, .ref 12, .ref 13, .null, .null, iv 0, iv 0, iv 0, iv 0, iv 0, iv 0], ia 120 zz, ia 160 zz, ia 160 zz, ia 2240 zz, ia 320 zz, za 2 zz, ia 144 zz, ia 144 zz, ia 144 zz, ia 144 zz, ia 144 zz, ia 144 zz, ia 144 zz]) ?_ rfl rfl rfl
  refine a_aload_n (pc := 118) ok dX7_init_118 rfl ?_
  refine a_sipush (pc := 119) ok dX7_init_119 (by decide) ?_
  refine a_newa (pc := 122) (t := 0) (n := 144) (x := .inl (arr fun _ => 0)) gk (Nat.le_of_ble_eq_true rfl) dX7_init_122 ac_int (fun _ => rfl) (fun _ => rfl) True.intro (fun _ => rfl) (by decide) rfl (by decide) ⟨by decide, by decide⟩ (by repeat' (first | exact True.intro | exact rfl | refine ⟨?_, ?_⟩)) rfl rfl ?_
  intro X hs gk
  replace hXl := hs.l.trans hXl
  replace hN := hs.n.trans hN
  replace hnm := hs.m.trans hnm
  have ok := gk.ok
  refine a_putfF (pc := 124) ok dX7_init_124 fpF7_50 hnm rfl rfl rfl (Nat.le_of_ble_eq_true rfl) ?_
  refine AW.cast (M2 := [ob 7 [iv 0, .ref 1, iv 0, .ref 2, .ref 3, .ref 4, iv 0, .ref 5, .ref 6, .ref 7, .ref 8, iv 0, .ref 9, .ref 10, .ref 11, .ref 12, .ref 13, .ref 14, .null, iv 0, iv 0, iv 0, iv 0, iv 0, iv 0], ia 120 zz, ia 160 zz, ia 160 zz, ia 2240 zz, ia 320 zz, za 2 zz, ia 144 zz, ia 144 zz, ia 144 zz, ia 144 zz, ia 144 zz, ia 144 zz, ia 144 zz, ia 144 zz]) ?_ rfl rfl rfl
  refine a_aload_n (pc := 127) ok dX7_init_127 rfl ?_
  refine a_sipush (pc := 128) ok dX7_init_128 (by decide) ?_
  refine a_newa (pc := 131) (t := 0) (n := 144) (x := .inl (arr fun _ => 0)) gk (Nat.le_of_ble_eq_true rfl) dX7_init_131 ac_int (fun _ => rfl) (fun _ => rfl) True.intro (fun _ => rfl) (by decide) rfl (by decide) ⟨by decide, by decide⟩ (by repeat' (first | exact True.intro | exact rfl | refine ⟨?_, ?_⟩)) rfl rfl ?_
  intro X hs gk
  replace hXl := hs.l.trans hXl
  replace hN := hs.n.trans hN
  replace hnm := hs.m.trans hnm
  have ok := gk.ok
  refine a_putfF (pc := 133) ok dX7_init_133 fpF7_53 hnm rfl rfl rfl (Nat.le_of_ble_eq_true rfl) ?_
  subst hXl
  refine AW.cast (M2 := [ob 7 [iv 0, .ref 1, iv 0, .ref 2, .ref 3, .ref 4, iv 0, .ref 5, .ref 6, .ref 7, .ref 8, iv 0, .ref 9, .ref 10, .ref 11, .ref 12, .ref 13, .ref 14, .ref 15, iv 0, iv 0, iv 0, iv 0, iv 0, iv 0], ia 120 zz, ia 160 (rowOf 0 0 zz zz 0 0 zz 0), ia 160 (rowS Z00), ia 2240 zz, ia 320 zz, za 2 zz, ia 144 zz, ia 144 zz, ia 144 zz, ia 144 zz, ia 144 zz, ia 144 zz, ia 144 zz, ia 144 zz, ia 144 zz]) ?_ rfl rfl (by show ([ob 7 [iv 0, .ref 1, iv 0, .ref 2, .ref 3, .ref 4, iv 0, .ref 5, .ref 6, .ref 7, .ref 8, iv 0, .ref 9, .ref 10, .ref 11, .ref 12, .ref 13, .ref 14, .ref 15, iv 0, iv 0, iv 0, iv 0, iv 0, iv 0], ia 120 zz, ia 160 zz, ia 160 zz, ia 2240 zz, ia 320 zz, za 2 zz, ia 144 zz, ia 144 zz, ia 144 zz, ia 144 zz, ia 144 zz, ia 144 zz, ia 144 zz, ia 144 zz, ia 144 zz] : List va_E) = _; have e9 : rowOf 0 0 zz zz 0 0 zz 0 = zz := row_zz; first | rw [e9, row_zz] | rw [row_zz, e9] | rw [e9])
  refine a_aload_n (pc := 136) ok dX7_init_136 rfl ?_
  refine a_getf (pc := 137) ok dX7_init_137 fl7_13 rfl rfl ?_
  refine a_bipush (pc := 140) ok dX7_init_140 (by decide) ?_
  refine a_bipush (pc := 142) ok dX7_init_142 (by decide) ?_
  refine a_callSv (pc := 144) ok [2] dX7_init_144 mv7_56 miX7_clear (c_clear (n := 0)) ⟨by decide, by decide, rfl, rfl, by decide, by decide⟩ rfl rfl (Nat.le_of_ble_eq_true rfl) rfl (by decide) rfl ?_
  refine a_aload_n (pc := 147) ok dX7_init_147 rfl ?_
  refine a_getf (pc := 148) ok dX7_init_148 fl7_13 rfl rfl ?_
  refine a_callSv (pc := 151) ok [2] dX7_init_151 mv7_60 miX7_firstSettings (c_firstSettings) ⟨by decide, by decide, rfl, rfl, by decide, by decide⟩ rfl rfl (Nat.le_of_ble_eq_true rfl) rfl (by decide) rfl ?_
  exact a_vret (pc := 154) ok dX7_init_154 (⟨rfl, rfl⟩)
end CT4
