/-! THE LAW: its head. Printed by wip/p37/gen/mkend.py. -/
set_option maxRecDepth 100000 in
theorem lawHead {X : Cx} {b L : Nat} {xs : Nat → Int32} (gk : GK X cL_law RL (some .boolean) room_1 (fun _ _ => False) 600086 7301442 0) (ex : EX X) (hN : nLof X = 8) (sc : SCR X b L xs) (hL : L ≤ 3072) (hl : X.1.2.1.stackTraces = false) (fin : FIN X) : AW X 0 0 0 [some (.ref 4095), none, none, none, none, none, none, none] [] [] := by
  have ok := gk.ok
  have hx := cx_rg L xs 0
  refine a_new (pc := 0) gk (Nat.le_of_ble_eq_true rfl) dL_law_0 nwL_8 ⟨by decide, by decide⟩ True.intro rfl rfl ?_
  intro X hs gk
  replace ex := EX_sm ex hs
  replace sc := SCR_sm sc hs
  replace fin := FIN_sm fin hs
  replace hN := hs.n.trans hN
  replace hl := (congrArg Launch.stackTraces hs.l).trans hl
  have ok := gk.ok
  refine a_dup (pc := 3) ok dL_law_3 rfl ?_
  refine a_callI (pc := 4) (M := []) gk (Nat.le_of_ble_eq_true rfl) dL_law_4 (Or.inl (ug1 19 (by decide +kernel) rfl)) rfl (ug1 20 (by decide +kernel) rfl) miX6_init (gX6) (Nat.le_of_ble_eq_true rfl) kN6 ⟨by decide, by decide, by decide, by decide⟩ True.intro rfl rfl rfl (Nat.le_of_ble_eq_true rfl) ?_
  intro X hs gk
  replace ex := EX_sm ex hs
  replace sc := SCR_sm sc hs
  replace fin := FIN_sm fin hs
  replace hN := hs.n.trans hN
  replace hl := (congrArg Launch.stackTraces hs.l).trans hl
  have ok := gk.ok
  refine AW.cast (M2 := N6) ?_ rfl rfl (by show ([] ++ N6.map (re (List.range' 0 103)) : List va_E) = _; rw [N6_re]; rfl)
  refine a_astore_n (pc := 7) ok dL_law_7 rfl (by rw [hN]; decide) ?_
  refine a_new (pc := 8) gk (Nat.le_of_ble_eq_true rfl) dL_law_8 nwL_8 ⟨by decide, by decide⟩ kN6 rfl rfl ?_
  intro X hs gk
  replace ex := EX_sm ex hs
  replace sc := SCR_sm sc hs
  replace fin := FIN_sm fin hs
  replace hN := hs.n.trans hN
  replace hl := (congrArg Launch.stackTraces hs.l).trans hl
  have ok := gk.ok
  refine a_dup (pc := 11) ok dL_law_11 rfl ?_
  refine a_callI (pc := 12) (M := N6) gk (Nat.le_of_ble_eq_true rfl) dL_law_12 (Or.inl (ug1 19 (by decide +kernel) rfl)) rfl (ug1 20 (by decide +kernel) rfl) miX6_init (gX6) (Nat.le_of_ble_eq_true rfl) kN6 ⟨by decide, by decide, by decide, by decide⟩ kN6 rfl rfl rfl (Nat.le_of_ble_eq_true rfl) ?_
  intro X hs gk
  replace ex := EX_sm ex hs
  replace sc := SCR_sm sc hs
  replace fin := FIN_sm fin hs
  replace hN := hs.n.trans hN
  replace hl := (congrArg Launch.stackTraces hs.l).trans hl
  have ok := gk.ok
  refine AW.cast (M2 := W2 103 N6 N6) ?_ rfl rfl rfl
  refine a_astore_n (pc := 15) ok dL_law_15 rfl (by rw [hN]; decide) ?_
  refine a_bipush (pc := 16) ok dL_law_16 (by decide) ?_
  refine a_aload_n (pc := 18) ok dL_law_18 rfl ?_
  refine a_iconst (pc := 19) ok dL_law_19 ?_
  refine v_cell (pc := 20) ok ex gk.1 dL_law_20 (ug2 8 (by decide +kernel) rfl) (ug2 9 (by decide +kernel) rfl) miL_cell sc (C_cell hl hL (by omega)) ⟨by decide, by decide⟩ ⟨Nat.le_of_ble_eq_true rfl, Nat.le_of_ble_eq_true rfl⟩ rfl rfl (Nat.le_of_ble_eq_true rfl) ?_
  skip
  refine a_bipush (pc := 23) ok dL_law_23 (by decide) ?_
  refine a_irem (pc := 25) ok dL_law_25 (by omega) (by omega) ?_
  refine a_iadd (pc := 26) ok dL_law_26 ?_
  refine a_istore_n (pc := 27) ok dL_law_27 rfl (by rw [hN]; decide) ?_
  refine a_iconst (pc := 28) ok dL_law_28 ?_
  refine a_istore (pc := 29) ok dL_law_29 rfl (by rw [hN]; decide) ?_
  refine a_iconst (pc := 31) ok dL_law_31 ?_
  refine a_istore (pc := 32) ok dL_law_32 rfl (by rw [hN]; decide) ?_
  refine AW.widen (kc2 := 300 + 5300 * 0) (ks2 := 30000 + 42000 * 0) (Nat.le_of_ble_eq_true rfl) (Nat.le_of_ble_eq_true rfl) ?_
  exact lawLoop gk ex hN hl sc hL fin (t := 6 + cx L xs 0 % 9) (by omega) (6 + cx L xs 0 % 9).toNat 0 (by omega) O00 N6 N6 none none VA00 VB00 WO00 WO00
