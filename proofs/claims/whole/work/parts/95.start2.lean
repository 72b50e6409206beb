set_option maxRecDepth 100000 in
theorem lawHead {X : Cx} {b L : Nat} {xs : Nat → Int32} (gk : GK X cL_law RL (some .boolean) room_1 (fun _ _ => False) 601024 7293034 0) (ex : EX X) (hN : nLof X = 7) (sc : SCR X b L xs) (hL : L ≤ 3072) (hl : X.1.2.1.stackTraces = false) (fin : FIN X) : AW X 0 0 0 [some (.ref 4095), none, none, none, none, none, none] [] [] := by
  have ok := gk.ok
  refine a_new (pc := 0) gk (Nat.le_of_ble_eq_true rfl) dL_law_0 nwL_8 ⟨by decide, by decide⟩ True.intro rfl rfl ?_
  intro X hs gk
  replace ex := EX_sm ex hs
  replace sc := SCR_sm sc hs
  replace fin := FIN_sm fin hs
  replace hN := hs.n.trans hN
  replace hl := (congrArg Launch.stackTraces hs.l).trans hl
  have ok := gk.ok
  refine a_dup (pc := 3) ok dL_law_3 rfl ?_
  refine a_callI (pc := 4) (M := []) gk (Nat.le_of_ble_eq_true rfl) dL_law_4 (Or.inl (ug1 20 (by decide +kernel) rfl)) rfl (ug1 21 (by decide +kernel) rfl) miX6_init (gX6) (Nat.le_of_ble_eq_true rfl) kN6 ⟨by decide, by decide, by decide, by decide⟩ True.intro rfl rfl rfl (Nat.le_of_ble_eq_true rfl) ?_
  intro X hs gk
  replace ex := EX_sm ex hs
  replace sc := SCR_sm sc hs
  replace fin := FIN_sm fin hs
  replace hN := hs.n.trans hN
  replace hl := (congrArg Launch.stackTraces hs.l).trans hl
  have ok := gk.ok
  refine AW.cast (M2 := N6) ?_ rfl rfl (by show ([] ++ N6.map (re (List.range' 0 103)) : List va_E) = _; rw [N6_re]; rfl)
  refine a_astore_n (pc := 7) ok dL_law_7 rfl (by rw [hN]; decide) ?_
  refine a_new (pc := 8) gk (Nat.le_of_ble_eq_true rfl) dL_law_8 nwL_112 ⟨by decide, by decide⟩ kN6 rfl rfl ?_
  intro X hs gk
  replace ex := EX_sm ex hs
  replace sc := SCR_sm sc hs
  replace fin := FIN_sm fin hs
  replace hN := hs.n.trans hN
  replace hl := (congrArg Launch.stackTraces hs.l).trans hl
  have ok := gk.ok
  refine a_dup (pc := 11) ok dL_law_11 rfl ?_
  refine a_callI (pc := 12) (M := N6) gk (Nat.le_of_ble_eq_true rfl) dL_law_12 (Or.inl (ug5 60 (by decide +kernel) rfl)) rfl (ug5 61 (by decide +kernel) rfl) miX7_init (gX7) (Nat.le_of_ble_eq_true rfl) kN7 ⟨by decide, by decide, by decide, by decide⟩ kN6 rfl rfl rfl (Nat.le_of_ble_eq_true rfl) ?_
  intro X hs gk
  replace ex := EX_sm ex hs
  replace sc := SCR_sm sc hs
  replace fin := FIN_sm fin hs
  replace hN := hs.n.trans hN
  replace hl := (congrArg Launch.stackTraces hs.l).trans hl
  have ok := gk.ok
  refine a_astore_n (pc := 15) ok dL_law_15 rfl (by rw [hN]; decide) ?_
  refine a_iconst (pc := 16) ok dL_law_16 ?_
  refine a_newa (pc := 17) (t := 2) (n := 1) (x := .inr (.inl (arrL fun _ => 0))) gk (Nat.le_of_ble_eq_true rfl) dL_law_17 ac_long (fun _ => rfl) (fun _ => rfl) True.intro (fun _ => rfl) (by decide) rfl (by decide) ⟨by decide, by decide⟩ (kcM_app (kcM_mono (by decide) kN6) (kcM_re kN7)) rfl rfl ?_
  intro X hs gk
  replace ex := EX_sm ex hs
  replace sc := SCR_sm sc hs
  replace fin := FIN_sm fin hs
  replace hN := hs.n.trans hN
  replace hl := (congrArg Launch.stackTraces hs.l).trans hl
  have ok := gk.ok
  refine AW.cast (M2 := (lwW (0) (0) (0) (zz) (S00) ((ringP 7)) (0) (0) ((fun _ => S00)) ((slotP 95)) (zz) (1) (1) (1) (0) (zz) (zz) (zz) (zz) (zz) (zz) (zz) (zz) (zz) (zz) (zz) (zz) (S00) (1) (1) (1) (0) (zz) (zz) (zz) (zz) (zz) (zz) (zz) (0) (0) (0) ((-1)) (zz) (S00) (S00) (0) (S00) (Z00) (0) (zz) (zz) (0) (zz) (zz) (zz) (zz) (zz) (zz) (zz) (zz) (zz) (zz) (0) (0) (0) (0) (0) (0) (zz))) ?_ rfl rfl rfl
  refine a_astore_n (pc := 19) ok dL_law_19 rfl (by rw [hN]; decide) ?_
  refine a_iconst (pc := 20) ok dL_law_20 ?_
  refine a_istore (pc := 21) ok dL_law_21 rfl (by rw [hN]; decide) ?_
  exact lawLoop ok ex hN sc hL hl fin 512 0 (by omega) (by omega) _ INV_0
