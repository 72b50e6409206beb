/-! THE LAW: what holds on each plate: all of it. Printed by wip/p37/gen/mkhold.py. -/
section HO8
variable {A : Ob}
theorem hold_e {X : Cx} (hl : X.1.2.1.stackTraces = false) (hN : nLof X = 21) (gk : GK X cL_holds RL (some .boolean) rgL_holds (po1 1 A) rgL_holds.cells rgL_holds.slots 108) (ex : EX X) (hA : VA A) (hB : VB A) {f7 f8 f9 f10 f11 : Int → Int} (hI : hIN A (sC (jS A) * sR (jS A)).toNat f7 f8 f9 f10) {M : List va_E} (hW : WO A M) (a19 : Option Value) : AW X 1200 9000 688 [some (.ref 0), some (iv (sC (jS A))), some (iv (sR (jS A))), some (iv (sN (jS A) : Int)), some (iv (sE (jS A))), some (iv (mS (jS A))), some (iv (sC (jS A) * sR (jS A))), some (.ref 103), some (.ref 104), some (.ref 105), some (.ref 106), some (.ref 107), some (iv (cntK (fun j => decide (bS (jS A) j ≠ (bnd (sT (jS A)) (sN (jS A)) (sG (jS A))) j)) (sC (jS A) * sR (jS A)).toNat)), some (iv (sumK (sG (jS A)) (sC (jS A) * sR (jS A)).toNat)), some (iv 1), some (iv (rk (sC (jS A)) (sR (jS A)) (bS (jS A)) ((sC (jS A) * sR (jS A))))), some (iv (sumK (s2 (sC (jS A)) (sR (jS A)) (bS (jS A))) (sC (jS A) * sR (jS A)).toNat)), some (iv (w32 (sI (jS A) * (sumK (s2 (sC (jS A)) (sR (jS A)) (bS (jS A))) (sC (jS A) * sR (jS A)).toNat) + sumK (fun u => cntK (fun j => decide ((bS (jS A)) j = u)) (sC (jS A) * sR (jS A)).toNat * sH (jS A) u) (sN (jS A) + 1)))), some (iv ((sN (jS A) + 1 : Nat) : Int)), a19, none] [] (M ++ [ia 64 f7, ia 64 f8, ia 64 f9, ia 6 f10, ia 5 f11]) := by
  have ok := gk.ok
  obtain ⟨g1, g2, g3, g4, g5, g6⟩ := H_facts hA hB
  refine a_iconst (pc := 688) ok dL_holds_688 ?_
  refine a_istore (pc := 689) ok dL_holds_689 rfl (by rw [hN]; decide) ?_
  refine hold5 hl hN gk ex hA hB hI.2.1 hW a19 ?_ (mS (jS A)).toNat 0 (by omega)
  exact hold6 hl hN gk ex hA hB hI.2.1 hW a19
theorem hold_d {X : Cx} (hl : X.1.2.1.stackTraces = false) (hN : nLof X = 21) (gk : GK X cL_holds RL (some .boolean) rgL_holds (po1 1 A) rgL_holds.cells rgL_holds.slots 108) (ex : EX X) (hA : VA A) (hB : VB A) {f7 f8 f9 f10 f11 : Int → Int} (hI : hIN A (sC (jS A) * sR (jS A)).toNat f7 f8 f9 f10) {M : List va_E} (hW : WO A M) (a18 a19 : Option Value) : AW X 1000 8000 608 [some (.ref 0), some (iv (sC (jS A))), some (iv (sR (jS A))), some (iv (sN (jS A) : Int)), some (iv (sE (jS A))), some (iv (mS (jS A))), some (iv (sC (jS A) * sR (jS A))), some (.ref 103), some (.ref 104), some (.ref 105), some (.ref 106), some (.ref 107), some (iv (cntK (fun j => decide (bS (jS A) j ≠ (bnd (sT (jS A)) (sN (jS A)) (sG (jS A))) j)) (sC (jS A) * sR (jS A)).toNat)), some (iv (sumK (sG (jS A)) (sC (jS A) * sR (jS A)).toNat)), some (iv 1), some (iv (rk (sC (jS A)) (sR (jS A)) (bS (jS A)) ((sC (jS A) * sR (jS A))))), some (iv (sumK (s2 (sC (jS A)) (sR (jS A)) (bS (jS A))) (sC (jS A) * sR (jS A)).toNat)), some (iv (sC (jS A) * sR (jS A))), a18, a19, none] [] (M ++ [ia 64 f7, ia 64 f8, ia 64 f9, ia 6 f10, ia 5 f11]) := by
  have ok := gk.ok
  obtain ⟨g1, g2, g3, g4, g5, g6⟩ := H_facts hA hB
  have h9 := hB.1.2.2.1
  have y9 : w32 (aAbout (jS A) 9) = sI (jS A) := w_id (z := sI (jS A)) (by unfold rg; omega)
  refine a_aload_n (pc := 608) ok dL_holds_608 rfl ?_
  refine a_iconst (pc := 609) ok dL_holds_609 ?_
  refine a_bipush (pc := 610) ok dL_holds_610 (by decide) ?_
  refine a_iconst (pc := 612) ok dL_holds_612 ?_
  refine a_iconst (pc := 613) ok dL_holds_613 ?_
  refine v_h (pc := 614) ok ex gk.1 dL_holds_614 (ug2 16 (by decide +kernel) rfl) (ug2 17 (by decide +kernel) rfl) miL_call hW (ctv_eq y9 (ABg hl hA hW (k := 9) (u2 := 0) (u3 := 0) (by omega))) ⟨by decide, by decide⟩ ⟨Nat.le_of_ble_eq_true rfl, Nat.le_of_ble_eq_true rfl⟩ rfl rfl (Nat.le_of_ble_eq_true rfl) ?_
  intro M hW
  refine a_iload (pc := 617) ok dL_holds_617 rfl ?_
  refine a_imul (pc := 619) ok dL_holds_619 ?_
  refine a_istore (pc := 620) ok dL_holds_620 rfl (by rw [hN]; decide) ?_
  refine a_iconst (pc := 622) ok dL_holds_622 ?_
  refine a_istore (pc := 623) ok dL_holds_623 rfl (by rw [hN]; decide) ?_
  refine AW.widen (kc2 := 1100) (ks2 := 8100) (Nat.le_of_ble_eq_true rfl) (Nat.le_of_ble_eq_true rfl) ?_
  refine AW.cast (hold4 hl hN gk ex hA hB (sd := (sumK (s2 (sC (jS A)) (sR (jS A)) (bS (jS A))) (sC (jS A) * sR (jS A)).toNat)) hI.2.2 (fun M a19 hW => hold_e hl hN gk ex hA hB hI hW a19) (sN (jS A) + 1) 0 (by omega) M a19 hW) ?_ rfl rfl
  rw [show sI (jS A) * (sumK (s2 (sC (jS A)) (sR (jS A)) (bS (jS A))) (sC (jS A) * sR (jS A)).toNat) + sumK (fun u => cntK (fun j => decide ((bS (jS A)) j = u)) (sC (jS A) * sR (jS A)).toNat * sH (jS A) u) 0 = sI (jS A) * (sumK (s2 (sC (jS A)) (sR (jS A)) (bS (jS A))) (sC (jS A) * sR (jS A)).toNat) from Int.add_zero _] <;> rfl
theorem hold_c {X : Cx} (hl : X.1.2.1.stackTraces = false) (hN : nLof X = 21) (gk : GK X cL_holds RL (some .boolean) rgL_holds (po1 1 A) rgL_holds.cells rgL_holds.slots 108) (ex : EX X) (hA : VA A) (hB : VB A) {f7 f8 f9 f10 f11 : Int → Int} (hI : hIN A (sC (jS A) * sR (jS A)).toNat f7 f8 f9 f10) {M : List va_E} (hW : WO A M) (a17 a18 a19 : Option Value) : AW X 1000 8000 446 [some (.ref 0), some (iv (sC (jS A))), some (iv (sR (jS A))), some (iv (sN (jS A) : Int)), some (iv (sE (jS A))), some (iv (mS (jS A))), some (iv (sC (jS A) * sR (jS A))), some (.ref 103), some (.ref 104), some (.ref 105), some (.ref 106), some (.ref 107), some (iv (cntK (fun j => decide (bS (jS A) j ≠ (bnd (sT (jS A)) (sN (jS A)) (sG (jS A))) j)) (sC (jS A) * sR (jS A)).toNat)), some (iv (sumK (sG (jS A)) (sC (jS A) * sR (jS A)).toNat)), some (iv 1), some (iv (rk (sC (jS A)) (sR (jS A)) (bS (jS A)) ((sC (jS A) * sR (jS A))))), some (iv (sC (jS A) * sR (jS A))), a17, a18, a19, none] [] (M ++ [ia 64 f7, ia 64 f8, ia 64 f9, ia 6 f10, ia 5 f11]) := by
  have ok := gk.ok
  obtain ⟨g1, g2, g3, g4, g5, g6⟩ := H_facts hA hB
  refine a_iconst (pc := 446) ok dL_holds_446 ?_
  refine a_istore (pc := 447) ok dL_holds_447 rfl (by rw [hN]; decide) ?_
  refine a_iconst (pc := 449) ok dL_holds_449 ?_
  refine a_istore (pc := 450) ok dL_holds_450 rfl (by rw [hN]; decide) ?_
  exact hold3 hl hN gk ex hA hB f9 f10 f11 (fun j h1 h2 => hI.1 j h1 (by omega)) (fun M a18 a19 hW => hold_d hl hN gk ex hA hB hI hW a18 a19) hW (sC (jS A) * sR (jS A)).toNat 0 (by omega) a18 a19
theorem hIN_0 {A : Ob} : hIN A 0 (fun _ => 0) (fun _ => 0) (fun _ => 0) (fun _ => 0) := ⟨fun j h1 h2 => by omega, fun _ => rfl, fun _ => rfl⟩
theorem hold_b {X : Cx} (hl : X.1.2.1.stackTraces = false) (hN : nLof X = 21) (gk : GK X cL_holds RL (some .boolean) rgL_holds (po1 1 A) rgL_holds.cells rgL_holds.slots 108) (ex : EX X) (hA : VA A) (hB : VB A) {f11 : Int → Int} (hf : ∀ j : Int, 0 ≤ j → j < (sN (jS A) : Int) → f11 j = sT (jS A) j) {M : List va_E} (hW : WO A M) : AW X 100 1000 190 [some (.ref 0), some (iv (sC (jS A))), some (iv (sR (jS A))), some (iv (sN (jS A) : Int)), some (iv (sE (jS A))), some (iv (mS (jS A))), some (iv (sC (jS A) * sR (jS A))), some (.ref 103), some (.ref 104), some (.ref 105), some (.ref 106), some (.ref 107), some (iv (0)), some (iv (0)), some (iv (1)), some (iv ((sN (jS A) : Int))), none, none, none, none, none] [] (M ++ [ia 64 (fun _ => 0), ia 64 (fun _ => 0), ia 64 (fun _ => 0), ia 6 (fun _ => 0), ia 5 f11]) := by
  have ok := gk.ok
  obtain ⟨g1, g2, g3, g4, g5, g6⟩ := H_facts hA hB
  refine a_iconst (pc := 190) ok dL_holds_190 ?_
  refine a_istore (pc := 191) ok dL_holds_191 rfl (by rw [hN]; decide) ?_
  refine a_iconst (pc := 193) ok dL_holds_193 ?_
  refine a_istore (pc := 194) ok dL_holds_194 rfl (by rw [hN]; decide) ?_
  refine AW.widen (kc2 := 120) (ks2 := 1200) (Nat.le_of_ble_eq_true rfl) (Nat.le_of_ble_eq_true rfl) ?_
  exact hold2 hl hN gk ex hA hB f11 hf (fun M f7 f8 f9 f10 a17 a18 a19 hW hI => hold_c hl hN gk ex hA hB hI hW a17 a18 a19) (sC (jS A) * sR (jS A)).toNat 0 (by omega) M (fun _ => 0) (fun _ => 0) (fun _ => 0) (fun _ => 0) none none none hW hIN_0
theorem hL_1 {M : List va_E} (hW : WO A M) : (M ++ [ia 64 (fun _ => 0)]).length = 104 := by rw [List.length_append, WO_len hW]; rfl
theorem hK_1 {M : List va_E} (hW : WO A M) : kcM 104 (M ++ [ia 64 (fun _ => 0)]) := kcM_app (kcM_mono (by decide) (WO_kc hW)) (by repeat' (first | exact True.intro | refine ⟨?_, ?_⟩))
theorem hL_2 {M : List va_E} (hW : WO A M) : (M ++ [ia 64 (fun _ => 0), ia 64 (fun _ => 0)]).length = 105 := by rw [List.length_append, WO_len hW]; rfl
theorem hK_2 {M : List va_E} (hW : WO A M) : kcM 105 (M ++ [ia 64 (fun _ => 0), ia 64 (fun _ => 0)]) := kcM_app (kcM_mono (by decide) (WO_kc hW)) (by repeat' (first | exact True.intro | refine ⟨?_, ?_⟩))
theorem hL_3 {M : List va_E} (hW : WO A M) : (M ++ [ia 64 (fun _ => 0), ia 64 (fun _ => 0), ia 64 (fun _ => 0)]).length = 106 := by rw [List.length_append, WO_len hW]; rfl
theorem hK_3 {M : List va_E} (hW : WO A M) : kcM 106 (M ++ [ia 64 (fun _ => 0), ia 64 (fun _ => 0), ia 64 (fun _ => 0)]) := kcM_app (kcM_mono (by decide) (WO_kc hW)) (by repeat' (first | exact True.intro | refine ⟨?_, ?_⟩))
theorem hL_4 {M : List va_E} (hW : WO A M) : (M ++ [ia 64 (fun _ => 0), ia 64 (fun _ => 0), ia 64 (fun _ => 0), ia 6 (fun _ => 0)]).length = 107 := by rw [List.length_append, WO_len hW]; rfl
theorem hK_4 {M : List va_E} (hW : WO A M) : kcM 107 (M ++ [ia 64 (fun _ => 0), ia 64 (fun _ => 0), ia 64 (fun _ => 0), ia 6 (fun _ => 0)]) := kcM_app (kcM_mono (by decide) (WO_kc hW)) (by repeat' (first | exact True.intro | refine ⟨?_, ?_⟩))
set_option maxHeartbeats 4000000 in
theorem H_holds {l : Launch} (hl : l.stackTraces = false) (hA : VA A) (hB : VB A) {M : List va_E} (hW : WO A M) : CtV l yL_holds cL_holds 21 (some .boolean) rgL_holds [.ref 0] M (po1 1 A) := by
  obtain ⟨g1, g2, g3, g4, g5, g6⟩ := H_facts hA hB
  refine CtV.of hl miL_holds (Nat.le_of_ble_eq_true rfl) (po1_cl hW) ?_
  intro X hXl hN gk ex
  subst hXl
  have ok := gk.ok
  refine AW.cast (L2 := [some (.ref 0), none, none, none, none, none, none, none, none, none, none, none, none, none, none, none, none, none, none, none, none]) ?_ rfl rfl rfl
  rw [WO_len hW] at gk
  refine a_aload_n (pc := 0) ok dL_holds_0 rfl ?_
  refine a_iconst (pc := 1) ok dL_holds_1 ?_
  refine a_iconst (pc := 2) ok dL_holds_2 ?_
  refine a_iconst (pc := 3) ok dL_holds_3 ?_
  refine a_iconst (pc := 4) ok dL_holds_4 ?_
  refine v_o (pc := 5) ok ex gk.1 dL_holds_5 (ug2 16 (by decide +kernel) rfl) (ug2 17 (by decide +kernel) rfl) miL_call hW (AB0 hl hA hW (u2 := 0) (u3 := 0)) ⟨by decide, by decide⟩ ⟨Nat.le_of_ble_eq_true rfl, Nat.le_of_ble_eq_true rfl⟩ rfl rfl (Nat.le_of_ble_eq_true rfl) ?_
  intro M hW
  refine a_istore_n (pc := 8) ok dL_holds_8 rfl (by rw [hN]; decide) ?_
  refine a_aload_n (pc := 9) ok dL_holds_9 rfl ?_
  refine a_iconst (pc := 10) ok dL_holds_10 ?_
  refine a_iconst (pc := 11) ok dL_holds_11 ?_
  refine a_iconst (pc := 12) ok dL_holds_12 ?_
  refine a_iconst (pc := 13) ok dL_holds_13 ?_
  refine v_o (pc := 14) ok ex gk.1 dL_holds_14 (ug2 16 (by decide +kernel) rfl) (ug2 17 (by decide +kernel) rfl) miL_call hW (AB1 hl hA hW (u2 := 0) (u3 := 0)) ⟨by decide, by decide⟩ ⟨Nat.le_of_ble_eq_true rfl, Nat.le_of_ble_eq_true rfl⟩ rfl rfl (Nat.le_of_ble_eq_true rfl) ?_
  intro M hW
  refine a_istore_n (pc := 17) ok dL_holds_17 rfl (by rw [hN]; decide) ?_
  refine a_aload_n (pc := 18) ok dL_holds_18 rfl ?_
  refine a_iconst (pc := 19) ok dL_holds_19 ?_
  refine a_iconst (pc := 20) ok dL_holds_20 ?_
  refine a_iconst (pc := 21) ok dL_holds_21 ?_
  refine a_iconst (pc := 22) ok dL_holds_22 ?_
  refine v_o (pc := 23) ok ex gk.1 dL_holds_23 (ug2 16 (by decide +kernel) rfl) (ug2 17 (by decide +kernel) rfl) miL_call hW (AB2 hl hA hW (u2 := 0) (u3 := 0)) ⟨by decide, by decide⟩ ⟨Nat.le_of_ble_eq_true rfl, Nat.le_of_ble_eq_true rfl⟩ rfl rfl (Nat.le_of_ble_eq_true rfl) ?_
  intro M hW
  refine a_istore_n (pc := 26) ok dL_holds_26 rfl (by rw [hN]; decide) ?_
  refine a_aload_n (pc := 27) ok dL_holds_27 rfl ?_
  refine a_iconst (pc := 28) ok dL_holds_28 ?_
  refine a_iconst (pc := 29) ok dL_holds_29 ?_
  refine a_iconst (pc := 30) ok dL_holds_30 ?_
  refine a_iconst (pc := 31) ok dL_holds_31 ?_
  refine v_o (pc := 32) ok ex gk.1 dL_holds_32 (ug2 16 (by decide +kernel) rfl) (ug2 17 (by decide +kernel) rfl) miL_call hW (AB3 hl hA hW (u2 := 0) (u3 := 0)) ⟨by decide, by decide⟩ ⟨Nat.le_of_ble_eq_true rfl, Nat.le_of_ble_eq_true rfl⟩ rfl rfl (Nat.le_of_ble_eq_true rfl) ?_
  intro M hW
  refine a_istore (pc := 35) ok dL_holds_35 rfl (by rw [hN]; decide) ?_
  refine a_aload_n (pc := 37) ok dL_holds_37 rfl ?_
  refine a_iconst (pc := 38) ok dL_holds_38 ?_
  refine a_iconst (pc := 39) ok dL_holds_39 ?_
  refine a_iconst (pc := 40) ok dL_holds_40 ?_
  refine a_iconst (pc := 41) ok dL_holds_41 ?_
  refine v_o (pc := 42) ok ex gk.1 dL_holds_42 (ug2 16 (by decide +kernel) rfl) (ug2 17 (by decide +kernel) rfl) miL_call hW (AB4 hl hA hW (u2 := 0) (u3 := 0)) ⟨by decide, by decide⟩ ⟨Nat.le_of_ble_eq_true rfl, Nat.le_of_ble_eq_true rfl⟩ rfl rfl (Nat.le_of_ble_eq_true rfl) ?_
  intro M hW
  refine a_istore (pc := 45) ok dL_holds_45 rfl (by rw [hN]; decide) ?_
  refine a_iload_n (pc := 47) ok dL_holds_47 rfl ?_
  refine a_iload_n (pc := 48) ok dL_holds_48 rfl ?_
  refine a_imul (pc := 49) ok dL_holds_49 ?_
  refine a_istore (pc := 50) ok dL_holds_50 rfl (by rw [hN]; decide) ?_
  refine a_bipush (pc := 52) ok dL_holds_52 (by decide) ?_
  refine a_newi (pc := 54) (m := 103) (n := 64) (WO_len hW) gk (Nat.le_of_ble_eq_true rfl) dL_holds_54 (by decide) rfl (by decide) ⟨Nat.le_of_ble_eq_true rfl, Nat.le_of_ble_eq_true rfl⟩ (WO_kc hW) rfl rfl ?_
  intro X hs gk
  replace ex := EX_sm ex hs
  replace hN := hs.n.trans hN
  replace hl := (congrArg Launch.stackTraces hs.l).trans hl
  have ok := gk.ok
  refine a_astore (pc := 56) ok dL_holds_56 rfl (by rw [hN]; decide) ?_
  refine a_bipush (pc := 58) ok dL_holds_58 (by decide) ?_
  refine a_newi (pc := 60) (m := 104) (n := 64) (hL_1 hW) gk (Nat.le_of_ble_eq_true rfl) dL_holds_60 (by decide) rfl (by decide) ⟨Nat.le_of_ble_eq_true rfl, Nat.le_of_ble_eq_true rfl⟩ (hK_1 hW) rfl rfl ?_
  intro X hs gk
  replace ex := EX_sm ex hs
  replace hN := hs.n.trans hN
  replace hl := (congrArg Launch.stackTraces hs.l).trans hl
  have ok := gk.ok
  refine AW.cast (M2 := M ++ [ia 64 (fun _ => 0), ia 64 (fun _ => 0)]) ?_ rfl rfl (List.append_assoc _ _ _)
  refine a_astore (pc := 62) ok dL_holds_62 rfl (by rw [hN]; decide) ?_
  refine a_bipush (pc := 64) ok dL_holds_64 (by decide) ?_
  refine a_newi (pc := 66) (m := 105) (n := 64) (hL_2 hW) gk (Nat.le_of_ble_eq_true rfl) dL_holds_66 (by decide) rfl (by decide) ⟨Nat.le_of_ble_eq_true rfl, Nat.le_of_ble_eq_true rfl⟩ (hK_2 hW) rfl rfl ?_
  intro X hs gk
  replace ex := EX_sm ex hs
  replace hN := hs.n.trans hN
  replace hl := (congrArg Launch.stackTraces hs.l).trans hl
  have ok := gk.ok
  refine AW.cast (M2 := M ++ [ia 64 (fun _ => 0), ia 64 (fun _ => 0), ia 64 (fun _ => 0)]) ?_ rfl rfl (List.append_assoc _ _ _)
  refine a_astore (pc := 68) ok dL_holds_68 rfl (by rw [hN]; decide) ?_
  refine a_bipush (pc := 70) ok dL_holds_70 (by decide) ?_
  refine a_newi (pc := 72) (m := 106) (n := 6) (hL_3 hW) gk (Nat.le_of_ble_eq_true rfl) dL_holds_72 (by decide) rfl (by decide) ⟨Nat.le_of_ble_eq_true rfl, Nat.le_of_ble_eq_true rfl⟩ (hK_3 hW) rfl rfl ?_
  intro X hs gk
  replace ex := EX_sm ex hs
  replace hN := hs.n.trans hN
  replace hl := (congrArg Launch.stackTraces hs.l).trans hl
  have ok := gk.ok
  refine AW.cast (M2 := M ++ [ia 64 (fun _ => 0), ia 64 (fun _ => 0), ia 64 (fun _ => 0), ia 6 (fun _ => 0)]) ?_ rfl rfl (List.append_assoc _ _ _)
  refine a_astore (pc := 74) ok dL_holds_74 rfl (by rw [hN]; decide) ?_
  refine a_iconst (pc := 76) ok dL_holds_76 ?_
  refine a_newi (pc := 77) (m := 107) (n := 5) (hL_4 hW) gk (Nat.le_of_ble_eq_true rfl) dL_holds_77 (by decide) rfl (by decide) ⟨Nat.le_of_ble_eq_true rfl, Nat.le_of_ble_eq_true rfl⟩ (hK_4 hW) rfl rfl ?_
  intro X hs gk
  replace ex := EX_sm ex hs
  replace hN := hs.n.trans hN
  replace hl := (congrArg Launch.stackTraces hs.l).trans hl
  have ok := gk.ok
  refine AW.cast (M2 := M ++ [ia 64 (fun _ => 0), ia 64 (fun _ => 0), ia 64 (fun _ => 0), ia 6 (fun _ => 0), ia 5 (fun _ => 0)]) ?_ rfl rfl (List.append_assoc _ _ _)
  refine a_astore (pc := 79) ok dL_holds_79 rfl (by rw [hN]; decide) ?_
  refine a_iconst (pc := 81) ok dL_holds_81 ?_
  refine a_istore (pc := 82) ok dL_holds_82 rfl (by rw [hN]; decide) ?_
  refine a_iconst (pc := 84) ok dL_holds_84 ?_
  refine a_istore (pc := 85) ok dL_holds_85 rfl (by rw [hN]; decide) ?_
  refine a_iload_n (pc := 87) ok dL_holds_87 rfl ?_
  refine a_if_lt (pc := 88) (tgt := 112) ok dL_holds_88 (by decide) (by first | exact rg_w _ | exact rg_tw (by unfold rg; omega) (by unfold rg; omega) | (unfold rg; omega) | omega | assumption | exact bz_rg _) (fun c88 => ?_) (fun c88 => ?_)
  · exfalso; first | omega | grind
  · refine a_iload_n (pc := 91) ok dL_holds_91 rfl ?_
    refine a_iconst (pc := 92) ok dL_holds_92 ?_
    refine a_icmp_gt (pc := 93) (tgt := 112) ok dL_holds_93 (by decide) (by first | exact rg_w _ | exact rg_tw (by unfold rg; omega) (by unfold rg; omega) | (unfold rg; omega) | omega | assumption | exact bz_rg _) (by first | exact rg_w _ | exact rg_tw (by unfold rg; omega) (by unfold rg; omega) | (unfold rg; omega) | omega | assumption | exact bz_rg _) (fun c93 => ?_) (fun c93 => ?_)
    · exfalso; first | omega | grind
    · refine a_iload (pc := 96) ok dL_holds_96 rfl ?_
      refine a_if_le (pc := 98) (tgt := 112) ok dL_holds_98 (by decide) (by first | exact rg_w _ | exact rg_tw (by unfold rg; omega) (by unfold rg; omega) | (unfold rg; omega) | omega | assumption | exact bz_rg _) (fun c98 => ?_) (fun c98 => ?_)
      · exfalso; first | omega | grind
      · refine a_iload (pc := 101) ok dL_holds_101 rfl ?_
        refine a_iload (pc := 103) ok dL_holds_103 rfl ?_
        refine a_icmp_gt (pc := 105) (tgt := 112) ok dL_holds_105 (by decide) (by first | exact rg_w _ | exact rg_tw (by unfold rg; omega) (by unfold rg; omega) | (unfold rg; omega) | omega | assumption | exact bz_rg _) (by first | exact rg_w _ | exact rg_tw (by unfold rg; omega) (by unfold rg; omega) | (unfold rg; omega) | omega | assumption | exact bz_rg _) (fun c105 => ?_) (fun c105 => ?_)
        · exfalso; first | omega | grind
        · refine a_iconst (pc := 108) ok dL_holds_108 ?_
          refine a_goto (pc := 109) (tgt := 113) ok dL_holds_109 (by decide) ?_
          refine a_istore (pc := 113) ok dL_holds_113 rfl (by rw [hN]; decide) ?_
          refine a_iconst (pc := 115) ok dL_holds_115 ?_
          refine a_istore (pc := 116) ok dL_holds_116 rfl (by rw [hN]; decide) ?_
          refine AW.widen (kc2 := 20) (ks2 := 300) (Nat.le_of_ble_eq_true rfl) (Nat.le_of_ble_eq_true rfl) ?_
          exact hold1 hl hN gk ex hA hB _ _ _ _ (fun M f11 hW hf => hold_b hl hN gk ex hA hB hf hW) (sN (jS A)) 0 (by omega) M _ hW (fun j h1 h2 => by omega)
end HO8
