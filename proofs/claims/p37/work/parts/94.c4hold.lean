/-! THE LAW: what holds on each plate: sides, pairs. Printed by wip/p37/gen/mkhold.py. -/
section HO4
variable {A : Ob}
theorem hold3 {X : Cx} (hl : X.1.2.1.stackTraces = false) (hN : nLof X = 21) (gk : GK X cL_holds RL (some .boolean) rgL_holds (po1 1 A) rgL_holds.cells rgL_holds.slots 108) (ex : EX X) (hA : VA A) (hB : VB A) (f9 f10 f11 : Int → Int) {ot su nx : Int} {f7 f8 : Int → Int} (hf : ∀ j : Int, 0 ≤ j → j < (sC (jS A) * sR (jS A)) → f7 j = (bS (jS A)) j ∧ f8 j = (own (sC (jS A)) (sR (jS A)) (bS (jS A))) j) (K : ∀ (M : List va_E) (a18 a19 : Option Value), WO A M → AW X 1000 8000 608 [some (.ref 0), some (iv (sC (jS A))), some (iv (sR (jS A))), some (iv (sN (jS A) : Int)), some (iv (sE (jS A))), some (iv (mS (jS A))), some (iv (sC (jS A) * sR (jS A))), some (.ref 103), some (.ref 104), some (.ref 105), some (.ref 106), some (.ref 107), some (iv ot), some (iv su), some (iv 1), some (iv nx), some (iv (sumK (s2 (sC (jS A)) (sR (jS A)) (bS (jS A))) (sC (jS A) * sR (jS A)).toNat)), some (iv (sC (jS A) * sR (jS A))), a18, a19, none] [] (M ++ [ia 64 f7, ia 64 f8, ia 64 f9, ia 6 f10, ia 5 f11])) {M : List va_E} (hW : WO A M) :
    ∀ d k : Nat, (k : Int) + d = (sC (jS A) * sR (jS A)) → ∀ (a18 a19 : Option Value), AW X 1000 8000 452 [some (.ref 0), some (iv (sC (jS A))), some (iv (sR (jS A))), some (iv (sN (jS A) : Int)), some (iv (sE (jS A))), some (iv (mS (jS A))), some (iv (sC (jS A) * sR (jS A))), some (.ref 103), some (.ref 104), some (.ref 105), some (.ref 106), some (.ref 107), some (iv ot), some (iv su), some (iv 1), some (iv nx), some (iv (sumK (s2 (sC (jS A)) (sR (jS A)) (bS (jS A))) k)), some (iv (k : Int)), a18, a19, none] [] (M ++ [ia 64 f7, ia 64 f8, ia 64 f9, ia 6 f10, ia 5 f11]) := by
  intro d
  induction d with
  | zero =>
    intro k hk a18 a19
    have ok := gk.ok
    obtain ⟨g1, g2, g3, g4, g5, g6⟩ := H_facts hA hB
    have ek : k = (sC (jS A) * sR (jS A)).toNat := by omega
    subst ek
    have ek2 : (((sC (jS A) * sR (jS A)).toNat : Nat) : Int) = (sC (jS A) * sR (jS A)) := by omega
    refine a_iload (pc := 452) ok dL_holds_452 rfl ?_
    refine a_iload (pc := 454) ok dL_holds_454 rfl ?_
    refine a_icmp_ge (pc := 456) (tgt := 608) ok dL_holds_456 (by decide) (by first | exact rg_w _ | exact rg_tw (by unfold rg; omega) (by unfold rg; omega) | (unfold rg; omega) | omega | assumption | exact bz_rg _) (by first | exact rg_w _ | exact rg_tw (by unfold rg; omega) (by unfold rg; omega) | (unfold rg; omega) | omega | assumption | exact bz_rg _) (fun c456 => ?_) (fun c456 => ?_)
    · exact AW.cast (L2 := [some (.ref 0), some (iv (sC (jS A))), some (iv (sR (jS A))), some (iv (sN (jS A) : Int)), some (iv (sE (jS A))), some (iv (mS (jS A))), some (iv (sC (jS A) * sR (jS A))), some (.ref 103), some (.ref 104), some (.ref 105), some (.ref 106), some (.ref 107), some (iv ot), some (iv su), some (iv 1), some (iv nx), some (iv (sumK (s2 (sC (jS A)) (sR (jS A)) (bS (jS A))) (sC (jS A) * sR (jS A)).toNat)), some (iv (sC (jS A) * sR (jS A))), a18, a19, none]) (K M a18 a19 hW) (by rw [ek2]) rfl rfl
    · exfalso; first | omega | grind
  | succ d ih =>
    intro k hk a18 a19
    have ok := gk.ok
    obtain ⟨g1, g2, g3, g4, g5, g6⟩ := H_facts hA hB
    have hd := hA.1.1
    have hcel : cel (sC (jS A)) (sR (jS A)) (k : Int) := ⟨by omega, by omega⟩
    have hk2 := dim_k hd hcel
    have p0 := hf (k : Int) (by omega) (by omega)
    have m9 : mny (sC (jS A)) (sR (jS A)) (bS (jS A)) = mS (jS A) := rfl
    have b1 := bS_rg (jS A) (k : Int)
    have o1 := own_rg (b := bS (jS A)) hd hcel
    have pe : (k : Int) % sC (jS A) < sC (jS A) - 1 → (k : Int) + 1 < (sC (jS A) * sR (jS A)) ∧ f7 ((k : Int) + 1) = (bS (jS A)) ((k : Int) + 1) ∧ f8 ((k : Int) + 1) = (own (sC (jS A)) (sR (jS A)) (bS (jS A))) ((k : Int) + 1) ∧ ((bS (jS A)) k = (bS (jS A)) ((k : Int) + 1) ↔ (own (sC (jS A)) (sR (jS A)) (bS (jS A))) k = (own (sC (jS A)) (sR (jS A)) (bS (jS A))) ((k : Int) + 1)) ∧ rg ((bS (jS A)) ((k : Int) + 1)) ∧ rg ((own (sC (jS A)) (sR (jS A)) (bS (jS A))) ((k : Int) + 1)) := fun z => by
      have ha := adj_e hd hcel z
      have hc2 := (adj_symm hd hcel ha).1
      have q := hf ((k : Int) + 1) (by omega) hc2.2
      have b2 := bS_rg (jS A) ((k : Int) + 1)
      have o2 := own_rg (b := bS (jS A)) hd hc2
      exact ⟨hc2.2, q.1, q.2, pair_ok hd hcel ha, by unfold rg; omega, by unfold rg; omega⟩
    have ps : (k : Int) < (sC (jS A) * sR (jS A)) - sC (jS A) → (k : Int) + sC (jS A) < (sC (jS A) * sR (jS A)) ∧ f7 ((k : Int) + sC (jS A)) = (bS (jS A)) ((k : Int) + sC (jS A)) ∧ f8 ((k : Int) + sC (jS A)) = (own (sC (jS A)) (sR (jS A)) (bS (jS A))) ((k : Int) + sC (jS A)) ∧ ((bS (jS A)) k = (bS (jS A)) ((k : Int) + sC (jS A)) ↔ (own (sC (jS A)) (sR (jS A)) (bS (jS A))) k = (own (sC (jS A)) (sR (jS A)) (bS (jS A))) ((k : Int) + sC (jS A))) ∧ rg ((bS (jS A)) ((k : Int) + sC (jS A))) ∧ rg ((own (sC (jS A)) (sR (jS A)) (bS (jS A))) ((k : Int) + sC (jS A))) := fun z => by
      have ha := adj_s hd hcel z
      have hc2 := (adj_symm hd hcel ha).1
      have q := hf ((k : Int) + sC (jS A)) (by omega) hc2.2
      have b2 := bS_rg (jS A) ((k : Int) + sC (jS A))
      have o2 := own_rg (b := bS (jS A)) hd hc2
      exact ⟨hc2.2, q.1, q.2, pair_ok hd hcel ha, by unfold rg; omega, by unfold rg; omega⟩
    have r0 : rg (f8 k) := by rw [p0.2]; unfold rg; omega
    have r7 : rg (f7 k) := by rw [p0.1]; unfold rg; omega
    have re : (k : Int) % sC (jS A) < sC (jS A) - 1 → rg (f8 ((k : Int) + 1)) ∧ rg (f7 ((k : Int) + 1)) ∧ (f7 k = f7 ((k : Int) + 1) ↔ f8 k = f8 ((k : Int) + 1)) := fun z => by
      obtain ⟨q1, q2, q3, q4, q5, q6⟩ := pe z
      rw [q2, q3, p0.1, p0.2]; exact ⟨q6, q5, q4⟩
    have rs : (k : Int) < (sC (jS A) * sR (jS A)) - sC (jS A) → rg (f8 ((k : Int) + sC (jS A))) ∧ rg (f7 ((k : Int) + sC (jS A))) ∧ (f7 k = f7 ((k : Int) + sC (jS A)) ↔ f8 k = f8 ((k : Int) + sC (jS A))) := fun z => by
      obtain ⟨q1, q2, q3, q4, q5, q6⟩ := ps z
      rw [q2, q3, p0.1, p0.2]; exact ⟨q6, q5, q4⟩
    have s2e : ∀ e s : Int, (e = if (k : Int) % sC (jS A) < sC (jS A) - 1 ∧ f8 k ≠ f8 ((k : Int) + 1) then 1 else 0) → (s = if (k : Int) < (sC (jS A) * sR (jS A)) - sC (jS A) ∧ f8 k ≠ f8 ((k : Int) + sC (jS A)) then 1 else 0) → sumK (s2 (sC (jS A)) (sR (jS A)) (bS (jS A))) k + (e + s) = sumK (s2 (sC (jS A)) (sR (jS A)) (bS (jS A))) (k + 1) := fun e s he hs => by
      show _ = sumK (s2 (sC (jS A)) (sR (jS A)) (bS (jS A))) k + (s2 (sC (jS A)) (sR (jS A)) (bS (jS A))) k
      have h1 : e = bz ((k : Int) % sC (jS A) < sC (jS A) - 1 ∧ (own (sC (jS A)) (sR (jS A)) (bS (jS A))) k ≠ (own (sC (jS A)) (sR (jS A)) (bS (jS A))) ((k : Int) + 1)) := by
        rw [he]; unfold bz
        by_cases z : (k : Int) % sC (jS A) < sC (jS A) - 1
        · rw [p0.2, (pe z).2.2.1]
        · rw [if_neg (fun y => z y.1), if_neg (fun y => z y.1)]
      have h2 : s = bz ((k : Int) < (sC (jS A) * sR (jS A)) - sC (jS A) ∧ (own (sC (jS A)) (sR (jS A)) (bS (jS A))) k ≠ (own (sC (jS A)) (sR (jS A)) (bS (jS A))) ((k : Int) + sC (jS A))) := by
        rw [hs]; unfold bz
        by_cases z : (k : Int) < (sC (jS A) * sR (jS A)) - sC (jS A)
        · rw [p0.2, (ps z).2.2.1]
        · rw [if_neg (fun y => z y.1), if_neg (fun y => z y.1)]
      rw [h1, h2]; rfl
    have fin : ∀ (a18 a19 : Option Value), AW X 1000 8000 452 [some (.ref 0), some (iv (sC (jS A))), some (iv (sR (jS A))), some (iv (sN (jS A) : Int)), some (iv (sE (jS A))), some (iv (mS (jS A))), some (iv (sC (jS A) * sR (jS A))), some (.ref 103), some (.ref 104), some (.ref 105), some (.ref 106), some (.ref 107), some (iv ot), some (iv su), some (iv 1), some (iv nx), some (iv (sumK (s2 (sC (jS A)) (sR (jS A)) (bS (jS A))) (k + 1))), some (iv ((k + 1 : Nat) : Int)), a18, a19, none] [] (M ++ [ia 64 f7, ia 64 f8, ia 64 f9, ia 6 f10, ia 5 f11]) := fun a18 a19 => ih (k + 1) (by omega) a18 a19
    refine a_iload (pc := 452) ok dL_holds_452 rfl ?_
    refine a_iload (pc := 454) ok dL_holds_454 rfl ?_
    refine a_icmp_ge (pc := 456) (tgt := 608) ok dL_holds_456 (by decide) (by first | exact rg_w _ | exact rg_tw (by unfold rg; omega) (by unfold rg; omega) | (unfold rg; omega) | omega | assumption | exact bz_rg _) (by first | exact rg_w _ | exact rg_tw (by unfold rg; omega) (by unfold rg; omega) | (unfold rg; omega) | omega | assumption | exact bz_rg _) (fun c456 => ?_) (fun c456 => ?_)
    · exfalso; first | omega | grind
    · refine a_iload (pc := 459) ok dL_holds_459 rfl ?_
      refine a_if_eq (pc := 461) (tgt := 608) ok dL_holds_461 (by decide) (by first | exact rg_w _ | exact rg_tw (by unfold rg; omega) (by unfold rg; omega) | (unfold rg; omega) | omega | assumption | exact bz_rg _) (fun c461 => ?_) (fun c461 => ?_)
      · exfalso; first | omega | grind
      · refine a_iload (pc := 464) ok dL_holds_464 rfl ?_
        refine a_iload_n (pc := 466) ok dL_holds_466 rfl ?_
        refine a_irem (pc := 467) ok dL_holds_467 (by first | exact rg_w _ | exact rg_tw (by unfold rg; omega) (by unfold rg; omega) | (unfold rg; omega) | omega | assumption | exact bz_rg _) (by first | exact rg_w _ | exact rg_tw (by unfold rg; omega) (by unfold rg; omega) | (unfold rg; omega) | omega | assumption | exact bz_rg _) ?_
        refine a_iload_n (pc := 468) ok dL_holds_468 rfl ?_
        refine a_iconst (pc := 469) ok dL_holds_469 ?_
        refine a_isub (pc := 470) ok dL_holds_470 ?_
        refine a_icmp_ge (pc := 471) (tgt := 478) ok dL_holds_471 (by decide) (by first | exact rg_w _ | exact rg_tw (by unfold rg; omega) (by unfold rg; omega) | (unfold rg; omega) | omega | assumption | exact bz_rg _) (by first | exact rg_w _ | exact rg_tw (by unfold rg; omega) (by unfold rg; omega) | (unfold rg; omega) | omega | assumption | exact bz_rg _) (fun c471 => ?_) (fun c471 => ?_)
        · refine a_iconst (pc := 478) ok dL_holds_478 ?_
          refine a_istore (pc := 479) ok dL_holds_479 rfl (by rw [hN]; decide) ?_
          refine a_iload (pc := 481) ok dL_holds_481 rfl ?_
          refine a_iload (pc := 483) ok dL_holds_483 rfl ?_
          refine a_iload_n (pc := 485) ok dL_holds_485 rfl ?_
          refine a_isub (pc := 486) ok dL_holds_486 ?_
          refine a_icmp_ge (pc := 487) (tgt := 494) ok dL_holds_487 (by decide) (by first | exact rg_w _ | exact rg_tw (by unfold rg; omega) (by unfold rg; omega) | (unfold rg; omega) | omega | assumption | exact bz_rg _) (by first | exact rg_w _ | exact rg_tw (by unfold rg; omega) (by unfold rg; omega) | (unfold rg; omega) | omega | assumption | exact bz_rg _) (fun c487 => ?_) (fun c487 => ?_)
          · refine a_iconst (pc := 494) ok dL_holds_494 ?_
            refine a_istore (pc := 495) ok dL_holds_495 rfl (by rw [hN]; decide) ?_
            refine a_iload (pc := 497) ok dL_holds_497 rfl ?_
            refine a_iload (pc := 499) ok dL_holds_499 rfl ?_
            refine a_if_eq (pc := 501) (tgt := 523) ok dL_holds_501 (by decide) (by first | exact rg_w _ | exact rg_tw (by unfold rg; omega) (by unfold rg; omega) | (unfold rg; omega) | omega | assumption | exact bz_rg _) (fun c501 => ?_) (fun c501 => ?_)
            · refine a_iconst (pc := 523) ok dL_holds_523 ?_
              refine a_iload (pc := 524) ok dL_holds_524 rfl ?_
              refine a_if_eq (pc := 526) (tgt := 548) ok dL_holds_526 (by decide) (by first | exact rg_w _ | exact rg_tw (by unfold rg; omega) (by unfold rg; omega) | (unfold rg; omega) | omega | assumption | exact bz_rg _) (fun c526 => ?_) (fun c526 => ?_)
              · refine a_iconst (pc := 548) ok dL_holds_548 ?_
                refine a_iadd (pc := 549) ok dL_holds_549 ?_
                refine a_iadd (pc := 550) ok dL_holds_550 ?_
                refine a_istore (pc := 551) ok dL_holds_551 rfl (by rw [hN]; decide) ?_
                refine a_iload (pc := 553) ok dL_holds_553 rfl ?_
                refine a_if_eq (pc := 555) (tgt := 574) ok dL_holds_555 (by decide) (by first | exact rg_w _ | exact rg_tw (by unfold rg; omega) (by unfold rg; omega) | (unfold rg; omega) | omega | assumption | exact bz_rg _) (fun c555 => ?_) (fun c555 => ?_)
                · refine a_iload (pc := 574) ok dL_holds_574 rfl ?_
                  refine a_if_eq (pc := 576) (tgt := 595) ok dL_holds_576 (by decide) (by first | exact rg_w _ | exact rg_tw (by unfold rg; omega) (by unfold rg; omega) | (unfold rg; omega) | omega | assumption | exact bz_rg _) (fun c576 => ?_) (fun c576 => ?_)
                  · refine a_iconst (pc := 595) ok dL_holds_595 ?_
                    refine a_goto (pc := 596) (tgt := 600) ok dL_holds_596 (by decide) ?_
                    refine a_istore (pc := 600) ok dL_holds_600 rfl (by rw [hN]; decide) ?_
                    refine a_iinc (pc := 602) ok dL_holds_602 rfl rfl (by rw [hN]; decide) ?_
                    refine a_goto (pc := 605) (tgt := 452) ok dL_holds_605 (by decide) ?_
                    have q9 := s2e 0 0 (by rw [if_neg (fun y => by have := y.1; omega)]) (by rw [if_neg (fun y => by have := y.1; omega)])
                    refine AW.cast (fin (some (iv 0)) (some (iv 0))) ?_ rfl rfl
                    rw [← q9] <;> rfl
                  · exfalso; first | omega | grind
                · exfalso; first | omega | grind
              · exfalso; first | omega | grind
            · exfalso; first | omega | grind
          · refine a_iconst (pc := 490) ok dL_holds_490 ?_
            refine a_goto (pc := 491) (tgt := 495) ok dL_holds_491 (by decide) ?_
            refine a_istore (pc := 495) ok dL_holds_495 rfl (by rw [hN]; decide) ?_
            refine a_iload (pc := 497) ok dL_holds_497 rfl ?_
            refine a_iload (pc := 499) ok dL_holds_499 rfl ?_
            refine a_if_eq (pc := 501) (tgt := 523) ok dL_holds_501 (by decide) (by first | exact rg_w _ | exact rg_tw (by unfold rg; omega) (by unfold rg; omega) | (unfold rg; omega) | omega | assumption | exact bz_rg _) (fun c501 => ?_) (fun c501 => ?_)
            · refine a_iconst (pc := 523) ok dL_holds_523 ?_
              refine a_iload (pc := 524) ok dL_holds_524 rfl ?_
              refine a_if_eq (pc := 526) (tgt := 548) ok dL_holds_526 (by decide) (by first | exact rg_w _ | exact rg_tw (by unfold rg; omega) (by unfold rg; omega) | (unfold rg; omega) | omega | assumption | exact bz_rg _) (fun c526 => ?_) (fun c526 => ?_)
              · exfalso; first | omega | grind
              · have v3 := ps (by omega)
                have v4 := rs (by omega)
                refine a_aload (pc := 529) ok dL_holds_529 rfl ?_
                refine a_iload (pc := 531) ok dL_holds_531 rfl ?_
                refine a_haL (pc := 533) (j := 1) ok (WO_len hW) dL_holds_533 rfl (by decide) (by first | exact rg_w _ | exact rg_tw (by unfold rg; omega) (by unfold rg; omega) | (unfold rg; omega) | omega | assumption | exact bz_rg _) ?_
                refine a_aload (pc := 534) ok dL_holds_534 rfl ?_
                refine a_iload (pc := 536) ok dL_holds_536 rfl ?_
                refine a_iload_n (pc := 538) ok dL_holds_538 rfl ?_
                refine a_iadd (pc := 539) ok dL_holds_539 ?_
                refine a_haL (pc := 540) (j := 1) ok (WO_len hW) dL_holds_540 rfl (by decide) (by first | exact rg_w _ | exact rg_tw (by unfold rg; omega) (by unfold rg; omega) | (unfold rg; omega) | omega | assumption | exact bz_rg _) ?_
                refine a_icmp_eq (pc := 541) (tgt := 548) ok dL_holds_541 (by decide) (by first | exact r0 | exact v4.1 | (unfold rg; omega)) (by first | exact r0 | exact v4.1 | (unfold rg; omega)) (fun c541 => ?_) (fun c541 => ?_)
                · refine a_iconst (pc := 548) ok dL_holds_548 ?_
                  refine a_iadd (pc := 549) ok dL_holds_549 ?_
                  refine a_iadd (pc := 550) ok dL_holds_550 ?_
                  refine a_istore (pc := 551) ok dL_holds_551 rfl (by rw [hN]; decide) ?_
                  refine a_iload (pc := 553) ok dL_holds_553 rfl ?_
                  refine a_if_eq (pc := 555) (tgt := 574) ok dL_holds_555 (by decide) (by first | exact rg_w _ | exact rg_tw (by unfold rg; omega) (by unfold rg; omega) | (unfold rg; omega) | omega | assumption | exact bz_rg _) (fun c555 => ?_) (fun c555 => ?_)
                  · refine a_iload (pc := 574) ok dL_holds_574 rfl ?_
                    refine a_if_eq (pc := 576) (tgt := 595) ok dL_holds_576 (by decide) (by first | exact rg_w _ | exact rg_tw (by unfold rg; omega) (by unfold rg; omega) | (unfold rg; omega) | omega | assumption | exact bz_rg _) (fun c576 => ?_) (fun c576 => ?_)
                    · exfalso; first | omega | grind
                    · have v7 := ps (by omega)
                      have v8 := rs (by omega)
                      refine a_aload (pc := 579) ok dL_holds_579 rfl ?_
                      refine a_aload (pc := 581) ok dL_holds_581 rfl ?_
                      refine a_iload (pc := 583) ok dL_holds_583 rfl ?_
                      refine a_iload (pc := 585) ok dL_holds_585 rfl ?_
                      refine a_iload_n (pc := 587) ok dL_holds_587 rfl ?_
                      refine a_iadd (pc := 588) ok dL_holds_588 ?_
                      refine a_callSp (pc := 589) ok [103, 104] dL_holds_589 mvL_219 miL_pair (c_lpair (f := f7) (g := f8) (k := (k : Int)) (t := (k : Int) + sC (jS A)) (by omega) (by omega) r7 v8.2.1 r0 v8.1 v8.2.2) ⟨by decide, by decide, rfl, rfl, Nat.le_of_ble_eq_true rfl, Nat.le_of_ble_eq_true rfl⟩ rfl rfl (Nat.le_of_ble_eq_true rfl) (fit_pair (WO_len hW)) (by decide) ?_
                      refine a_if_eq (pc := 592) (tgt := 599) ok dL_holds_592 (by decide) (by first | exact rg_w _ | exact rg_tw (by unfold rg; omega) (by unfold rg; omega) | (unfold rg; omega) | omega | assumption | exact bz_rg _) (fun c592 => ?_) (fun c592 => ?_)
                      · exfalso; first | omega | grind
                      · refine a_iconst (pc := 595) ok dL_holds_595 ?_
                        refine a_goto (pc := 596) (tgt := 600) ok dL_holds_596 (by decide) ?_
                        refine a_istore (pc := 600) ok dL_holds_600 rfl (by rw [hN]; decide) ?_
                        refine a_iinc (pc := 602) ok dL_holds_602 rfl rfl (by rw [hN]; decide) ?_
                        refine a_goto (pc := 605) (tgt := 452) ok dL_holds_605 (by decide) ?_
                        have q9 := s2e 0 0 (by rw [if_neg (fun y => by have := y.1; omega)]) (by rw [if_neg (fun y => y.2 c541)])
                        refine AW.cast (fin (some (iv 0)) (some (iv 1))) ?_ rfl rfl
                        rw [← q9] <;> rfl
                  · exfalso; first | omega | grind
                · refine a_iconst (pc := 544) ok dL_holds_544 ?_
                  refine a_goto (pc := 545) (tgt := 549) ok dL_holds_545 (by decide) ?_
                  refine a_iadd (pc := 549) ok dL_holds_549 ?_
                  refine a_iadd (pc := 550) ok dL_holds_550 ?_
                  refine a_istore (pc := 551) ok dL_holds_551 rfl (by rw [hN]; decide) ?_
                  refine a_iload (pc := 553) ok dL_holds_553 rfl ?_
                  refine a_if_eq (pc := 555) (tgt := 574) ok dL_holds_555 (by decide) (by first | exact rg_w _ | exact rg_tw (by unfold rg; omega) (by unfold rg; omega) | (unfold rg; omega) | omega | assumption | exact bz_rg _) (fun c555 => ?_) (fun c555 => ?_)
                  · refine a_iload (pc := 574) ok dL_holds_574 rfl ?_
                    refine a_if_eq (pc := 576) (tgt := 595) ok dL_holds_576 (by decide) (by first | exact rg_w _ | exact rg_tw (by unfold rg; omega) (by unfold rg; omega) | (unfold rg; omega) | omega | assumption | exact bz_rg _) (fun c576 => ?_) (fun c576 => ?_)
                    · exfalso; first | omega | grind
                    · have v7 := ps (by omega)
                      have v8 := rs (by omega)
                      refine a_aload (pc := 579) ok dL_holds_579 rfl ?_
                      refine a_aload (pc := 581) ok dL_holds_581 rfl ?_
                      refine a_iload (pc := 583) ok dL_holds_583 rfl ?_
                      refine a_iload (pc := 585) ok dL_holds_585 rfl ?_
                      refine a_iload_n (pc := 587) ok dL_holds_587 rfl ?_
                      refine a_iadd (pc := 588) ok dL_holds_588 ?_
                      refine a_callSp (pc := 589) ok [103, 104] dL_holds_589 mvL_219 miL_pair (c_lpair (f := f7) (g := f8) (k := (k : Int)) (t := (k : Int) + sC (jS A)) (by omega) (by omega) r7 v8.2.1 r0 v8.1 v8.2.2) ⟨by decide, by decide, rfl, rfl, Nat.le_of_ble_eq_true rfl, Nat.le_of_ble_eq_true rfl⟩ rfl rfl (Nat.le_of_ble_eq_true rfl) (fit_pair (WO_len hW)) (by decide) ?_
                      refine a_if_eq (pc := 592) (tgt := 599) ok dL_holds_592 (by decide) (by first | exact rg_w _ | exact rg_tw (by unfold rg; omega) (by unfold rg; omega) | (unfold rg; omega) | omega | assumption | exact bz_rg _) (fun c592 => ?_) (fun c592 => ?_)
                      · exfalso; first | omega | grind
                      · refine a_iconst (pc := 595) ok dL_holds_595 ?_
                        refine a_goto (pc := 596) (tgt := 600) ok dL_holds_596 (by decide) ?_
                        refine a_istore (pc := 600) ok dL_holds_600 rfl (by rw [hN]; decide) ?_
                        refine a_iinc (pc := 602) ok dL_holds_602 rfl rfl (by rw [hN]; decide) ?_
                        refine a_goto (pc := 605) (tgt := 452) ok dL_holds_605 (by decide) ?_
                        have q9 := s2e 0 1 (by rw [if_neg (fun y => by have := y.1; omega)]) (by rw [if_pos ⟨by omega, c541⟩])
                        refine AW.cast (fin (some (iv 0)) (some (iv 1))) ?_ rfl rfl
                        rw [← q9] <;> rfl
                  · exfalso; first | omega | grind
            · exfalso; first | omega | grind
        · refine a_iconst (pc := 474) ok dL_holds_474 ?_
          refine a_goto (pc := 475) (tgt := 479) ok dL_holds_475 (by decide) ?_
          refine a_istore (pc := 479) ok dL_holds_479 rfl (by rw [hN]; decide) ?_
          refine a_iload (pc := 481) ok dL_holds_481 rfl ?_
          refine a_iload (pc := 483) ok dL_holds_483 rfl ?_
          refine a_iload_n (pc := 485) ok dL_holds_485 rfl ?_
          refine a_isub (pc := 486) ok dL_holds_486 ?_
          refine a_icmp_ge (pc := 487) (tgt := 494) ok dL_holds_487 (by decide) (by first | exact rg_w _ | exact rg_tw (by unfold rg; omega) (by unfold rg; omega) | (unfold rg; omega) | omega | assumption | exact bz_rg _) (by first | exact rg_w _ | exact rg_tw (by unfold rg; omega) (by unfold rg; omega) | (unfold rg; omega) | omega | assumption | exact bz_rg _) (fun c487 => ?_) (fun c487 => ?_)
          · refine a_iconst (pc := 494) ok dL_holds_494 ?_
            refine a_istore (pc := 495) ok dL_holds_495 rfl (by rw [hN]; decide) ?_
            refine a_iload (pc := 497) ok dL_holds_497 rfl ?_
            refine a_iload (pc := 499) ok dL_holds_499 rfl ?_
            refine a_if_eq (pc := 501) (tgt := 523) ok dL_holds_501 (by decide) (by first | exact rg_w _ | exact rg_tw (by unfold rg; omega) (by unfold rg; omega) | (unfold rg; omega) | omega | assumption | exact bz_rg _) (fun c501 => ?_) (fun c501 => ?_)
            · exfalso; first | omega | grind
            · have v1 := pe (by omega)
              have v2 := re (by omega)
              refine a_aload (pc := 504) ok dL_holds_504 rfl ?_
              refine a_iload (pc := 506) ok dL_holds_506 rfl ?_
              refine a_haL (pc := 508) (j := 1) ok (WO_len hW) dL_holds_508 rfl (by decide) (by omega) ?_
              refine a_aload (pc := 509) ok dL_holds_509 rfl ?_
              refine a_iload (pc := 511) ok dL_holds_511 rfl ?_
              refine a_iconst (pc := 513) ok dL_holds_513 ?_
              refine a_iadd (pc := 514) ok dL_holds_514 ?_
              refine a_haL (pc := 515) (j := 1) ok (WO_len hW) dL_holds_515 rfl (by decide) (by first | exact rg_w _ | exact rg_tw (by unfold rg; omega) (by unfold rg; omega) | (unfold rg; omega) | omega | assumption | exact bz_rg _) ?_
              refine a_icmp_eq (pc := 516) (tgt := 523) ok dL_holds_516 (by decide) (by first | exact r0 | exact v2.1 | (unfold rg; omega)) (by first | exact r0 | exact v2.1 | (unfold rg; omega)) (fun c516 => ?_) (fun c516 => ?_)
              · refine a_iconst (pc := 523) ok dL_holds_523 ?_
                refine a_iload (pc := 524) ok dL_holds_524 rfl ?_
                refine a_if_eq (pc := 526) (tgt := 548) ok dL_holds_526 (by decide) (by first | exact rg_w _ | exact rg_tw (by unfold rg; omega) (by unfold rg; omega) | (unfold rg; omega) | omega | assumption | exact bz_rg _) (fun c526 => ?_) (fun c526 => ?_)
                · refine a_iconst (pc := 548) ok dL_holds_548 ?_
                  refine a_iadd (pc := 549) ok dL_holds_549 ?_
                  refine a_iadd (pc := 550) ok dL_holds_550 ?_
                  refine a_istore (pc := 551) ok dL_holds_551 rfl (by rw [hN]; decide) ?_
                  refine a_iload (pc := 553) ok dL_holds_553 rfl ?_
                  refine a_if_eq (pc := 555) (tgt := 574) ok dL_holds_555 (by decide) (by first | exact rg_w _ | exact rg_tw (by unfold rg; omega) (by unfold rg; omega) | (unfold rg; omega) | omega | assumption | exact bz_rg _) (fun c555 => ?_) (fun c555 => ?_)
                  · exfalso; first | omega | grind
                  · have v5 := pe (by omega)
                    have v6 := re (by omega)
                    refine a_aload (pc := 558) ok dL_holds_558 rfl ?_
                    refine a_aload (pc := 560) ok dL_holds_560 rfl ?_
                    refine a_iload (pc := 562) ok dL_holds_562 rfl ?_
                    refine a_iload (pc := 564) ok dL_holds_564 rfl ?_
                    refine a_iconst (pc := 566) ok dL_holds_566 ?_
                    refine a_iadd (pc := 567) ok dL_holds_567 ?_
                    refine a_callSp (pc := 568) ok [103, 104] dL_holds_568 mvL_219 miL_pair (c_lpair (f := f7) (g := f8) (k := (k : Int)) (t := (k : Int) + 1) (by omega) (by omega) r7 v6.2.1 r0 v6.1 v6.2.2) ⟨by decide, by decide, rfl, rfl, Nat.le_of_ble_eq_true rfl, Nat.le_of_ble_eq_true rfl⟩ rfl rfl (Nat.le_of_ble_eq_true rfl) (fit_pair (WO_len hW)) (by decide) ?_
                    refine a_if_eq (pc := 571) (tgt := 599) ok dL_holds_571 (by decide) (by first | exact rg_w _ | exact rg_tw (by unfold rg; omega) (by unfold rg; omega) | (unfold rg; omega) | omega | assumption | exact bz_rg _) (fun c571 => ?_) (fun c571 => ?_)
                    · exfalso; first | omega | grind
                    · refine a_iload (pc := 574) ok dL_holds_574 rfl ?_
                      refine a_if_eq (pc := 576) (tgt := 595) ok dL_holds_576 (by decide) (by first | exact rg_w _ | exact rg_tw (by unfold rg; omega) (by unfold rg; omega) | (unfold rg; omega) | omega | assumption | exact bz_rg _) (fun c576 => ?_) (fun c576 => ?_)
                      · refine a_iconst (pc := 595) ok dL_holds_595 ?_
                        refine a_goto (pc := 596) (tgt := 600) ok dL_holds_596 (by decide) ?_
                        refine a_istore (pc := 600) ok dL_holds_600 rfl (by rw [hN]; decide) ?_
                        refine a_iinc (pc := 602) ok dL_holds_602 rfl rfl (by rw [hN]; decide) ?_
                        refine a_goto (pc := 605) (tgt := 452) ok dL_holds_605 (by decide) ?_
                        have q9 := s2e 0 0 (by rw [if_neg (fun y => y.2 c516)]) (by rw [if_neg (fun y => by have := y.1; omega)])
                        refine AW.cast (fin (some (iv 1)) (some (iv 0))) ?_ rfl rfl
                        rw [← q9] <;> rfl
                      · exfalso; first | omega | grind
                · exfalso; first | omega | grind
              · refine a_iconst (pc := 519) ok dL_holds_519 ?_
                refine a_goto (pc := 520) (tgt := 524) ok dL_holds_520 (by decide) ?_
                refine a_iload (pc := 524) ok dL_holds_524 rfl ?_
                refine a_if_eq (pc := 526) (tgt := 548) ok dL_holds_526 (by decide) (by first | exact rg_w _ | exact rg_tw (by unfold rg; omega) (by unfold rg; omega) | (unfold rg; omega) | omega | assumption | exact bz_rg _) (fun c526 => ?_) (fun c526 => ?_)
                · refine a_iconst (pc := 548) ok dL_holds_548 ?_
                  refine a_iadd (pc := 549) ok dL_holds_549 ?_
                  refine a_iadd (pc := 550) ok dL_holds_550 ?_
                  refine a_istore (pc := 551) ok dL_holds_551 rfl (by rw [hN]; decide) ?_
                  refine a_iload (pc := 553) ok dL_holds_553 rfl ?_
                  refine a_if_eq (pc := 555) (tgt := 574) ok dL_holds_555 (by decide) (by first | exact rg_w _ | exact rg_tw (by unfold rg; omega) (by unfold rg; omega) | (unfold rg; omega) | omega | assumption | exact bz_rg _) (fun c555 => ?_) (fun c555 => ?_)
                  · exfalso; first | omega | grind
                  · have v5 := pe (by omega)
                    have v6 := re (by omega)
                    refine a_aload (pc := 558) ok dL_holds_558 rfl ?_
                    refine a_aload (pc := 560) ok dL_holds_560 rfl ?_
                    refine a_iload (pc := 562) ok dL_holds_562 rfl ?_
                    refine a_iload (pc := 564) ok dL_holds_564 rfl ?_
                    refine a_iconst (pc := 566) ok dL_holds_566 ?_
                    refine a_iadd (pc := 567) ok dL_holds_567 ?_
                    refine a_callSp (pc := 568) ok [103, 104] dL_holds_568 mvL_219 miL_pair (c_lpair (f := f7) (g := f8) (k := (k : Int)) (t := (k : Int) + 1) (by omega) (by omega) r7 v6.2.1 r0 v6.1 v6.2.2) ⟨by decide, by decide, rfl, rfl, Nat.le_of_ble_eq_true rfl, Nat.le_of_ble_eq_true rfl⟩ rfl rfl (Nat.le_of_ble_eq_true rfl) (fit_pair (WO_len hW)) (by decide) ?_
                    refine a_if_eq (pc := 571) (tgt := 599) ok dL_holds_571 (by decide) (by first | exact rg_w _ | exact rg_tw (by unfold rg; omega) (by unfold rg; omega) | (unfold rg; omega) | omega | assumption | exact bz_rg _) (fun c571 => ?_) (fun c571 => ?_)
                    · exfalso; first | omega | grind
                    · refine a_iload (pc := 574) ok dL_holds_574 rfl ?_
                      refine a_if_eq (pc := 576) (tgt := 595) ok dL_holds_576 (by decide) (by first | exact rg_w _ | exact rg_tw (by unfold rg; omega) (by unfold rg; omega) | (unfold rg; omega) | omega | assumption | exact bz_rg _) (fun c576 => ?_) (fun c576 => ?_)
                      · refine a_iconst (pc := 595) ok dL_holds_595 ?_
                        refine a_goto (pc := 596) (tgt := 600) ok dL_holds_596 (by decide) ?_
                        refine a_istore (pc := 600) ok dL_holds_600 rfl (by rw [hN]; decide) ?_
                        refine a_iinc (pc := 602) ok dL_holds_602 rfl rfl (by rw [hN]; decide) ?_
                        refine a_goto (pc := 605) (tgt := 452) ok dL_holds_605 (by decide) ?_
                        have q9 := s2e 1 0 (by rw [if_pos ⟨by omega, c516⟩]) (by rw [if_neg (fun y => by have := y.1; omega)])
                        refine AW.cast (fin (some (iv 1)) (some (iv 0))) ?_ rfl rfl
                        rw [← q9] <;> rfl
                      · exfalso; first | omega | grind
                · exfalso; first | omega | grind
          · refine a_iconst (pc := 490) ok dL_holds_490 ?_
            refine a_goto (pc := 491) (tgt := 495) ok dL_holds_491 (by decide) ?_
            refine a_istore (pc := 495) ok dL_holds_495 rfl (by rw [hN]; decide) ?_
            refine a_iload (pc := 497) ok dL_holds_497 rfl ?_
            refine a_iload (pc := 499) ok dL_holds_499 rfl ?_
            refine a_if_eq (pc := 501) (tgt := 523) ok dL_holds_501 (by decide) (by first | exact rg_w _ | exact rg_tw (by unfold rg; omega) (by unfold rg; omega) | (unfold rg; omega) | omega | assumption | exact bz_rg _) (fun c501 => ?_) (fun c501 => ?_)
            · exfalso; first | omega | grind
            · have v1 := pe (by omega)
              have v2 := re (by omega)
              refine a_aload (pc := 504) ok dL_holds_504 rfl ?_
              refine a_iload (pc := 506) ok dL_holds_506 rfl ?_
              refine a_haL (pc := 508) (j := 1) ok (WO_len hW) dL_holds_508 rfl (by decide) (by omega) ?_
              refine a_aload (pc := 509) ok dL_holds_509 rfl ?_
              refine a_iload (pc := 511) ok dL_holds_511 rfl ?_
              refine a_iconst (pc := 513) ok dL_holds_513 ?_
              refine a_iadd (pc := 514) ok dL_holds_514 ?_
              refine a_haL (pc := 515) (j := 1) ok (WO_len hW) dL_holds_515 rfl (by decide) (by first | exact rg_w _ | exact rg_tw (by unfold rg; omega) (by unfold rg; omega) | (unfold rg; omega) | omega | assumption | exact bz_rg _) ?_
              refine a_icmp_eq (pc := 516) (tgt := 523) ok dL_holds_516 (by decide) (by first | exact r0 | exact v2.1 | (unfold rg; omega)) (by first | exact r0 | exact v2.1 | (unfold rg; omega)) (fun c516 => ?_) (fun c516 => ?_)
              · refine a_iconst (pc := 523) ok dL_holds_523 ?_
                refine a_iload (pc := 524) ok dL_holds_524 rfl ?_
                refine a_if_eq (pc := 526) (tgt := 548) ok dL_holds_526 (by decide) (by first | exact rg_w _ | exact rg_tw (by unfold rg; omega) (by unfold rg; omega) | (unfold rg; omega) | omega | assumption | exact bz_rg _) (fun c526 => ?_) (fun c526 => ?_)
                · exfalso; first | omega | grind
                · have v3 := ps (by omega)
                  have v4 := rs (by omega)
                  refine a_aload (pc := 529) ok dL_holds_529 rfl ?_
                  refine a_iload (pc := 531) ok dL_holds_531 rfl ?_
                  refine a_haL (pc := 533) (j := 1) ok (WO_len hW) dL_holds_533 rfl (by decide) (by first | exact rg_w _ | exact rg_tw (by unfold rg; omega) (by unfold rg; omega) | (unfold rg; omega) | omega | assumption | exact bz_rg _) ?_
                  refine a_aload (pc := 534) ok dL_holds_534 rfl ?_
                  refine a_iload (pc := 536) ok dL_holds_536 rfl ?_
                  refine a_iload_n (pc := 538) ok dL_holds_538 rfl ?_
                  refine a_iadd (pc := 539) ok dL_holds_539 ?_
                  refine a_haL (pc := 540) (j := 1) ok (WO_len hW) dL_holds_540 rfl (by decide) (by first | exact rg_w _ | exact rg_tw (by unfold rg; omega) (by unfold rg; omega) | (unfold rg; omega) | omega | assumption | exact bz_rg _) ?_
                  refine a_icmp_eq (pc := 541) (tgt := 548) ok dL_holds_541 (by decide) (by first | exact r0 | exact v4.1 | (unfold rg; omega)) (by first | exact r0 | exact v4.1 | (unfold rg; omega)) (fun c541 => ?_) (fun c541 => ?_)
                  · refine a_iconst (pc := 548) ok dL_holds_548 ?_
                    refine a_iadd (pc := 549) ok dL_holds_549 ?_
                    refine a_iadd (pc := 550) ok dL_holds_550 ?_
                    refine a_istore (pc := 551) ok dL_holds_551 rfl (by rw [hN]; decide) ?_
                    refine a_iload (pc := 553) ok dL_holds_553 rfl ?_
                    refine a_if_eq (pc := 555) (tgt := 574) ok dL_holds_555 (by decide) (by first | exact rg_w _ | exact rg_tw (by unfold rg; omega) (by unfold rg; omega) | (unfold rg; omega) | omega | assumption | exact bz_rg _) (fun c555 => ?_) (fun c555 => ?_)
                    · exfalso; first | omega | grind
                    · have v5 := pe (by omega)
                      have v6 := re (by omega)
                      refine a_aload (pc := 558) ok dL_holds_558 rfl ?_
                      refine a_aload (pc := 560) ok dL_holds_560 rfl ?_
                      refine a_iload (pc := 562) ok dL_holds_562 rfl ?_
                      refine a_iload (pc := 564) ok dL_holds_564 rfl ?_
                      refine a_iconst (pc := 566) ok dL_holds_566 ?_
                      refine a_iadd (pc := 567) ok dL_holds_567 ?_
                      refine a_callSp (pc := 568) ok [103, 104] dL_holds_568 mvL_219 miL_pair (c_lpair (f := f7) (g := f8) (k := (k : Int)) (t := (k : Int) + 1) (by omega) (by omega) r7 v6.2.1 r0 v6.1 v6.2.2) ⟨by decide, by decide, rfl, rfl, Nat.le_of_ble_eq_true rfl, Nat.le_of_ble_eq_true rfl⟩ rfl rfl (Nat.le_of_ble_eq_true rfl) (fit_pair (WO_len hW)) (by decide) ?_
                      refine a_if_eq (pc := 571) (tgt := 599) ok dL_holds_571 (by decide) (by first | exact rg_w _ | exact rg_tw (by unfold rg; omega) (by unfold rg; omega) | (unfold rg; omega) | omega | assumption | exact bz_rg _) (fun c571 => ?_) (fun c571 => ?_)
                      · exfalso; first | omega | grind
                      · refine a_iload (pc := 574) ok dL_holds_574 rfl ?_
                        refine a_if_eq (pc := 576) (tgt := 595) ok dL_holds_576 (by decide) (by first | exact rg_w _ | exact rg_tw (by unfold rg; omega) (by unfold rg; omega) | (unfold rg; omega) | omega | assumption | exact bz_rg _) (fun c576 => ?_) (fun c576 => ?_)
                        · exfalso; first | omega | grind
                        · have v7 := ps (by omega)
                          have v8 := rs (by omega)
                          refine a_aload (pc := 579) ok dL_holds_579 rfl ?_
                          refine a_aload (pc := 581) ok dL_holds_581 rfl ?_
                          refine a_iload (pc := 583) ok dL_holds_583 rfl ?_
                          refine a_iload (pc := 585) ok dL_holds_585 rfl ?_
                          refine a_iload_n (pc := 587) ok dL_holds_587 rfl ?_
                          refine a_iadd (pc := 588) ok dL_holds_588 ?_
                          refine a_callSp (pc := 589) ok [103, 104] dL_holds_589 mvL_219 miL_pair (c_lpair (f := f7) (g := f8) (k := (k : Int)) (t := (k : Int) + sC (jS A)) (by omega) (by omega) r7 v8.2.1 r0 v8.1 v8.2.2) ⟨by decide, by decide, rfl, rfl, Nat.le_of_ble_eq_true rfl, Nat.le_of_ble_eq_true rfl⟩ rfl rfl (Nat.le_of_ble_eq_true rfl) (fit_pair (WO_len hW)) (by decide) ?_
                          refine a_if_eq (pc := 592) (tgt := 599) ok dL_holds_592 (by decide) (by first | exact rg_w _ | exact rg_tw (by unfold rg; omega) (by unfold rg; omega) | (unfold rg; omega) | omega | assumption | exact bz_rg _) (fun c592 => ?_) (fun c592 => ?_)
                          · exfalso; first | omega | grind
                          · refine a_iconst (pc := 595) ok dL_holds_595 ?_
                            refine a_goto (pc := 596) (tgt := 600) ok dL_holds_596 (by decide) ?_
                            refine a_istore (pc := 600) ok dL_holds_600 rfl (by rw [hN]; decide) ?_
                            refine a_iinc (pc := 602) ok dL_holds_602 rfl rfl (by rw [hN]; decide) ?_
                            refine a_goto (pc := 605) (tgt := 452) ok dL_holds_605 (by decide) ?_
                            have q9 := s2e 0 0 (by rw [if_neg (fun y => y.2 c516)]) (by rw [if_neg (fun y => y.2 c541)])
                            refine AW.cast (fin (some (iv 1)) (some (iv 1))) ?_ rfl rfl
                            rw [← q9] <;> rfl
                  · refine a_iconst (pc := 544) ok dL_holds_544 ?_
                    refine a_goto (pc := 545) (tgt := 549) ok dL_holds_545 (by decide) ?_
                    refine a_iadd (pc := 549) ok dL_holds_549 ?_
                    refine a_iadd (pc := 550) ok dL_holds_550 ?_
                    refine a_istore (pc := 551) ok dL_holds_551 rfl (by rw [hN]; decide) ?_
                    refine a_iload (pc := 553) ok dL_holds_553 rfl ?_
                    refine a_if_eq (pc := 555) (tgt := 574) ok dL_holds_555 (by decide) (by first | exact rg_w _ | exact rg_tw (by unfold rg; omega) (by unfold rg; omega) | (unfold rg; omega) | omega | assumption | exact bz_rg _) (fun c555 => ?_) (fun c555 => ?_)
                    · exfalso; first | omega | grind
                    · have v5 := pe (by omega)
                      have v6 := re (by omega)
                      refine a_aload (pc := 558) ok dL_holds_558 rfl ?_
                      refine a_aload (pc := 560) ok dL_holds_560 rfl ?_
                      refine a_iload (pc := 562) ok dL_holds_562 rfl ?_
                      refine a_iload (pc := 564) ok dL_holds_564 rfl ?_
                      refine a_iconst (pc := 566) ok dL_holds_566 ?_
                      refine a_iadd (pc := 567) ok dL_holds_567 ?_
                      refine a_callSp (pc := 568) ok [103, 104] dL_holds_568 mvL_219 miL_pair (c_lpair (f := f7) (g := f8) (k := (k : Int)) (t := (k : Int) + 1) (by omega) (by omega) r7 v6.2.1 r0 v6.1 v6.2.2) ⟨by decide, by decide, rfl, rfl, Nat.le_of_ble_eq_true rfl, Nat.le_of_ble_eq_true rfl⟩ rfl rfl (Nat.le_of_ble_eq_true rfl) (fit_pair (WO_len hW)) (by decide) ?_
                      refine a_if_eq (pc := 571) (tgt := 599) ok dL_holds_571 (by decide) (by first | exact rg_w _ | exact rg_tw (by unfold rg; omega) (by unfold rg; omega) | (unfold rg; omega) | omega | assumption | exact bz_rg _) (fun c571 => ?_) (fun c571 => ?_)
                      · exfalso; first | omega | grind
                      · refine a_iload (pc := 574) ok dL_holds_574 rfl ?_
                        refine a_if_eq (pc := 576) (tgt := 595) ok dL_holds_576 (by decide) (by first | exact rg_w _ | exact rg_tw (by unfold rg; omega) (by unfold rg; omega) | (unfold rg; omega) | omega | assumption | exact bz_rg _) (fun c576 => ?_) (fun c576 => ?_)
                        · exfalso; first | omega | grind
                        · have v7 := ps (by omega)
                          have v8 := rs (by omega)
                          refine a_aload (pc := 579) ok dL_holds_579 rfl ?_
                          refine a_aload (pc := 581) ok dL_holds_581 rfl ?_
                          refine a_iload (pc := 583) ok dL_holds_583 rfl ?_
                          refine a_iload (pc := 585) ok dL_holds_585 rfl ?_
                          refine a_iload_n (pc := 587) ok dL_holds_587 rfl ?_
                          refine a_iadd (pc := 588) ok dL_holds_588 ?_
                          refine a_callSp (pc := 589) ok [103, 104] dL_holds_589 mvL_219 miL_pair (c_lpair (f := f7) (g := f8) (k := (k : Int)) (t := (k : Int) + sC (jS A)) (by omega) (by omega) r7 v8.2.1 r0 v8.1 v8.2.2) ⟨by decide, by decide, rfl, rfl, Nat.le_of_ble_eq_true rfl, Nat.le_of_ble_eq_true rfl⟩ rfl rfl (Nat.le_of_ble_eq_true rfl) (fit_pair (WO_len hW)) (by decide) ?_
                          refine a_if_eq (pc := 592) (tgt := 599) ok dL_holds_592 (by decide) (by first | exact rg_w _ | exact rg_tw (by unfold rg; omega) (by unfold rg; omega) | (unfold rg; omega) | omega | assumption | exact bz_rg _) (fun c592 => ?_) (fun c592 => ?_)
                          · exfalso; first | omega | grind
                          · refine a_iconst (pc := 595) ok dL_holds_595 ?_
                            refine a_goto (pc := 596) (tgt := 600) ok dL_holds_596 (by decide) ?_
                            refine a_istore (pc := 600) ok dL_holds_600 rfl (by rw [hN]; decide) ?_
                            refine a_iinc (pc := 602) ok dL_holds_602 rfl rfl (by rw [hN]; decide) ?_
                            refine a_goto (pc := 605) (tgt := 452) ok dL_holds_605 (by decide) ?_
                            have q9 := s2e 0 1 (by rw [if_neg (fun y => y.2 c516)]) (by rw [if_pos ⟨by omega, c541⟩])
                            refine AW.cast (fin (some (iv 1)) (some (iv 1))) ?_ rfl rfl
                            rw [← q9] <;> rfl
              · refine a_iconst (pc := 519) ok dL_holds_519 ?_
                refine a_goto (pc := 520) (tgt := 524) ok dL_holds_520 (by decide) ?_
                refine a_iload (pc := 524) ok dL_holds_524 rfl ?_
                refine a_if_eq (pc := 526) (tgt := 548) ok dL_holds_526 (by decide) (by first | exact rg_w _ | exact rg_tw (by unfold rg; omega) (by unfold rg; omega) | (unfold rg; omega) | omega | assumption | exact bz_rg _) (fun c526 => ?_) (fun c526 => ?_)
                · exfalso; first | omega | grind
                · have v3 := ps (by omega)
                  have v4 := rs (by omega)
                  refine a_aload (pc := 529) ok dL_holds_529 rfl ?_
                  refine a_iload (pc := 531) ok dL_holds_531 rfl ?_
                  refine a_haL (pc := 533) (j := 1) ok (WO_len hW) dL_holds_533 rfl (by decide) (by first | exact rg_w _ | exact rg_tw (by unfold rg; omega) (by unfold rg; omega) | (unfold rg; omega) | omega | assumption | exact bz_rg _) ?_
                  refine a_aload (pc := 534) ok dL_holds_534 rfl ?_
                  refine a_iload (pc := 536) ok dL_holds_536 rfl ?_
                  refine a_iload_n (pc := 538) ok dL_holds_538 rfl ?_
                  refine a_iadd (pc := 539) ok dL_holds_539 ?_
                  refine a_haL (pc := 540) (j := 1) ok (WO_len hW) dL_holds_540 rfl (by decide) (by first | exact rg_w _ | exact rg_tw (by unfold rg; omega) (by unfold rg; omega) | (unfold rg; omega) | omega | assumption | exact bz_rg _) ?_
                  refine a_icmp_eq (pc := 541) (tgt := 548) ok dL_holds_541 (by decide) (by first | exact r0 | exact v4.1 | (unfold rg; omega)) (by first | exact r0 | exact v4.1 | (unfold rg; omega)) (fun c541 => ?_) (fun c541 => ?_)
                  · refine a_iconst (pc := 548) ok dL_holds_548 ?_
                    refine a_iadd (pc := 549) ok dL_holds_549 ?_
                    refine a_iadd (pc := 550) ok dL_holds_550 ?_
                    refine a_istore (pc := 551) ok dL_holds_551 rfl (by rw [hN]; decide) ?_
                    refine a_iload (pc := 553) ok dL_holds_553 rfl ?_
                    refine a_if_eq (pc := 555) (tgt := 574) ok dL_holds_555 (by decide) (by first | exact rg_w _ | exact rg_tw (by unfold rg; omega) (by unfold rg; omega) | (unfold rg; omega) | omega | assumption | exact bz_rg _) (fun c555 => ?_) (fun c555 => ?_)
                    · exfalso; first | omega | grind
                    · have v5 := pe (by omega)
                      have v6 := re (by omega)
                      refine a_aload (pc := 558) ok dL_holds_558 rfl ?_
                      refine a_aload (pc := 560) ok dL_holds_560 rfl ?_
                      refine a_iload (pc := 562) ok dL_holds_562 rfl ?_
                      refine a_iload (pc := 564) ok dL_holds_564 rfl ?_
                      refine a_iconst (pc := 566) ok dL_holds_566 ?_
                      refine a_iadd (pc := 567) ok dL_holds_567 ?_
                      refine a_callSp (pc := 568) ok [103, 104] dL_holds_568 mvL_219 miL_pair (c_lpair (f := f7) (g := f8) (k := (k : Int)) (t := (k : Int) + 1) (by omega) (by omega) r7 v6.2.1 r0 v6.1 v6.2.2) ⟨by decide, by decide, rfl, rfl, Nat.le_of_ble_eq_true rfl, Nat.le_of_ble_eq_true rfl⟩ rfl rfl (Nat.le_of_ble_eq_true rfl) (fit_pair (WO_len hW)) (by decide) ?_
                      refine a_if_eq (pc := 571) (tgt := 599) ok dL_holds_571 (by decide) (by first | exact rg_w _ | exact rg_tw (by unfold rg; omega) (by unfold rg; omega) | (unfold rg; omega) | omega | assumption | exact bz_rg _) (fun c571 => ?_) (fun c571 => ?_)
                      · exfalso; first | omega | grind
                      · refine a_iload (pc := 574) ok dL_holds_574 rfl ?_
                        refine a_if_eq (pc := 576) (tgt := 595) ok dL_holds_576 (by decide) (by first | exact rg_w _ | exact rg_tw (by unfold rg; omega) (by unfold rg; omega) | (unfold rg; omega) | omega | assumption | exact bz_rg _) (fun c576 => ?_) (fun c576 => ?_)
                        · exfalso; first | omega | grind
                        · have v7 := ps (by omega)
                          have v8 := rs (by omega)
                          refine a_aload (pc := 579) ok dL_holds_579 rfl ?_
                          refine a_aload (pc := 581) ok dL_holds_581 rfl ?_
                          refine a_iload (pc := 583) ok dL_holds_583 rfl ?_
                          refine a_iload (pc := 585) ok dL_holds_585 rfl ?_
                          refine a_iload_n (pc := 587) ok dL_holds_587 rfl ?_
                          refine a_iadd (pc := 588) ok dL_holds_588 ?_
                          refine a_callSp (pc := 589) ok [103, 104] dL_holds_589 mvL_219 miL_pair (c_lpair (f := f7) (g := f8) (k := (k : Int)) (t := (k : Int) + sC (jS A)) (by omega) (by omega) r7 v8.2.1 r0 v8.1 v8.2.2) ⟨by decide, by decide, rfl, rfl, Nat.le_of_ble_eq_true rfl, Nat.le_of_ble_eq_true rfl⟩ rfl rfl (Nat.le_of_ble_eq_true rfl) (fit_pair (WO_len hW)) (by decide) ?_
                          refine a_if_eq (pc := 592) (tgt := 599) ok dL_holds_592 (by decide) (by first | exact rg_w _ | exact rg_tw (by unfold rg; omega) (by unfold rg; omega) | (unfold rg; omega) | omega | assumption | exact bz_rg _) (fun c592 => ?_) (fun c592 => ?_)
                          · exfalso; first | omega | grind
                          · refine a_iconst (pc := 595) ok dL_holds_595 ?_
                            refine a_goto (pc := 596) (tgt := 600) ok dL_holds_596 (by decide) ?_
                            refine a_istore (pc := 600) ok dL_holds_600 rfl (by rw [hN]; decide) ?_
                            refine a_iinc (pc := 602) ok dL_holds_602 rfl rfl (by rw [hN]; decide) ?_
                            refine a_goto (pc := 605) (tgt := 452) ok dL_holds_605 (by decide) ?_
                            have q9 := s2e 1 0 (by rw [if_pos ⟨by omega, c516⟩]) (by rw [if_neg (fun y => y.2 c541)])
                            refine AW.cast (fin (some (iv 1)) (some (iv 1))) ?_ rfl rfl
                            rw [← q9] <;> rfl
                  · refine a_iconst (pc := 544) ok dL_holds_544 ?_
                    refine a_goto (pc := 545) (tgt := 549) ok dL_holds_545 (by decide) ?_
                    refine a_iadd (pc := 549) ok dL_holds_549 ?_
                    refine a_iadd (pc := 550) ok dL_holds_550 ?_
                    refine a_istore (pc := 551) ok dL_holds_551 rfl (by rw [hN]; decide) ?_
                    refine a_iload (pc := 553) ok dL_holds_553 rfl ?_
                    refine a_if_eq (pc := 555) (tgt := 574) ok dL_holds_555 (by decide) (by first | exact rg_w _ | exact rg_tw (by unfold rg; omega) (by unfold rg; omega) | (unfold rg; omega) | omega | assumption | exact bz_rg _) (fun c555 => ?_) (fun c555 => ?_)
                    · exfalso; first | omega | grind
                    · have v5 := pe (by omega)
                      have v6 := re (by omega)
                      refine a_aload (pc := 558) ok dL_holds_558 rfl ?_
                      refine a_aload (pc := 560) ok dL_holds_560 rfl ?_
                      refine a_iload (pc := 562) ok dL_holds_562 rfl ?_
                      refine a_iload (pc := 564) ok dL_holds_564 rfl ?_
                      refine a_iconst (pc := 566) ok dL_holds_566 ?_
                      refine a_iadd (pc := 567) ok dL_holds_567 ?_
                      refine a_callSp (pc := 568) ok [103, 104] dL_holds_568 mvL_219 miL_pair (c_lpair (f := f7) (g := f8) (k := (k : Int)) (t := (k : Int) + 1) (by omega) (by omega) r7 v6.2.1 r0 v6.1 v6.2.2) ⟨by decide, by decide, rfl, rfl, Nat.le_of_ble_eq_true rfl, Nat.le_of_ble_eq_true rfl⟩ rfl rfl (Nat.le_of_ble_eq_true rfl) (fit_pair (WO_len hW)) (by decide) ?_
                      refine a_if_eq (pc := 571) (tgt := 599) ok dL_holds_571 (by decide) (by first | exact rg_w _ | exact rg_tw (by unfold rg; omega) (by unfold rg; omega) | (unfold rg; omega) | omega | assumption | exact bz_rg _) (fun c571 => ?_) (fun c571 => ?_)
                      · exfalso; first | omega | grind
                      · refine a_iload (pc := 574) ok dL_holds_574 rfl ?_
                        refine a_if_eq (pc := 576) (tgt := 595) ok dL_holds_576 (by decide) (by first | exact rg_w _ | exact rg_tw (by unfold rg; omega) (by unfold rg; omega) | (unfold rg; omega) | omega | assumption | exact bz_rg _) (fun c576 => ?_) (fun c576 => ?_)
                        · exfalso; first | omega | grind
                        · have v7 := ps (by omega)
                          have v8 := rs (by omega)
                          refine a_aload (pc := 579) ok dL_holds_579 rfl ?_
                          refine a_aload (pc := 581) ok dL_holds_581 rfl ?_
                          refine a_iload (pc := 583) ok dL_holds_583 rfl ?_
                          refine a_iload (pc := 585) ok dL_holds_585 rfl ?_
                          refine a_iload_n (pc := 587) ok dL_holds_587 rfl ?_
                          refine a_iadd (pc := 588) ok dL_holds_588 ?_
                          refine a_callSp (pc := 589) ok [103, 104] dL_holds_589 mvL_219 miL_pair (c_lpair (f := f7) (g := f8) (k := (k : Int)) (t := (k : Int) + sC (jS A)) (by omega) (by omega) r7 v8.2.1 r0 v8.1 v8.2.2) ⟨by decide, by decide, rfl, rfl, Nat.le_of_ble_eq_true rfl, Nat.le_of_ble_eq_true rfl⟩ rfl rfl (Nat.le_of_ble_eq_true rfl) (fit_pair (WO_len hW)) (by decide) ?_
                          refine a_if_eq (pc := 592) (tgt := 599) ok dL_holds_592 (by decide) (by first | exact rg_w _ | exact rg_tw (by unfold rg; omega) (by unfold rg; omega) | (unfold rg; omega) | omega | assumption | exact bz_rg _) (fun c592 => ?_) (fun c592 => ?_)
                          · exfalso; first | omega | grind
                          · refine a_iconst (pc := 595) ok dL_holds_595 ?_
                            refine a_goto (pc := 596) (tgt := 600) ok dL_holds_596 (by decide) ?_
                            refine a_istore (pc := 600) ok dL_holds_600 rfl (by rw [hN]; decide) ?_
                            refine a_iinc (pc := 602) ok dL_holds_602 rfl rfl (by rw [hN]; decide) ?_
                            refine a_goto (pc := 605) (tgt := 452) ok dL_holds_605 (by decide) ?_
                            have q9 := s2e 1 1 (by rw [if_pos ⟨by omega, c516⟩]) (by rw [if_pos ⟨by omega, c541⟩])
                            refine AW.cast (fin (some (iv 1)) (some (iv 1))) ?_ rfl rfl
                            rw [← q9] <;> rfl
end HO4
