/-! THE LAW: what holds on each plate: bands, ink, sizes. Printed by wip/p37/gen/mkhold.py. -/
section HO5
variable {A : Ob}
theorem hold4 {X : Cx} (hl : X.1.2.1.stackTraces = false) (hN : nLof X = 21) (gk : GK X cL_holds RL (some .boolean) rgL_holds (po1 1 A) rgL_holds.cells rgL_holds.slots 108) (ex : EX X) (hA : VA A) (hB : VB A) {f7 f8 f9 f10 f11 : Int → Int} {ot su nx sd : Int} (hf : ∀ v : Int, f10 v = cntK (fun j => decide ((bS (jS A)) j = v)) (sC (jS A) * sR (jS A)).toNat) (K : ∀ (M : List va_E) (a19 : Option Value), WO A M → AW X 1200 9000 688 [some (.ref 0), some (iv (sC (jS A))), some (iv (sR (jS A))), some (iv (sN (jS A) : Int)), some (iv (sE (jS A))), some (iv (mS (jS A))), some (iv (sC (jS A) * sR (jS A))), some (.ref 103), some (.ref 104), some (.ref 105), some (.ref 106), some (.ref 107), some (iv ot), some (iv su), some (iv 1), some (iv nx), some (iv sd), some (iv (w32 (sI (jS A) * sd + sumK (fun u => cntK (fun j => decide ((bS (jS A)) j = u)) (sC (jS A) * sR (jS A)).toNat * sH (jS A) u) (sN (jS A) + 1)))), some (iv ((sN (jS A) + 1 : Nat) : Int)), a19, none] [] (M ++ [ia 64 f7, ia 64 f8, ia 64 f9, ia 6 f10, ia 5 f11])) :
    ∀ d k : Nat, (k : Int) + d = (sN (jS A) : Int) + 1 → ∀ (M : List va_E) (a19 : Option Value), WO A M → AW X (1100 + 10 * k) (8100 + 60 * k) 625 [some (.ref 0), some (iv (sC (jS A))), some (iv (sR (jS A))), some (iv (sN (jS A) : Int)), some (iv (sE (jS A))), some (iv (mS (jS A))), some (iv (sC (jS A) * sR (jS A))), some (.ref 103), some (.ref 104), some (.ref 105), some (.ref 106), some (.ref 107), some (iv ot), some (iv su), some (iv 1), some (iv nx), some (iv sd), some (iv (sI (jS A) * sd + sumK (fun u => cntK (fun j => decide ((bS (jS A)) j = u)) (sC (jS A) * sR (jS A)).toNat * sH (jS A) u) k)), some (iv (k : Int)), a19, none] [] (M ++ [ia 64 f7, ia 64 f8, ia 64 f9, ia 6 f10, ia 5 f11]) := by
  intro d
  induction d with
  | zero =>
    intro k hk M a19 hW
    have ok := gk.ok
    obtain ⟨g1, g2, g3, g4, g5, g6⟩ := H_facts hA hB
    have ek : k = sN (jS A) + 1 := by omega
    subst ek
    refine a_iload (pc := 625) ok dL_holds_625 rfl ?_
    refine a_iload_n (pc := 627) ok dL_holds_627 rfl ?_
    refine a_icmp_gt (pc := 628) (tgt := 688) ok dL_holds_628 (by decide) (by first | exact rg_w _ | exact rg_tw (by unfold rg; omega) (by unfold rg; omega) | (unfold rg; omega) | omega | assumption | exact bz_rg _) (by first | exact rg_w _ | exact rg_tw (by unfold rg; omega) (by unfold rg; omega) | (unfold rg; omega) | omega | assumption | exact bz_rg _) (fun c628 => ?_) (fun c628 => ?_)
    · refine AW.widen (kc2 := 1200) (ks2 := 9000) (by omega) (by omega) ?_
      exact AW.cast (L2 := [some (.ref 0), some (iv (sC (jS A))), some (iv (sR (jS A))), some (iv (sN (jS A) : Int)), some (iv (sE (jS A))), some (iv (mS (jS A))), some (iv (sC (jS A) * sR (jS A))), some (.ref 103), some (.ref 104), some (.ref 105), some (.ref 106), some (.ref 107), some (iv ot), some (iv su), some (iv 1), some (iv nx), some (iv sd), some (iv (w32 (sI (jS A) * sd + sumK (fun u => cntK (fun j => decide ((bS (jS A)) j = u)) (sC (jS A) * sR (jS A)).toNat * sH (jS A) u) (sN (jS A) + 1)))), some (iv ((sN (jS A) + 1 : Nat) : Int)), a19, none]) (K M a19 hW) (by rw [iv_w (sI (jS A) * sd + sumK (fun u => cntK (fun j => decide ((bS (jS A)) j = u)) (sC (jS A) * sR (jS A)).toNat * sH (jS A) u) (sN (jS A) + 1))] <;> rfl) rfl rfl
    · exfalso; first | omega | grind
  | succ d ih =>
    intro k hk M a19 hW
    have ok := gk.ok
    obtain ⟨g1, g2, g3, g4, g5, g6⟩ := H_facts hA hB
    have h9 := hB.1.2.1 (k : Int) (by omega) (by omega)
    have cB := cntK_rg (fun j => decide ((bS (jS A)) j = (k : Int))) (sC (jS A) * sR (jS A)).toNat
    have e10 := hf (k : Int)
    have y0 : w32 (aBand (jS A) (k : Int) 0) = sH (jS A) k := w_id (z := sH (jS A) k) (by unfold rg; omega)
    have y1 : w32 (aBand (jS A) (k : Int) 1) = f10 k := by rw [e10]; exact w_id (z := cntK (fun j => decide ((bS (jS A)) j = (k : Int))) (sC (jS A) * sR (jS A)).toNat) (by unfold rg; omega)
    have r1 : rg (f10 k) := by rw [e10]; unfold rg; omega
    have q9 : (sI (jS A) * sd + sumK (fun u => cntK (fun j => decide ((bS (jS A)) j = u)) (sC (jS A) * sR (jS A)).toNat * sH (jS A) u) k) + f10 k * sH (jS A) k = (sI (jS A) * sd + sumK (fun u => cntK (fun j => decide ((bS (jS A)) j = u)) (sC (jS A) * sR (jS A)).toNat * sH (jS A) u) (k + 1)) := by rw [e10]; exact Int.add_assoc _ _ _
    have fin : ∀ (M : List va_E) (a19 : Option Value), WO A M → AW X (1100 + 10 * (k + 1)) (8100 + 60 * (k + 1)) 625 [some (.ref 0), some (iv (sC (jS A))), some (iv (sR (jS A))), some (iv (sN (jS A) : Int)), some (iv (sE (jS A))), some (iv (mS (jS A))), some (iv (sC (jS A) * sR (jS A))), some (.ref 103), some (.ref 104), some (.ref 105), some (.ref 106), some (.ref 107), some (iv ot), some (iv su), some (iv 1), some (iv nx), some (iv sd), some (iv (sI (jS A) * sd + sumK (fun u => cntK (fun j => decide ((bS (jS A)) j = u)) (sC (jS A) * sR (jS A)).toNat * sH (jS A) u) (k + 1))), some (iv ((k + 1 : Nat) : Int)), a19, none] [] (M ++ [ia 64 f7, ia 64 f8, ia 64 f9, ia 6 f10, ia 5 f11]) := fun M a19 hW => ih (k + 1) (by omega) M a19 hW
    refine a_iload (pc := 625) ok dL_holds_625 rfl ?_
    refine a_iload_n (pc := 627) ok dL_holds_627 rfl ?_
    refine a_icmp_gt (pc := 628) (tgt := 688) ok dL_holds_628 (by decide) (by first | exact rg_w _ | exact rg_tw (by unfold rg; omega) (by unfold rg; omega) | (unfold rg; omega) | omega | assumption | exact bz_rg _) (by first | exact rg_w _ | exact rg_tw (by unfold rg; omega) (by unfold rg; omega) | (unfold rg; omega) | omega | assumption | exact bz_rg _) (fun c628 => ?_) (fun c628 => ?_)
    · exfalso; first | omega | grind
    · refine a_iload (pc := 631) ok dL_holds_631 rfl ?_
      refine a_if_eq (pc := 633) (tgt := 688) ok dL_holds_633 (by decide) (by first | exact rg_w _ | exact rg_tw (by unfold rg; omega) (by unfold rg; omega) | (unfold rg; omega) | omega | assumption | exact bz_rg _) (fun c633 => ?_) (fun c633 => ?_)
      · exfalso; first | omega | grind
      · refine a_iload (pc := 636) ok dL_holds_636 rfl ?_
        refine a_aload (pc := 638) ok dL_holds_638 rfl ?_
        refine a_iload (pc := 640) ok dL_holds_640 rfl ?_
        refine a_haL (pc := 642) (j := 3) ok (WO_len hW) dL_holds_642 rfl (by decide) (by omega) ?_
        refine a_aload_n (pc := 643) ok dL_holds_643 rfl ?_
        refine a_bipush (pc := 644) ok dL_holds_644 (by decide) ?_
        refine a_iload (pc := 646) ok dL_holds_646 rfl ?_
        refine a_iconst (pc := 648) ok dL_holds_648 ?_
        refine a_iconst (pc := 649) ok dL_holds_649 ?_
        refine v_h (pc := 650) ok ex gk.1 dL_holds_650 (ug2 16 (by decide +kernel) rfl) (ug2 17 (by decide +kernel) rfl) miL_call hW (ctv_eq y0 (ctv_ok (by unfold kBand; (repeat' split) <;> omega) (C_9 hl hA hW (x := (k : Int)) (w := 0) (u3 := 0) (by unfold rg; omega) (by unfold rg; omega)))) ⟨by decide, by decide⟩ ⟨by show 1100 + 10 * k + 1 ≤ 5000; omega, by show 8100 + 60 * k + 6 ≤ 40000; omega⟩ rfl rfl (Nat.le_of_ble_eq_true rfl) ?_
        intro M hW
        refine a_imul (pc := 653) ok dL_holds_653 ?_
        refine a_iadd (pc := 654) ok dL_holds_654 ?_
        refine a_istore (pc := 655) ok dL_holds_655 rfl (by rw [hN]; decide) ?_
        refine a_aload_n (pc := 657) ok dL_holds_657 rfl ?_
        refine a_bipush (pc := 658) ok dL_holds_658 (by decide) ?_
        refine a_iload (pc := 660) ok dL_holds_660 rfl ?_
        refine a_iconst (pc := 662) ok dL_holds_662 ?_
        refine a_iconst (pc := 663) ok dL_holds_663 ?_
        refine v_h (pc := 664) ok ex gk.1 dL_holds_664 (ug2 16 (by decide +kernel) rfl) (ug2 17 (by decide +kernel) rfl) miL_call hW (ctv_eq y1 (ctv_ok (by unfold kBand; (repeat' split) <;> omega) (C_9 hl hA hW (x := (k : Int)) (w := 1) (u3 := 0) (by unfold rg; omega) (by unfold rg; omega)))) ⟨by decide, by decide⟩ ⟨by show 1100 + 10 * k + 1 + 1 ≤ 5000; omega, by show 8100 + 60 * k + 6 + 6 ≤ 40000; omega⟩ rfl rfl (Nat.le_of_ble_eq_true rfl) ?_
        intro M hW
        refine a_aload (pc := 667) ok dL_holds_667 rfl ?_
        refine a_iload (pc := 669) ok dL_holds_669 rfl ?_
        refine a_haL (pc := 671) (j := 3) ok (WO_len hW) dL_holds_671 rfl (by decide) (by omega) ?_
        refine a_icmp_ne (pc := 672) (tgt := 679) ok dL_holds_672 (by decide) (by first | exact rg_w _ | exact rg_tw (by unfold rg; omega) (by unfold rg; omega) | (unfold rg; omega) | omega | assumption | exact bz_rg _) (by first | exact rg_w _ | exact rg_tw (by unfold rg; omega) (by unfold rg; omega) | (unfold rg; omega) | omega | assumption | exact bz_rg _) (fun c672 => ?_) (fun c672 => ?_)
        · exact absurd rfl c672
        · refine a_iconst (pc := 675) ok dL_holds_675 ?_
          refine a_goto (pc := 676) (tgt := 680) ok dL_holds_676 (by decide) ?_
          refine a_istore (pc := 680) ok dL_holds_680 rfl (by rw [hN]; decide) ?_
          refine a_iinc (pc := 682) ok dL_holds_682 rfl rfl (by rw [hN]; decide) ?_
          refine a_goto (pc := 685) (tgt := 625) ok dL_holds_685 (by decide) ?_
          refine AW.widen (kc2 := 1100 + 10 * (k + 1)) (ks2 := 8100 + 60 * (k + 1)) (by show 1100 + 10 * k + 1 + 1 ≤ _; omega) (by show 8100 + 60 * k + 6 + 6 ≤ _; omega) ?_
          refine AW.cast (fin M a19 hW) ?_ rfl rfl
          rw [← q9] <;> rfl
theorem hold5 {X : Cx} (hl : X.1.2.1.stackTraces = false) (hN : nLof X = 21) (gk : GK X cL_holds RL (some .boolean) rgL_holds (po1 1 A) rgL_holds.cells rgL_holds.slots 108) (ex : EX X) (hA : VA A) (hB : VB A) {f7 f8 f9 f10 f11 : Int → Int} {ot su nx sd ik : Int} (hf : ∀ i : Int, f9 i = cntK (fun j => decide ((own (sC (jS A)) (sR (jS A)) (bS (jS A))) j = i)) (sC (jS A) * sR (jS A)).toNat) {M : List va_E} (hW : WO A M) (a19 : Option Value) (K : AW X 1200 9000 732 [some (.ref 0), some (iv (sC (jS A))), some (iv (sR (jS A))), some (iv (sN (jS A) : Int)), some (iv (sE (jS A))), some (iv (mS (jS A))), some (iv (sC (jS A) * sR (jS A))), some (.ref 103), some (.ref 104), some (.ref 105), some (.ref 106), some (.ref 107), some (iv ot), some (iv su), some (iv 1), some (iv nx), some (iv sd), some (iv ik), some (iv (mS (jS A))), a19, none] [] (M ++ [ia 64 f7, ia 64 f8, ia 64 f9, ia 6 f10, ia 5 f11])) :
    ∀ d k : Nat, (k : Int) + d = mS (jS A) → AW X 1200 9000 691 [some (.ref 0), some (iv (sC (jS A))), some (iv (sR (jS A))), some (iv (sN (jS A) : Int)), some (iv (sE (jS A))), some (iv (mS (jS A))), some (iv (sC (jS A) * sR (jS A))), some (.ref 103), some (.ref 104), some (.ref 105), some (.ref 106), some (.ref 107), some (iv ot), some (iv su), some (iv 1), some (iv nx), some (iv sd), some (iv ik), some (iv (k : Int)), a19, none] [] (M ++ [ia 64 f7, ia 64 f8, ia 64 f9, ia 6 f10, ia 5 f11]) := by
  intro d
  induction d with
  | zero =>
    intro k hk
    have ok := gk.ok
    obtain ⟨g1, g2, g3, g4, g5, g6⟩ := H_facts hA hB
    refine a_iload (pc := 691) ok dL_holds_691 rfl ?_
    refine a_iload (pc := 693) ok dL_holds_693 rfl ?_
    refine a_icmp_ge (pc := 695) (tgt := 732) ok dL_holds_695 (by decide) (by first | exact rg_w _ | exact rg_tw (by unfold rg; omega) (by unfold rg; omega) | (unfold rg; omega) | omega | assumption | exact bz_rg _) (by first | exact rg_w _ | exact rg_tw (by unfold rg; omega) (by unfold rg; omega) | (unfold rg; omega) | omega | assumption | exact bz_rg _) (fun c695 => ?_) (fun c695 => ?_)
    · exact AW.cast (L2 := [some (.ref 0), some (iv (sC (jS A))), some (iv (sR (jS A))), some (iv (sN (jS A) : Int)), some (iv (sE (jS A))), some (iv (mS (jS A))), some (iv (sC (jS A) * sR (jS A))), some (.ref 103), some (.ref 104), some (.ref 105), some (.ref 106), some (.ref 107), some (iv ot), some (iv su), some (iv 1), some (iv nx), some (iv sd), some (iv ik), some (iv (mS (jS A))), a19, none]) K (by rw [show (k : Int) = mS (jS A) by omega]) rfl rfl
    · exfalso; first | omega | grind
  | succ d ih =>
    intro k hk
    have ok := gk.ok
    obtain ⟨g1, g2, g3, g4, g5, g6⟩ := H_facts hA hB
    have hd := hA.1.1
    have hm9 : mny (sC (jS A)) (sR (jS A)) (bS (jS A)) = mS (jS A) := rfl
    have e9 := hf (k : Int)
    have e8 : f9 k = siz (sC (jS A)) (sR (jS A)) (bS (jS A)) (fo (sC (jS A)) (sR (jS A)) (bS (jS A)) k) := e9.trans (many_siz (b := bS (jS A)) hd (by omega) (by omega))
    have hs := siz_rg (c := sC (jS A)) (r := sR (jS A)) (B := bS (jS A)) hd (fo (sC (jS A)) (sR (jS A)) (bS (jS A)) k)
    have hl9 := siz_least (b := bS (jS A)) (le := sE (jS A)) (b0 := (bnd (sT (jS A)) (sN (jS A)) (sG (jS A)))) hd rfl (i := (k : Int)) (by omega) (by omega)
    have r1 : rg (f9 k) := by rw [e8]; unfold rg; omega
    have fin : AW X 1200 9000 691 [some (.ref 0), some (iv (sC (jS A))), some (iv (sR (jS A))), some (iv (sN (jS A) : Int)), some (iv (sE (jS A))), some (iv (mS (jS A))), some (iv (sC (jS A) * sR (jS A))), some (.ref 103), some (.ref 104), some (.ref 105), some (.ref 106), some (.ref 107), some (iv ot), some (iv su), some (iv 1), some (iv nx), some (iv sd), some (iv ik), some (iv ((k + 1 : Nat) : Int)), a19, none] [] (M ++ [ia 64 f7, ia 64 f8, ia 64 f9, ia 6 f10, ia 5 f11]) := ih (k + 1) (by omega)
    refine a_iload (pc := 691) ok dL_holds_691 rfl ?_
    refine a_iload (pc := 693) ok dL_holds_693 rfl ?_
    refine a_icmp_ge (pc := 695) (tgt := 732) ok dL_holds_695 (by decide) (by first | exact rg_w _ | exact rg_tw (by unfold rg; omega) (by unfold rg; omega) | (unfold rg; omega) | omega | assumption | exact bz_rg _) (by first | exact rg_w _ | exact rg_tw (by unfold rg; omega) (by unfold rg; omega) | (unfold rg; omega) | omega | assumption | exact bz_rg _) (fun c695 => ?_) (fun c695 => ?_)
    · exfalso; first | omega | grind
    · refine a_iload (pc := 698) ok dL_holds_698 rfl ?_
      refine a_if_eq (pc := 700) (tgt := 732) ok dL_holds_700 (by decide) (by first | exact rg_w _ | exact rg_tw (by unfold rg; omega) (by unfold rg; omega) | (unfold rg; omega) | omega | assumption | exact bz_rg _) (fun c700 => ?_) (fun c700 => ?_)
      · exfalso; first | omega | grind
      · refine a_iload (pc := 703) ok dL_holds_703 rfl ?_
        refine a_iconst (pc := 705) ok dL_holds_705 ?_
        refine a_icmp_eq (pc := 706) (tgt := 719) ok dL_holds_706 (by decide) (by first | exact rg_w _ | exact rg_tw (by unfold rg; omega) (by unfold rg; omega) | (unfold rg; omega) | omega | assumption | exact bz_rg _) (by first | exact rg_w _ | exact rg_tw (by unfold rg; omega) (by unfold rg; omega) | (unfold rg; omega) | omega | assumption | exact bz_rg _) (fun c706 => ?_) (fun c706 => ?_)
        · refine a_iconst (pc := 719) ok dL_holds_719 ?_
          refine a_goto (pc := 720) (tgt := 724) ok dL_holds_720 (by decide) ?_
          refine a_istore (pc := 724) ok dL_holds_724 rfl (by rw [hN]; decide) ?_
          refine a_iinc (pc := 726) ok dL_holds_726 rfl rfl (by rw [hN]; decide) ?_
          refine a_goto (pc := 729) (tgt := 691) ok dL_holds_729 (by decide) ?_
          exact fin
        · refine a_aload (pc := 709) ok dL_holds_709 rfl ?_
          refine a_iload (pc := 711) ok dL_holds_711 rfl ?_
          refine a_haL (pc := 713) (j := 2) ok (WO_len hW) dL_holds_713 rfl (by decide) (by omega) ?_
          refine a_iload (pc := 714) ok dL_holds_714 rfl ?_
          refine a_icmp_lt (pc := 716) (tgt := 723) ok dL_holds_716 (by decide) (by first | exact rg_w _ | exact rg_tw (by unfold rg; omega) (by unfold rg; omega) | (unfold rg; omega) | omega | assumption | exact bz_rg _) (by first | exact rg_w _ | exact rg_tw (by unfold rg; omega) (by unfold rg; omega) | (unfold rg; omega) | omega | assumption | exact bz_rg _) (fun c716 => ?_) (fun c716 => ?_)
          · exfalso; rw [e8] at c716; omega
          · refine a_iconst (pc := 719) ok dL_holds_719 ?_
            refine a_goto (pc := 720) (tgt := 724) ok dL_holds_720 (by decide) ?_
            refine a_istore (pc := 724) ok dL_holds_724 rfl (by rw [hN]; decide) ?_
            refine a_iinc (pc := 726) ok dL_holds_726 rfl rfl (by rw [hN]; decide) ?_
            refine a_goto (pc := 729) (tgt := 691) ok dL_holds_729 (by decide) ?_
            exact fin
end HO5
