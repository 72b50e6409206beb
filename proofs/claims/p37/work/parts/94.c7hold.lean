/-! THE LAW: what holds on each plate: the end. Printed by wip/p37/gen/mkhold.py. -/
section HO7
variable {A : Ob}
theorem hold6 {X : Cx} (hl : X.1.2.1.stackTraces = false) (hN : nLof X = 21) (gk : GK X cL_holds RL (some .boolean) rgL_holds (po1 1 A) rgL_holds.cells rgL_holds.slots 108) (ex : EX X) (hA : VA A) (hB : VB A) {f7 f8 f9 f10 f11 : Int → Int} (hf : ∀ i : Int, f9 i = cntK (fun j => decide ((own (sC (jS A)) (sR (jS A)) (bS (jS A))) j = i)) (sC (jS A) * sR (jS A)).toNat) {M : List va_E} (hW : WO A M) (a19 : Option Value) : AW X 1200 9000 732 [some (.ref 0), some (iv (sC (jS A))), some (iv (sR (jS A))), some (iv (sN (jS A) : Int)), some (iv (sE (jS A))), some (iv (mS (jS A))), some (iv (sC (jS A) * sR (jS A))), some (.ref 103), some (.ref 104), some (.ref 105), some (.ref 106), some (.ref 107), some (iv (cntK (fun j => decide (bS (jS A) j ≠ (bnd (sT (jS A)) (sN (jS A)) (sG (jS A))) j)) (sC (jS A) * sR (jS A)).toNat)), some (iv (sumK (sG (jS A)) (sC (jS A) * sR (jS A)).toNat)), some (iv 1), some (iv (rk (sC (jS A)) (sR (jS A)) (bS (jS A)) ((sC (jS A) * sR (jS A))))), some (iv (sumK (s2 (sC (jS A)) (sR (jS A)) (bS (jS A))) (sC (jS A) * sR (jS A)).toNat)), some (iv (w32 (sI (jS A) * sumK (s2 (sC (jS A)) (sR (jS A)) (bS (jS A))) (sC (jS A) * sR (jS A)).toNat + sumK (fun u => cntK (fun j => decide ((bS (jS A)) j = u)) (sC (jS A) * sR (jS A)).toNat * sH (jS A) u) (sN (jS A) + 1)))), some (iv (mS (jS A))), a19, none] [] (M ++ [ia 64 f7, ia 64 f8, ia 64 f9, ia 6 f10, ia 5 f11]) := by
  have ok := gk.ok
  obtain ⟨g1, g2, g3, g4, g5, g6⟩ := H_facts hA hB
  have hd := hA.1.1
  have su := sumK_rg (f := sG (jS A)) (d := 99) (fun k => hA.1.2.1 k) (sC (jS A) * sR (jS A)).toNat
  have i0 : 0 ≤ (sumK (sG (jS A)) (sC (jS A) * sR (jS A)).toNat % mS (jS A)) ∧ (sumK (sG (jS A)) (sC (jS A) * sR (jS A)).toNat % mS (jS A)) < mS (jS A) := ⟨Int.emod_nonneg _ (by omega), Int.emod_lt_of_pos _ (by omega)⟩
  obtain ⟨⟨v1, v2, v3⟩, v4, v5, v6, v7, v8, v9, v10, v11, v12⟩ := isl_ok (S := jS A) hA.1 i0
  have e1 : aIsland (jS A) (sumK (sG (jS A)) (sC (jS A) * sR (jS A)).toNat % mS (jS A)) 1 = f9 (sumK (sG (jS A)) (sC (jS A) * sR (jS A)).toNat % mS (jS A)) := ((hf (sumK (sG (jS A)) (sC (jS A) * sR (jS A)).toNat % mS (jS A))).trans (many_siz (b := bS (jS A)) hd i0.1 i0.2)).symm
  have hs := siz_rg (c := sC (jS A)) (r := sR (jS A)) (B := bS (jS A)) hd (fS (jS A) (sumK (sG (jS A)) (sC (jS A) * sR (jS A)).toNat % mS (jS A)))
  have hs1 : 0 ≤ aIsland (jS A) (sumK (sG (jS A)) (sC (jS A) * sR (jS A)).toNat % mS (jS A)) 1 ∧ aIsland (jS A) (sumK (sG (jS A)) (sC (jS A) * sR (jS A)).toNat % mS (jS A)) 1 ≤ 144 := hs
  have hs2 : 0 ≤ aIsland (jS A) (aIsland (jS A) (sumK (sG (jS A)) (sC (jS A) * sR (jS A)).toNat % mS (jS A)) 7) 1 ∧ aIsland (jS A) (aIsland (jS A) (sumK (sG (jS A)) (sC (jS A) * sR (jS A)).toNat % mS (jS A)) 7) 1 ≤ 144 := siz_rg (c := sC (jS A)) (r := sR (jS A)) (B := bS (jS A)) hd _
  have hs3 : 0 ≤ aIsland (jS A) (aIsland (jS A) (sumK (sG (jS A)) (sC (jS A) * sR (jS A)).toNat % mS (jS A)) 7) 8 ∧ aIsland (jS A) (aIsland (jS A) (sumK (sG (jS A)) (sC (jS A) * sR (jS A)).toNat % mS (jS A)) 7) 8 ≤ 144 := inF_rg (b := bS (jS A)) hd _
  have c6 := cntK_rg (fun j => decide ((bS (jS A)) j ≠ (bnd (sT (jS A)) (sN (jS A)) (sG (jS A))) j)) (sC (jS A) * sR (jS A)).toNat
  have y6 : w32 (aAbout (jS A) 6) = (cntK (fun j => decide (bS (jS A) j ≠ (bnd (sT (jS A)) (sN (jS A)) (sG (jS A))) j)) (sC (jS A) * sR (jS A)).toNat) := w_id (z := (cntK (fun j => decide (bS (jS A) j ≠ (bnd (sT (jS A)) (sN (jS A)) (sG (jS A))) j)) (sC (jS A) * sR (jS A)).toNat)) (by unfold rg; omega)
  have a7 := asK_rg (c := sC (jS A)) (r := sR (jS A)) (b := bS (jS A)) (sC (jS A) * sR (jS A)).toNat
  have s7 := sides_ok (b := bS (jS A)) hd
  have y7 : w32 (aAbout (jS A) 7) = sumK (s2 (sC (jS A)) (sR (jS A)) (bS (jS A))) (sC (jS A) * sR (jS A)).toNat := by rw [s7]; exact w_id (z := asK (sC (jS A)) (sR (jS A)) (bS (jS A)) (sC (jS A) * sR (jS A)).toNat / 2) (by unfold rg; omega)
  have y10 : w32 (aAbout (jS A) 10) = sumK (sG (jS A)) (sC (jS A) * sR (jS A)).toNat := w_id (z := sumK (sG (jS A)) (sC (jS A) * sR (jS A)).toNat) (by unfold rg; omega)
  have m5 := mny_1 (B := (bnd (sT (jS A)) (sN (jS A)) (sG (jS A)))) hd
  have y5 : w32 (aAbout (jS A) 5) = mny (sC (jS A)) (sR (jS A)) (bnd (sT (jS A)) (sN (jS A)) (sG (jS A))) := w_id (z := mny (sC (jS A)) (sR (jS A)) (bnd (sT (jS A)) (sN (jS A)) (sG (jS A)))) (by unfold rg; omega)
  have l5 : mS (jS A) ≤ mny (sC (jS A)) (sR (jS A)) (bnd (sT (jS A)) (sN (jS A)) (sG (jS A))) := mrg_less hd (le := sE (jS A)) 144 (bnd (sT (jS A)) (sN (jS A)) (sG (jS A)))
  have r9 : rg (f9 (sumK (sG (jS A)) (sC (jS A) * sR (jS A)).toNat % mS (jS A))) := by rw [← e1]; unfold rg; omega
  have rs7 : rg (sumK (s2 (sC (jS A)) (sR (jS A)) (bS (jS A))) (sC (jS A) * sR (jS A)).toNat) := by rw [s7]; unfold rg; omega
  have n9 : (rk (sC (jS A)) (sR (jS A)) (bS (jS A)) ((sC (jS A) * sR (jS A)))) = mS (jS A) := rfl
  have rn9 : rg (rk (sC (jS A)) (sR (jS A)) (bS (jS A)) ((sC (jS A) * sR (jS A)))) := by rw [n9]; unfold rg; omega
  have ro9 : rg (cntK (fun j => decide (bS (jS A) j ≠ (bnd (sT (jS A)) (sN (jS A)) (sG (jS A))) j)) (sC (jS A) * sR (jS A)).toNat) := by unfold rg; omega
  have rs9 : rg (sumK (sG (jS A)) (sC (jS A) * sR (jS A)).toNat) := by unfold rg; omega
  have ink9 := ink_ok (S := jS A) hA.1
  have su9 : 0 ≤ sumK (sG (jS A)) (sC (jS A) * sR (jS A)).toNat ∧ sumK (sG (jS A)) (sC (jS A) * sR (jS A)).toNat < 2147483648 := by omega
  clear a7 su c6 s7 hs
  refine a_iload (pc := 732) ok dL_holds_732 rfl ?_
  refine a_iload (pc := 734) ok dL_holds_734 rfl ?_
  refine a_irem (pc := 736) ok dL_holds_736 (by first | omega) (by first | omega) ?_
  refine a_istore (pc := 737) ok dL_holds_737 rfl (by rw [hN]; decide) ?_
  refine a_aload_n (pc := 739) ok dL_holds_739 rfl ?_
  refine a_bipush (pc := 740) ok dL_holds_740 (by decide) ?_
  refine a_iload (pc := 742) ok dL_holds_742 rfl ?_
  refine a_iconst (pc := 744) ok dL_holds_744 ?_
  refine a_iconst (pc := 745) ok dL_holds_745 ?_
  refine v_h (pc := 746) ok ex gk.1 dL_holds_746 (ug2 16 (by decide +kernel) rfl) (ug2 17 (by decide +kernel) rfl) miL_call hW (ctv_eq (w_id (by unfold rg; omega)) (ctv_ok (by unfold kIsle; (repeat' split) <;> omega) (C_7 hl hA hW (i := (sumK (sG (jS A)) (sC (jS A) * sR (jS A)).toNat % mS (jS A))) (w := 2) (u3 := 0) (by unfold rg; omega) (by unfold rg; omega)))) ⟨by decide, by decide⟩ ⟨Nat.le_of_ble_eq_true rfl, Nat.le_of_ble_eq_true rfl⟩ rfl rfl (Nat.le_of_ble_eq_true rfl) ?_
  intro M hW
  refine a_istore (pc := 749) ok dL_holds_749 rfl (by rw [hN]; decide) ?_
  refine a_aload_n (pc := 751) ok dL_holds_751 rfl ?_
  refine a_iconst (pc := 752) ok dL_holds_752 ?_
  refine a_iload (pc := 753) ok dL_holds_753 rfl ?_
  refine a_bipush (pc := 755) ok dL_holds_755 (by decide) ?_
  refine a_iconst (pc := 757) ok dL_holds_757 ?_
  refine v_h (pc := 758) ok ex gk.1 dL_holds_758 (ug2 16 (by decide +kernel) rfl) (ug2 17 (by decide +kernel) rfl) miL_call hW (ctv_eq (w_id (by unfold rg; omega)) (ctv_ok (by unfold kIsle; (repeat' split) <;> omega) (C_5 hl hA hW (i := (sumK (sG (jS A)) (sC (jS A) * sR (jS A)).toNat % mS (jS A))) (w := 7) (u3 := 0) (by unfold rg; omega) (by unfold rg; omega)))) ⟨by decide, by decide⟩ ⟨Nat.le_of_ble_eq_true rfl, Nat.le_of_ble_eq_true rfl⟩ rfl rfl (Nat.le_of_ble_eq_true rfl) ?_
  intro M hW
  refine a_istore (pc := 761) ok dL_holds_761 rfl (by rw [hN]; decide) ?_
  refine a_iload (pc := 763) ok dL_holds_763 rfl ?_
  refine a_if_eq (pc := 765) (tgt := 1050) ok dL_holds_765 (by decide) (by first | exact rg_w _ | exact rg_tw (by unfold rg; omega) (by unfold rg; omega) | (unfold rg; omega) | omega | assumption | exact bz_rg _) (fun c765 => ?_) (fun c765 => ?_)
  · exfalso; first | omega | grind
  · refine a_iload (pc := 768) ok dL_holds_768 rfl ?_
    refine a_iload (pc := 770) ok dL_holds_770 rfl ?_
    refine a_icmp_ne (pc := 772) (tgt := 1050) ok dL_holds_772 (by decide) (by first | exact rg_w _ | exact rg_tw (by unfold rg; omega) (by unfold rg; omega) | (unfold rg; omega) | omega | assumption | exact bz_rg _) (by first | exact rg_w _ | exact rg_tw (by unfold rg; omega) (by unfold rg; omega) | (unfold rg; omega) | omega | assumption | exact bz_rg _) (fun c772 => ?_) (fun c772 => ?_)
    · exact absurd n9 c772
    · refine a_aload_n (pc := 775) ok dL_holds_775 rfl ?_
      refine a_iconst (pc := 776) ok dL_holds_776 ?_
      refine a_bipush (pc := 777) ok dL_holds_777 (by decide) ?_
      refine a_iconst (pc := 779) ok dL_holds_779 ?_
      refine a_iconst (pc := 780) ok dL_holds_780 ?_
      refine v_h (pc := 781) ok ex gk.1 dL_holds_781 (ug2 16 (by decide +kernel) rfl) (ug2 17 (by decide +kernel) rfl) miL_call hW (ctv_eq y6 (ABg hl hA hW (k := 6) (u2 := 0) (u3 := 0) (by omega))) ⟨by decide, by decide⟩ ⟨Nat.le_of_ble_eq_true rfl, Nat.le_of_ble_eq_true rfl⟩ rfl rfl (Nat.le_of_ble_eq_true rfl) ?_
      intro M hW
      refine a_iload (pc := 784) ok dL_holds_784 rfl ?_
      refine a_icmp_ne (pc := 786) (tgt := 1050) ok dL_holds_786 (by decide) (by first | exact rg_w _ | exact rg_tw (by unfold rg; omega) (by unfold rg; omega) | (unfold rg; omega) | omega | assumption | exact bz_rg _) (by first | exact rg_w _ | exact rg_tw (by unfold rg; omega) (by unfold rg; omega) | (unfold rg; omega) | omega | assumption | exact bz_rg _) (fun c786 => ?_) (fun c786 => ?_)
      · exact absurd rfl c786
      · refine a_aload_n (pc := 789) ok dL_holds_789 rfl ?_
        refine a_iconst (pc := 790) ok dL_holds_790 ?_
        refine a_bipush (pc := 791) ok dL_holds_791 (by decide) ?_
        refine a_iconst (pc := 793) ok dL_holds_793 ?_
        refine a_iconst (pc := 794) ok dL_holds_794 ?_
        refine v_h (pc := 795) ok ex gk.1 dL_holds_795 (ug2 16 (by decide +kernel) rfl) (ug2 17 (by decide +kernel) rfl) miL_call hW (ctv_eq y7 (ABg hl hA hW (k := 7) (u2 := 0) (u3 := 0) (by omega))) ⟨by decide, by decide⟩ ⟨Nat.le_of_ble_eq_true rfl, Nat.le_of_ble_eq_true rfl⟩ rfl rfl (Nat.le_of_ble_eq_true rfl) ?_
        intro M hW
        refine a_iload (pc := 798) ok dL_holds_798 rfl ?_
        refine a_icmp_ne (pc := 800) (tgt := 1050) ok dL_holds_800 (by decide) (by first | exact rg_w _ | exact rg_tw (by unfold rg; omega) (by unfold rg; omega) | (unfold rg; omega) | omega | assumption | exact bz_rg _) (by first | exact rg_w _ | exact rg_tw (by unfold rg; omega) (by unfold rg; omega) | (unfold rg; omega) | omega | assumption | exact bz_rg _) (fun c800 => ?_) (fun c800 => ?_)
        · exact absurd rfl c800
        · refine a_aload_n (pc := 803) ok dL_holds_803 rfl ?_
          refine a_iconst (pc := 804) ok dL_holds_804 ?_
          refine a_bipush (pc := 805) ok dL_holds_805 (by decide) ?_
          refine a_iconst (pc := 807) ok dL_holds_807 ?_
          refine a_iconst (pc := 808) ok dL_holds_808 ?_
          refine v_h (pc := 809) ok ex gk.1 dL_holds_809 (ug2 16 (by decide +kernel) rfl) (ug2 17 (by decide +kernel) rfl) miL_call hW (ctv_eq y10 (ABg hl hA hW (k := 10) (u2 := 0) (u3 := 0) (by omega))) ⟨by decide, by decide⟩ ⟨Nat.le_of_ble_eq_true rfl, Nat.le_of_ble_eq_true rfl⟩ rfl rfl (Nat.le_of_ble_eq_true rfl) ?_
          intro M hW
          refine a_iload (pc := 812) ok dL_holds_812 rfl ?_
          refine a_icmp_ne (pc := 814) (tgt := 1050) ok dL_holds_814 (by decide) (by first | exact rg_w _ | exact rg_tw (by unfold rg; omega) (by unfold rg; omega) | (unfold rg; omega) | omega | assumption | exact bz_rg _) (by first | exact rg_w _ | exact rg_tw (by unfold rg; omega) (by unfold rg; omega) | (unfold rg; omega) | omega | assumption | exact bz_rg _) (fun c814 => ?_) (fun c814 => ?_)
          · exact absurd rfl c814
          · refine a_aload_n (pc := 817) ok dL_holds_817 rfl ?_
            refine c_h (pc := 818) ok dL_holds_818 mvL_223 miX6_ink rfl hW (KN_ink hA hW) ⟨by decide, by decide, rfl, rfl, Nat.le_of_ble_eq_true rfl, Nat.le_of_ble_eq_true rfl⟩ rfl rfl (Nat.le_of_ble_eq_true rfl) ?_
            intro M hW
            refine a_iload (pc := 821) ok dL_holds_821 rfl ?_
            refine a_icmp_ne (pc := 823) (tgt := 1050) ok dL_holds_823 (by decide) (by first | exact rg_w _ | exact rg_tw (by unfold rg; omega) (by unfold rg; omega) | (unfold rg; omega) | omega | assumption | exact bz_rg _) (by first | exact rg_w _ | exact rg_tw (by unfold rg; omega) (by unfold rg; omega) | (unfold rg; omega) | omega | assumption | exact bz_rg _) (fun c823 => ?_) (fun c823 => ?_)
            · exact absurd (congrArg w32 ink9) c823
            · refine a_iload (pc := 826) ok dL_holds_826 rfl ?_
              refine a_aload_n (pc := 828) ok dL_holds_828 rfl ?_
              refine a_iconst (pc := 829) ok dL_holds_829 ?_
              refine a_iconst (pc := 830) ok dL_holds_830 ?_
              refine a_iconst (pc := 831) ok dL_holds_831 ?_
              refine a_iconst (pc := 832) ok dL_holds_832 ?_
              refine v_h (pc := 833) ok ex gk.1 dL_holds_833 (ug2 16 (by decide +kernel) rfl) (ug2 17 (by decide +kernel) rfl) miL_call hW (ctv_eq y5 (ABg hl hA hW (k := 5) (u2 := 0) (u3 := 0) (by omega))) ⟨by decide, by decide⟩ ⟨Nat.le_of_ble_eq_true rfl, Nat.le_of_ble_eq_true rfl⟩ rfl rfl (Nat.le_of_ble_eq_true rfl) ?_
              intro M hW
              refine a_icmp_gt (pc := 836) (tgt := 1050) ok dL_holds_836 (by decide) (by first | exact rg_w _ | exact rg_tw (by unfold rg; omega) (by unfold rg; omega) | (unfold rg; omega) | omega | assumption | exact bz_rg _) (by first | exact rg_w _ | exact rg_tw (by unfold rg; omega) (by unfold rg; omega) | (unfold rg; omega) | omega | assumption | exact bz_rg _) (fun c836 => ?_) (fun c836 => ?_)
              · exfalso; first | omega | grind
              · refine a_aload_n (pc := 839) ok dL_holds_839 rfl ?_
                refine a_iconst (pc := 840) ok dL_holds_840 ?_
                refine a_iload (pc := 841) ok dL_holds_841 rfl ?_
                refine a_iconst (pc := 843) ok dL_holds_843 ?_
                refine a_iconst (pc := 844) ok dL_holds_844 ?_
                refine v_h (pc := 845) ok ex gk.1 dL_holds_845 (ug2 16 (by decide +kernel) rfl) (ug2 17 (by decide +kernel) rfl) miL_call hW (ctv_eq (w_id (by unfold rg; omega)) (ctv_ok (by unfold kIsle; (repeat' split) <;> omega) (C_5 hl hA hW (i := (sumK (sG (jS A)) (sC (jS A) * sR (jS A)).toNat % mS (jS A))) (w := 1) (u3 := 0) (by unfold rg; omega) (by unfold rg; omega)))) ⟨by decide, by decide⟩ ⟨Nat.le_of_ble_eq_true rfl, Nat.le_of_ble_eq_true rfl⟩ rfl rfl (Nat.le_of_ble_eq_true rfl) ?_
                intro M hW
                refine a_aload (pc := 848) ok dL_holds_848 rfl ?_
                refine a_iload (pc := 850) ok dL_holds_850 rfl ?_
                refine a_haL (pc := 852) (j := 2) ok (WO_len hW) dL_holds_852 rfl (by decide) (by omega) ?_
                refine a_icmp_ne (pc := 853) (tgt := 1050) ok dL_holds_853 (by decide) (by first | exact rg_w _ | exact rg_tw (by unfold rg; omega) (by unfold rg; omega) | (unfold rg; omega) | omega | assumption | exact bz_rg _) (by first | exact rg_w _ | exact rg_tw (by unfold rg; omega) (by unfold rg; omega) | (unfold rg; omega) | omega | assumption | exact bz_rg _) (fun c853 => ?_) (fun c853 => ?_)
                · exact absurd e1 c853
                · refine a_aload_n (pc := 856) ok dL_holds_856 rfl ?_
                  refine a_bipush (pc := 857) ok dL_holds_857 (by decide) ?_
                  refine a_iload (pc := 859) ok dL_holds_859 rfl ?_
                  refine a_iconst (pc := 861) ok dL_holds_861 ?_
                  refine a_iconst (pc := 862) ok dL_holds_862 ?_
                  refine v_h (pc := 863) ok ex gk.1 dL_holds_863 (ug2 16 (by decide +kernel) rfl) (ug2 17 (by decide +kernel) rfl) miL_call hW (ctv_eq (w_id (by unfold rg; omega)) (ctv_ok (by unfold kIsle; (repeat' split) <;> omega) (C_7 hl hA hW (i := (sumK (sG (jS A)) (sC (jS A) * sR (jS A)).toNat % mS (jS A))) (w := 1) (u3 := 0) (by unfold rg; omega) (by unfold rg; omega)))) ⟨by decide, by decide⟩ ⟨Nat.le_of_ble_eq_true rfl, Nat.le_of_ble_eq_true rfl⟩ rfl rfl (Nat.le_of_ble_eq_true rfl) ?_
                  intro M hW
                  refine a_iload (pc := 866) ok dL_holds_866 rfl ?_
                  refine a_iconst (pc := 868) ok dL_holds_868 ?_
                  refine a_iadd (pc := 869) ok dL_holds_869 ?_
                  refine a_icmp_ne (pc := 870) (tgt := 1050) ok dL_holds_870 (by decide) (by first | (unfold rg; omega)) (by first | (unfold rg; omega)) (fun c870 => ?_) (fun c870 => ?_)
                  · exfalso; first | omega | grind
                  · refine a_aload_n (pc := 873) ok dL_holds_873 rfl ?_
                    refine a_bipush (pc := 874) ok dL_holds_874 (by decide) ?_
                    refine a_iload (pc := 876) ok dL_holds_876 rfl ?_
                    refine a_iconst (pc := 878) ok dL_holds_878 ?_
                    refine a_iconst (pc := 879) ok dL_holds_879 ?_
                    refine v_h (pc := 880) ok ex gk.1 dL_holds_880 (ug2 16 (by decide +kernel) rfl) (ug2 17 (by decide +kernel) rfl) miL_call hW (ctv_eq (w_id (by unfold rg; omega)) (ctv_ok (by unfold kIsle; (repeat' split) <;> omega) (C_7 hl hA hW (i := (sumK (sG (jS A)) (sC (jS A) * sR (jS A)).toNat % mS (jS A))) (w := 0) (u3 := 0) (by unfold rg; omega) (by unfold rg; omega)))) ⟨by decide, by decide⟩ ⟨Nat.le_of_ble_eq_true rfl, Nat.le_of_ble_eq_true rfl⟩ rfl rfl (Nat.le_of_ble_eq_true rfl) ?_
                    intro M hW
                    refine a_aload_n (pc := 883) ok dL_holds_883 rfl ?_
                    refine a_iconst (pc := 884) ok dL_holds_884 ?_
                    refine a_iload (pc := 885) ok dL_holds_885 rfl ?_
                    refine a_iconst (pc := 887) ok dL_holds_887 ?_
                    refine a_iconst (pc := 888) ok dL_holds_888 ?_
                    refine v_h (pc := 889) ok ex gk.1 dL_holds_889 (ug2 16 (by decide +kernel) rfl) (ug2 17 (by decide +kernel) rfl) miL_call hW (ctv_eq (w_id (by unfold rg; omega)) (ctv_ok (by unfold kIsle; (repeat' split) <;> omega) (C_5 hl hA hW (i := (sumK (sG (jS A)) (sC (jS A) * sR (jS A)).toNat % mS (jS A))) (w := 3) (u3 := 0) (by unfold rg; omega) (by unfold rg; omega)))) ⟨by decide, by decide⟩ ⟨Nat.le_of_ble_eq_true rfl, Nat.le_of_ble_eq_true rfl⟩ rfl rfl (Nat.le_of_ble_eq_true rfl) ?_
                    intro M hW
                    refine a_aload_n (pc := 892) ok dL_holds_892 rfl ?_
                    refine a_iconst (pc := 893) ok dL_holds_893 ?_
                    refine a_iload (pc := 894) ok dL_holds_894 rfl ?_
                    refine a_iconst (pc := 896) ok dL_holds_896 ?_
                    refine a_iconst (pc := 897) ok dL_holds_897 ?_
                    refine v_h (pc := 898) ok ex gk.1 dL_holds_898 (ug2 16 (by decide +kernel) rfl) (ug2 17 (by decide +kernel) rfl) miL_call hW (ctv_eq (w_id (by unfold rg; omega)) (ctv_ok (by unfold kIsle; (repeat' split) <;> omega) (C_5 hl hA hW (i := (sumK (sG (jS A)) (sC (jS A) * sR (jS A)).toNat % mS (jS A))) (w := 4) (u3 := 0) (by unfold rg; omega) (by unfold rg; omega)))) ⟨by decide, by decide⟩ ⟨Nat.le_of_ble_eq_true rfl, Nat.le_of_ble_eq_true rfl⟩ rfl rfl (Nat.le_of_ble_eq_true rfl) ?_
                    intro M hW
                    refine a_iadd (pc := 901) ok dL_holds_901 ?_
                    refine a_icmp_gt (pc := 902) (tgt := 1050) ok dL_holds_902 (by decide) (by first | (unfold rg; omega)) (by first | (unfold rg; omega)) (fun c902 => ?_) (fun c902 => ?_)
                    · exfalso; first | omega | grind
                    · refine a_aload_n (pc := 905) ok dL_holds_905 rfl ?_
                      refine a_iconst (pc := 906) ok dL_holds_906 ?_
                      refine a_iload (pc := 907) ok dL_holds_907 rfl ?_
                      refine a_bipush (pc := 909) ok dL_holds_909 (by decide) ?_
                      refine a_iconst (pc := 911) ok dL_holds_911 ?_
                      refine v_h (pc := 912) ok ex gk.1 dL_holds_912 (ug2 16 (by decide +kernel) rfl) (ug2 17 (by decide +kernel) rfl) miL_call hW (ctv_eq (w_id (by unfold rg; omega)) (ctv_ok (by unfold kIsle; (repeat' split) <;> omega) (C_5 hl hA hW (i := (sumK (sG (jS A)) (sC (jS A) * sR (jS A)).toNat % mS (jS A))) (w := 6) (u3 := 0) (by unfold rg; omega) (by unfold rg; omega)))) ⟨by decide, by decide⟩ ⟨Nat.le_of_ble_eq_true rfl, Nat.le_of_ble_eq_true rfl⟩ rfl rfl (Nat.le_of_ble_eq_true rfl) ?_
                      intro M hW
                      refine a_if_le (pc := 915) (tgt := 922) ok dL_holds_915 (by decide) (by first | exact rg_w _ | exact rg_tw (by unfold rg; omega) (by unfold rg; omega) | (unfold rg; omega) | omega | assumption | exact bz_rg _) (fun c915 => ?_) (fun c915 => ?_)
                      · refine a_iconst (pc := 922) ok dL_holds_922 ?_
                        refine a_aload_n (pc := 923) ok dL_holds_923 rfl ?_
                        refine a_iconst (pc := 924) ok dL_holds_924 ?_
                        refine a_iload (pc := 925) ok dL_holds_925 rfl ?_
                        refine a_bipush (pc := 927) ok dL_holds_927 (by decide) ?_
                        refine a_iconst (pc := 929) ok dL_holds_929 ?_
                        refine v_h (pc := 930) ok ex gk.1 dL_holds_930 (ug2 16 (by decide +kernel) rfl) (ug2 17 (by decide +kernel) rfl) miL_call hW (ctv_eq (w_id (by unfold rg; omega)) (ctv_ok (by unfold kIsle; (repeat' split) <;> omega) (C_5 hl hA hW (i := (sumK (sG (jS A)) (sC (jS A) * sR (jS A)).toNat % mS (jS A))) (w := 8) (u3 := 0) (by unfold rg; omega) (by unfold rg; omega)))) ⟨by decide, by decide⟩ ⟨Nat.le_of_ble_eq_true rfl, Nat.le_of_ble_eq_true rfl⟩ rfl rfl (Nat.le_of_ble_eq_true rfl) ?_
                        intro M hW
                        refine a_if_le (pc := 933) (tgt := 940) ok dL_holds_933 (by decide) (by first | exact rg_w _ | exact rg_tw (by unfold rg; omega) (by unfold rg; omega) | (unfold rg; omega) | omega | assumption | exact bz_rg _) (fun c933 => ?_) (fun c933 => ?_)
                        · refine a_iconst (pc := 940) ok dL_holds_940 ?_
                          refine a_icmp_ne (pc := 941) (tgt := 1050) ok dL_holds_941 (by decide) (by first | exact rg_w _ | exact rg_tw (by unfold rg; omega) (by unfold rg; omega) | (unfold rg; omega) | omega | assumption | exact bz_rg _) (by first | exact rg_w _ | exact rg_tw (by unfold rg; omega) (by unfold rg; omega) | (unfold rg; omega) | omega | assumption | exact bz_rg _) (fun c941 => ?_) (fun c941 => ?_)
                          · exfalso; first | omega | grind
                          · refine a_aload_n (pc := 944) ok dL_holds_944 rfl ?_
                            refine a_iconst (pc := 945) ok dL_holds_945 ?_
                            refine a_iload (pc := 946) ok dL_holds_946 rfl ?_
                            refine a_bipush (pc := 948) ok dL_holds_948 (by decide) ?_
                            refine a_iconst (pc := 950) ok dL_holds_950 ?_
                            refine v_h (pc := 951) ok ex gk.1 dL_holds_951 (ug2 16 (by decide +kernel) rfl) (ug2 17 (by decide +kernel) rfl) miL_call hW (ctv_eq (w_id (by unfold rg; omega)) (ctv_ok (by unfold kIsle; (repeat' split) <;> omega) (C_5 hl hA hW (i := (sumK (sG (jS A)) (sC (jS A) * sR (jS A)).toNat % mS (jS A))) (w := 6) (u3 := 0) (by unfold rg; omega) (by unfold rg; omega)))) ⟨by decide, by decide⟩ ⟨Nat.le_of_ble_eq_true rfl, Nat.le_of_ble_eq_true rfl⟩ rfl rfl (Nat.le_of_ble_eq_true rfl) ?_
                            intro M hW
                            refine a_if_le (pc := 954) (tgt := 961) ok dL_holds_954 (by decide) (by first | exact rg_w _ | exact rg_tw (by unfold rg; omega) (by unfold rg; omega) | (unfold rg; omega) | omega | assumption | exact bz_rg _) (fun c954 => ?_) (fun c954 => ?_)
                            · refine a_iconst (pc := 961) ok dL_holds_961 ?_
                              refine a_aload_n (pc := 962) ok dL_holds_962 rfl ?_
                              refine a_bipush (pc := 963) ok dL_holds_963 (by decide) ?_
                              refine a_iload (pc := 965) ok dL_holds_965 rfl ?_
                              refine a_iconst (pc := 967) ok dL_holds_967 ?_
                              refine a_iconst (pc := 968) ok dL_holds_968 ?_
                              refine v_h (pc := 969) ok ex gk.1 dL_holds_969 (ug2 16 (by decide +kernel) rfl) (ug2 17 (by decide +kernel) rfl) miL_call hW (ctv_eq (w_id (by unfold rg; omega)) (ctv_ok (by unfold kIsle; (repeat' split) <;> omega) (C_7 hl hA hW (i := (sumK (sG (jS A)) (sC (jS A) * sR (jS A)).toNat % mS (jS A))) (w := 0) (u3 := 0) (by unfold rg; omega) (by unfold rg; omega)))) ⟨by decide, by decide⟩ ⟨Nat.le_of_ble_eq_true rfl, Nat.le_of_ble_eq_true rfl⟩ rfl rfl (Nat.le_of_ble_eq_true rfl) ?_
                              intro M hW
                              refine a_aload_n (pc := 972) ok dL_holds_972 rfl ?_
                              refine a_iconst (pc := 973) ok dL_holds_973 ?_
                              refine a_iload (pc := 974) ok dL_holds_974 rfl ?_
                              refine a_iconst (pc := 976) ok dL_holds_976 ?_
                              refine a_iconst (pc := 977) ok dL_holds_977 ?_
                              refine v_h (pc := 978) ok ex gk.1 dL_holds_978 (ug2 16 (by decide +kernel) rfl) (ug2 17 (by decide +kernel) rfl) miL_call hW (ctv_eq (w_id (by unfold rg; omega)) (ctv_ok (by unfold kIsle; (repeat' split) <;> omega) (C_5 hl hA hW (i := (sumK (sG (jS A)) (sC (jS A) * sR (jS A)).toNat % mS (jS A))) (w := 3) (u3 := 0) (by unfold rg; omega) (by unfold rg; omega)))) ⟨by decide, by decide⟩ ⟨Nat.le_of_ble_eq_true rfl, Nat.le_of_ble_eq_true rfl⟩ rfl rfl (Nat.le_of_ble_eq_true rfl) ?_
                              intro M hW
                              refine a_aload_n (pc := 981) ok dL_holds_981 rfl ?_
                              refine a_iconst (pc := 982) ok dL_holds_982 ?_
                              refine a_iload (pc := 983) ok dL_holds_983 rfl ?_
                              refine a_iconst (pc := 985) ok dL_holds_985 ?_
                              refine a_iconst (pc := 986) ok dL_holds_986 ?_
                              refine v_h (pc := 987) ok ex gk.1 dL_holds_987 (ug2 16 (by decide +kernel) rfl) (ug2 17 (by decide +kernel) rfl) miL_call hW (ctv_eq (w_id (by unfold rg; omega)) (ctv_ok (by unfold kIsle; (repeat' split) <;> omega) (C_5 hl hA hW (i := (sumK (sG (jS A)) (sC (jS A) * sR (jS A)).toNat % mS (jS A))) (w := 4) (u3 := 0) (by unfold rg; omega) (by unfold rg; omega)))) ⟨by decide, by decide⟩ ⟨Nat.le_of_ble_eq_true rfl, Nat.le_of_ble_eq_true rfl⟩ rfl rfl (Nat.le_of_ble_eq_true rfl) ?_
                              intro M hW
                              refine a_iadd (pc := 990) ok dL_holds_990 ?_
                              refine a_icmp_ge (pc := 991) (tgt := 998) ok dL_holds_991 (by decide) (by first | (unfold rg; omega)) (by first | (unfold rg; omega)) (fun c991 => ?_) (fun c991 => ?_)
                              · refine a_iconst (pc := 998) ok dL_holds_998 ?_
                                refine a_icmp_ne (pc := 999) (tgt := 1050) ok dL_holds_999 (by decide) (by first | exact rg_w _ | exact rg_tw (by unfold rg; omega) (by unfold rg; omega) | (unfold rg; omega) | omega | assumption | exact bz_rg _) (by first | exact rg_w _ | exact rg_tw (by unfold rg; omega) (by unfold rg; omega) | (unfold rg; omega) | omega | assumption | exact bz_rg _) (fun c999 => ?_) (fun c999 => ?_)
                                · exfalso; first | omega | grind
                                · refine a_iload (pc := 1002) ok dL_holds_1002 rfl ?_
                                  refine a_iconst (pc := 1004) ok dL_holds_1004 ?_
                                  refine a_icmp_eq (pc := 1005) (tgt := 1046) ok dL_holds_1005 (by decide) (by first | exact rg_w _ | exact rg_tw (by unfold rg; omega) (by unfold rg; omega) | (unfold rg; omega) | omega | assumption | exact bz_rg _) (by first | exact rg_w _ | exact rg_tw (by unfold rg; omega) (by unfold rg; omega) | (unfold rg; omega) | omega | assumption | exact bz_rg _) (fun c1005 => ?_) (fun c1005 => ?_)
                                  · refine a_iconst (pc := 1046) ok dL_holds_1046 ?_
                                    refine a_goto (pc := 1047) (tgt := 1051) ok dL_holds_1047 (by decide) ?_
                                    refine AW.drop ?_
                                    refine AW.widen (kc2 := rgL_holds.cells) (ks2 := rgL_holds.slots) (Nat.le_of_ble_eq_true rfl) (Nat.le_of_ble_eq_true rfl) ?_
                                    exact a_zret (pc := 1051) ok dL_holds_1051 (by first | rfl | exact nb_bz _ | exact @nb_bz _ (Classical.propDecidable _) | decide | exact nb_01 (by assumption)) (⟨rfl, hW⟩)
                                  · refine a_aload_n (pc := 1008) ok dL_holds_1008 rfl ?_
                                    refine a_iconst (pc := 1009) ok dL_holds_1009 ?_
                                    refine a_iload (pc := 1010) ok dL_holds_1010 rfl ?_
                                    refine a_iconst (pc := 1012) ok dL_holds_1012 ?_
                                    refine a_iconst (pc := 1013) ok dL_holds_1013 ?_
                                    refine v_h (pc := 1014) ok ex gk.1 dL_holds_1014 (ug2 16 (by decide +kernel) rfl) (ug2 17 (by decide +kernel) rfl) miL_call hW (ctv_eq (w_id (by unfold rg; omega)) (ctv_ok (by unfold kIsle; (repeat' split) <;> omega) (C_5 hl hA hW (i := (sumK (sG (jS A)) (sC (jS A) * sR (jS A)).toNat % mS (jS A))) (w := 4) (u3 := 0) (by unfold rg; omega) (by unfold rg; omega)))) ⟨by decide, by decide⟩ ⟨Nat.le_of_ble_eq_true rfl, Nat.le_of_ble_eq_true rfl⟩ rfl rfl (Nat.le_of_ble_eq_true rfl) ?_
                                    intro M hW
                                    refine a_if_ne (pc := 1017) (tgt := 1050) ok dL_holds_1017 (by decide) (by first | exact rg_w _ | exact rg_tw (by unfold rg; omega) (by unfold rg; omega) | (unfold rg; omega) | omega | assumption | exact bz_rg _) (fun c1017 => ?_) (fun c1017 => ?_)
                                    · exfalso; first | omega | grind
                                    · refine a_aload_n (pc := 1020) ok dL_holds_1020 rfl ?_
                                      refine a_iconst (pc := 1021) ok dL_holds_1021 ?_
                                      refine a_iload (pc := 1022) ok dL_holds_1022 rfl ?_
                                      refine a_bipush (pc := 1024) ok dL_holds_1024 (by decide) ?_
                                      refine a_iconst (pc := 1026) ok dL_holds_1026 ?_
                                      refine v_h (pc := 1027) ok ex gk.1 dL_holds_1027 (ug2 16 (by decide +kernel) rfl) (ug2 17 (by decide +kernel) rfl) miL_call hW (ctv_eq (w_id (by unfold rg; omega)) (ctv_ok (by unfold kIsle; (repeat' split) <;> omega) (C_5 hl hA hW (i := aIsland (jS A) (sumK (sG (jS A)) (sC (jS A) * sR (jS A)).toNat % mS (jS A)) 7) (w := 8) (u3 := 0) (by unfold rg; omega) (by unfold rg; omega)))) ⟨by decide, by decide⟩ ⟨Nat.le_of_ble_eq_true rfl, Nat.le_of_ble_eq_true rfl⟩ rfl rfl (Nat.le_of_ble_eq_true rfl) ?_
                                      intro M hW
                                      refine a_if_le (pc := 1030) (tgt := 1050) ok dL_holds_1030 (by decide) (by first | exact rg_w _ | exact rg_tw (by unfold rg; omega) (by unfold rg; omega) | (unfold rg; omega) | omega | assumption | exact bz_rg _) (fun c1030 => ?_) (fun c1030 => ?_)
                                      · exfalso; first | omega | grind
                                      · refine a_aload_n (pc := 1033) ok dL_holds_1033 rfl ?_
                                        refine a_iconst (pc := 1034) ok dL_holds_1034 ?_
                                        refine a_iload (pc := 1035) ok dL_holds_1035 rfl ?_
                                        refine a_iconst (pc := 1037) ok dL_holds_1037 ?_
                                        refine a_iconst (pc := 1038) ok dL_holds_1038 ?_
                                        refine v_h (pc := 1039) ok ex gk.1 dL_holds_1039 (ug2 16 (by decide +kernel) rfl) (ug2 17 (by decide +kernel) rfl) miL_call hW (ctv_eq (w_id (by unfold rg; omega)) (ctv_ok (by unfold kIsle; (repeat' split) <;> omega) (C_5 hl hA hW (i := aIsland (jS A) (sumK (sG (jS A)) (sC (jS A) * sR (jS A)).toNat % mS (jS A)) 7) (w := 1) (u3 := 0) (by unfold rg; omega) (by unfold rg; omega)))) ⟨by decide, by decide⟩ ⟨Nat.le_of_ble_eq_true rfl, Nat.le_of_ble_eq_true rfl⟩ rfl rfl (Nat.le_of_ble_eq_true rfl) ?_
                                        intro M hW
                                        refine a_iconst (pc := 1042) ok dL_holds_1042 ?_
                                        refine a_icmp_le (pc := 1043) (tgt := 1050) ok dL_holds_1043 (by decide) (by first | exact rg_w _ | exact rg_tw (by unfold rg; omega) (by unfold rg; omega) | (unfold rg; omega) | omega | assumption | exact bz_rg _) (by first | exact rg_w _ | exact rg_tw (by unfold rg; omega) (by unfold rg; omega) | (unfold rg; omega) | omega | assumption | exact bz_rg _) (fun c1043 => ?_) (fun c1043 => ?_)
                                        · exfalso; first | omega | grind
                                        · refine a_iconst (pc := 1046) ok dL_holds_1046 ?_
                                          refine a_goto (pc := 1047) (tgt := 1051) ok dL_holds_1047 (by decide) ?_
                                          refine AW.drop ?_
                                          refine AW.widen (kc2 := rgL_holds.cells) (ks2 := rgL_holds.slots) (Nat.le_of_ble_eq_true rfl) (Nat.le_of_ble_eq_true rfl) ?_
                                          exact a_zret (pc := 1051) ok dL_holds_1051 (by first | rfl | exact nb_bz _ | exact @nb_bz _ (Classical.propDecidable _) | decide | exact nb_01 (by assumption)) (⟨rfl, hW⟩)
                              · refine a_iconst (pc := 994) ok dL_holds_994 ?_
                                refine a_goto (pc := 995) (tgt := 999) ok dL_holds_995 (by decide) ?_
                                refine a_icmp_ne (pc := 999) (tgt := 1050) ok dL_holds_999 (by decide) (by first | exact rg_w _ | exact rg_tw (by unfold rg; omega) (by unfold rg; omega) | (unfold rg; omega) | omega | assumption | exact bz_rg _) (by first | exact rg_w _ | exact rg_tw (by unfold rg; omega) (by unfold rg; omega) | (unfold rg; omega) | omega | assumption | exact bz_rg _) (fun c999 => ?_) (fun c999 => ?_)
                                · exfalso; first | omega | grind
                                · exfalso; first | omega | grind
                            · exfalso; first | omega | grind
                        · refine a_iconst (pc := 936) ok dL_holds_936 ?_
                          refine a_goto (pc := 937) (tgt := 941) ok dL_holds_937 (by decide) ?_
                          refine a_icmp_ne (pc := 941) (tgt := 1050) ok dL_holds_941 (by decide) (by first | exact rg_w _ | exact rg_tw (by unfold rg; omega) (by unfold rg; omega) | (unfold rg; omega) | omega | assumption | exact bz_rg _) (by first | exact rg_w _ | exact rg_tw (by unfold rg; omega) (by unfold rg; omega) | (unfold rg; omega) | omega | assumption | exact bz_rg _) (fun c941 => ?_) (fun c941 => ?_)
                          · exfalso; first | omega | grind
                          · exfalso; first | omega | grind
                      · refine a_iconst (pc := 918) ok dL_holds_918 ?_
                        refine a_goto (pc := 919) (tgt := 923) ok dL_holds_919 (by decide) ?_
                        refine a_aload_n (pc := 923) ok dL_holds_923 rfl ?_
                        refine a_iconst (pc := 924) ok dL_holds_924 ?_
                        refine a_iload (pc := 925) ok dL_holds_925 rfl ?_
                        refine a_bipush (pc := 927) ok dL_holds_927 (by decide) ?_
                        refine a_iconst (pc := 929) ok dL_holds_929 ?_
                        refine v_h (pc := 930) ok ex gk.1 dL_holds_930 (ug2 16 (by decide +kernel) rfl) (ug2 17 (by decide +kernel) rfl) miL_call hW (ctv_eq (w_id (by unfold rg; omega)) (ctv_ok (by unfold kIsle; (repeat' split) <;> omega) (C_5 hl hA hW (i := (sumK (sG (jS A)) (sC (jS A) * sR (jS A)).toNat % mS (jS A))) (w := 8) (u3 := 0) (by unfold rg; omega) (by unfold rg; omega)))) ⟨by decide, by decide⟩ ⟨Nat.le_of_ble_eq_true rfl, Nat.le_of_ble_eq_true rfl⟩ rfl rfl (Nat.le_of_ble_eq_true rfl) ?_
                        intro M hW
                        refine a_if_le (pc := 933) (tgt := 940) ok dL_holds_933 (by decide) (by first | exact rg_w _ | exact rg_tw (by unfold rg; omega) (by unfold rg; omega) | (unfold rg; omega) | omega | assumption | exact bz_rg _) (fun c933 => ?_) (fun c933 => ?_)
                        · refine a_iconst (pc := 940) ok dL_holds_940 ?_
                          refine a_icmp_ne (pc := 941) (tgt := 1050) ok dL_holds_941 (by decide) (by first | exact rg_w _ | exact rg_tw (by unfold rg; omega) (by unfold rg; omega) | (unfold rg; omega) | omega | assumption | exact bz_rg _) (by first | exact rg_w _ | exact rg_tw (by unfold rg; omega) (by unfold rg; omega) | (unfold rg; omega) | omega | assumption | exact bz_rg _) (fun c941 => ?_) (fun c941 => ?_)
                          · exfalso; first | omega | grind
                          · exfalso; first | omega | grind
                        · refine a_iconst (pc := 936) ok dL_holds_936 ?_
                          refine a_goto (pc := 937) (tgt := 941) ok dL_holds_937 (by decide) ?_
                          refine a_icmp_ne (pc := 941) (tgt := 1050) ok dL_holds_941 (by decide) (by first | exact rg_w _ | exact rg_tw (by unfold rg; omega) (by unfold rg; omega) | (unfold rg; omega) | omega | assumption | exact bz_rg _) (by first | exact rg_w _ | exact rg_tw (by unfold rg; omega) (by unfold rg; omega) | (unfold rg; omega) | omega | assumption | exact bz_rg _) (fun c941 => ?_) (fun c941 => ?_)
                          · exfalso; first | omega | grind
                          · refine a_aload_n (pc := 944) ok dL_holds_944 rfl ?_
                            refine a_iconst (pc := 945) ok dL_holds_945 ?_
                            refine a_iload (pc := 946) ok dL_holds_946 rfl ?_
                            refine a_bipush (pc := 948) ok dL_holds_948 (by decide) ?_
                            refine a_iconst (pc := 950) ok dL_holds_950 ?_
                            refine v_h (pc := 951) ok ex gk.1 dL_holds_951 (ug2 16 (by decide +kernel) rfl) (ug2 17 (by decide +kernel) rfl) miL_call hW (ctv_eq (w_id (by unfold rg; omega)) (ctv_ok (by unfold kIsle; (repeat' split) <;> omega) (C_5 hl hA hW (i := (sumK (sG (jS A)) (sC (jS A) * sR (jS A)).toNat % mS (jS A))) (w := 6) (u3 := 0) (by unfold rg; omega) (by unfold rg; omega)))) ⟨by decide, by decide⟩ ⟨Nat.le_of_ble_eq_true rfl, Nat.le_of_ble_eq_true rfl⟩ rfl rfl (Nat.le_of_ble_eq_true rfl) ?_
                            intro M hW
                            refine a_if_le (pc := 954) (tgt := 961) ok dL_holds_954 (by decide) (by first | exact rg_w _ | exact rg_tw (by unfold rg; omega) (by unfold rg; omega) | (unfold rg; omega) | omega | assumption | exact bz_rg _) (fun c954 => ?_) (fun c954 => ?_)
                            · exfalso; first | omega | grind
                            · refine a_iconst (pc := 957) ok dL_holds_957 ?_
                              refine a_goto (pc := 958) (tgt := 962) ok dL_holds_958 (by decide) ?_
                              refine a_aload_n (pc := 962) ok dL_holds_962 rfl ?_
                              refine a_bipush (pc := 963) ok dL_holds_963 (by decide) ?_
                              refine a_iload (pc := 965) ok dL_holds_965 rfl ?_
                              refine a_iconst (pc := 967) ok dL_holds_967 ?_
                              refine a_iconst (pc := 968) ok dL_holds_968 ?_
                              refine v_h (pc := 969) ok ex gk.1 dL_holds_969 (ug2 16 (by decide +kernel) rfl) (ug2 17 (by decide +kernel) rfl) miL_call hW (ctv_eq (w_id (by unfold rg; omega)) (ctv_ok (by unfold kIsle; (repeat' split) <;> omega) (C_7 hl hA hW (i := (sumK (sG (jS A)) (sC (jS A) * sR (jS A)).toNat % mS (jS A))) (w := 0) (u3 := 0) (by unfold rg; omega) (by unfold rg; omega)))) ⟨by decide, by decide⟩ ⟨Nat.le_of_ble_eq_true rfl, Nat.le_of_ble_eq_true rfl⟩ rfl rfl (Nat.le_of_ble_eq_true rfl) ?_
                              intro M hW
                              refine a_aload_n (pc := 972) ok dL_holds_972 rfl ?_
                              refine a_iconst (pc := 973) ok dL_holds_973 ?_
                              refine a_iload (pc := 974) ok dL_holds_974 rfl ?_
                              refine a_iconst (pc := 976) ok dL_holds_976 ?_
                              refine a_iconst (pc := 977) ok dL_holds_977 ?_
                              refine v_h (pc := 978) ok ex gk.1 dL_holds_978 (ug2 16 (by decide +kernel) rfl) (ug2 17 (by decide +kernel) rfl) miL_call hW (ctv_eq (w_id (by unfold rg; omega)) (ctv_ok (by unfold kIsle; (repeat' split) <;> omega) (C_5 hl hA hW (i := (sumK (sG (jS A)) (sC (jS A) * sR (jS A)).toNat % mS (jS A))) (w := 3) (u3 := 0) (by unfold rg; omega) (by unfold rg; omega)))) ⟨by decide, by decide⟩ ⟨Nat.le_of_ble_eq_true rfl, Nat.le_of_ble_eq_true rfl⟩ rfl rfl (Nat.le_of_ble_eq_true rfl) ?_
                              intro M hW
                              refine a_aload_n (pc := 981) ok dL_holds_981 rfl ?_
                              refine a_iconst (pc := 982) ok dL_holds_982 ?_
                              refine a_iload (pc := 983) ok dL_holds_983 rfl ?_
                              refine a_iconst (pc := 985) ok dL_holds_985 ?_
                              refine a_iconst (pc := 986) ok dL_holds_986 ?_
                              refine v_h (pc := 987) ok ex gk.1 dL_holds_987 (ug2 16 (by decide +kernel) rfl) (ug2 17 (by decide +kernel) rfl) miL_call hW (ctv_eq (w_id (by unfold rg; omega)) (ctv_ok (by unfold kIsle; (repeat' split) <;> omega) (C_5 hl hA hW (i := (sumK (sG (jS A)) (sC (jS A) * sR (jS A)).toNat % mS (jS A))) (w := 4) (u3 := 0) (by unfold rg; omega) (by unfold rg; omega)))) ⟨by decide, by decide⟩ ⟨Nat.le_of_ble_eq_true rfl, Nat.le_of_ble_eq_true rfl⟩ rfl rfl (Nat.le_of_ble_eq_true rfl) ?_
                              intro M hW
                              refine a_iadd (pc := 990) ok dL_holds_990 ?_
                              refine a_icmp_ge (pc := 991) (tgt := 998) ok dL_holds_991 (by decide) (by first | (unfold rg; omega)) (by first | (unfold rg; omega)) (fun c991 => ?_) (fun c991 => ?_)
                              · refine a_iconst (pc := 998) ok dL_holds_998 ?_
                                refine a_icmp_ne (pc := 999) (tgt := 1050) ok dL_holds_999 (by decide) (by first | exact rg_w _ | exact rg_tw (by unfold rg; omega) (by unfold rg; omega) | (unfold rg; omega) | omega | assumption | exact bz_rg _) (by first | exact rg_w _ | exact rg_tw (by unfold rg; omega) (by unfold rg; omega) | (unfold rg; omega) | omega | assumption | exact bz_rg _) (fun c999 => ?_) (fun c999 => ?_)
                                · exfalso; first | omega | grind
                                · exfalso; first | omega | grind
                              · refine a_iconst (pc := 994) ok dL_holds_994 ?_
                                refine a_goto (pc := 995) (tgt := 999) ok dL_holds_995 (by decide) ?_
                                refine a_icmp_ne (pc := 999) (tgt := 1050) ok dL_holds_999 (by decide) (by first | exact rg_w _ | exact rg_tw (by unfold rg; omega) (by unfold rg; omega) | (unfold rg; omega) | omega | assumption | exact bz_rg _) (by first | exact rg_w _ | exact rg_tw (by unfold rg; omega) (by unfold rg; omega) | (unfold rg; omega) | omega | assumption | exact bz_rg _) (fun c999 => ?_) (fun c999 => ?_)
                                · exfalso; first | omega | grind
                                · refine a_iload (pc := 1002) ok dL_holds_1002 rfl ?_
                                  refine a_iconst (pc := 1004) ok dL_holds_1004 ?_
                                  refine a_icmp_eq (pc := 1005) (tgt := 1046) ok dL_holds_1005 (by decide) (by first | exact rg_w _ | exact rg_tw (by unfold rg; omega) (by unfold rg; omega) | (unfold rg; omega) | omega | assumption | exact bz_rg _) (by first | exact rg_w _ | exact rg_tw (by unfold rg; omega) (by unfold rg; omega) | (unfold rg; omega) | omega | assumption | exact bz_rg _) (fun c1005 => ?_) (fun c1005 => ?_)
                                  · refine a_iconst (pc := 1046) ok dL_holds_1046 ?_
                                    refine a_goto (pc := 1047) (tgt := 1051) ok dL_holds_1047 (by decide) ?_
                                    refine AW.drop ?_
                                    refine AW.widen (kc2 := rgL_holds.cells) (ks2 := rgL_holds.slots) (Nat.le_of_ble_eq_true rfl) (Nat.le_of_ble_eq_true rfl) ?_
                                    exact a_zret (pc := 1051) ok dL_holds_1051 (by first | rfl | exact nb_bz _ | exact @nb_bz _ (Classical.propDecidable _) | decide | exact nb_01 (by assumption)) (⟨rfl, hW⟩)
                                  · refine a_aload_n (pc := 1008) ok dL_holds_1008 rfl ?_
                                    refine a_iconst (pc := 1009) ok dL_holds_1009 ?_
                                    refine a_iload (pc := 1010) ok dL_holds_1010 rfl ?_
                                    refine a_iconst (pc := 1012) ok dL_holds_1012 ?_
                                    refine a_iconst (pc := 1013) ok dL_holds_1013 ?_
                                    refine v_h (pc := 1014) ok ex gk.1 dL_holds_1014 (ug2 16 (by decide +kernel) rfl) (ug2 17 (by decide +kernel) rfl) miL_call hW (ctv_eq (w_id (by unfold rg; omega)) (ctv_ok (by unfold kIsle; (repeat' split) <;> omega) (C_5 hl hA hW (i := (sumK (sG (jS A)) (sC (jS A) * sR (jS A)).toNat % mS (jS A))) (w := 4) (u3 := 0) (by unfold rg; omega) (by unfold rg; omega)))) ⟨by decide, by decide⟩ ⟨Nat.le_of_ble_eq_true rfl, Nat.le_of_ble_eq_true rfl⟩ rfl rfl (Nat.le_of_ble_eq_true rfl) ?_
                                    intro M hW
                                    refine a_if_ne (pc := 1017) (tgt := 1050) ok dL_holds_1017 (by decide) (by first | exact rg_w _ | exact rg_tw (by unfold rg; omega) (by unfold rg; omega) | (unfold rg; omega) | omega | assumption | exact bz_rg _) (fun c1017 => ?_) (fun c1017 => ?_)
                                    · exfalso; first | omega | grind
                                    · refine a_aload_n (pc := 1020) ok dL_holds_1020 rfl ?_
                                      refine a_iconst (pc := 1021) ok dL_holds_1021 ?_
                                      refine a_iload (pc := 1022) ok dL_holds_1022 rfl ?_
                                      refine a_bipush (pc := 1024) ok dL_holds_1024 (by decide) ?_
                                      refine a_iconst (pc := 1026) ok dL_holds_1026 ?_
                                      refine v_h (pc := 1027) ok ex gk.1 dL_holds_1027 (ug2 16 (by decide +kernel) rfl) (ug2 17 (by decide +kernel) rfl) miL_call hW (ctv_eq (w_id (by unfold rg; omega)) (ctv_ok (by unfold kIsle; (repeat' split) <;> omega) (C_5 hl hA hW (i := aIsland (jS A) (sumK (sG (jS A)) (sC (jS A) * sR (jS A)).toNat % mS (jS A)) 7) (w := 8) (u3 := 0) (by unfold rg; omega) (by unfold rg; omega)))) ⟨by decide, by decide⟩ ⟨Nat.le_of_ble_eq_true rfl, Nat.le_of_ble_eq_true rfl⟩ rfl rfl (Nat.le_of_ble_eq_true rfl) ?_
                                      intro M hW
                                      refine a_if_le (pc := 1030) (tgt := 1050) ok dL_holds_1030 (by decide) (by first | exact rg_w _ | exact rg_tw (by unfold rg; omega) (by unfold rg; omega) | (unfold rg; omega) | omega | assumption | exact bz_rg _) (fun c1030 => ?_) (fun c1030 => ?_)
                                      · exfalso; first | omega | grind
                                      · refine a_aload_n (pc := 1033) ok dL_holds_1033 rfl ?_
                                        refine a_iconst (pc := 1034) ok dL_holds_1034 ?_
                                        refine a_iload (pc := 1035) ok dL_holds_1035 rfl ?_
                                        refine a_iconst (pc := 1037) ok dL_holds_1037 ?_
                                        refine a_iconst (pc := 1038) ok dL_holds_1038 ?_
                                        refine v_h (pc := 1039) ok ex gk.1 dL_holds_1039 (ug2 16 (by decide +kernel) rfl) (ug2 17 (by decide +kernel) rfl) miL_call hW (ctv_eq (w_id (by unfold rg; omega)) (ctv_ok (by unfold kIsle; (repeat' split) <;> omega) (C_5 hl hA hW (i := aIsland (jS A) (sumK (sG (jS A)) (sC (jS A) * sR (jS A)).toNat % mS (jS A)) 7) (w := 1) (u3 := 0) (by unfold rg; omega) (by unfold rg; omega)))) ⟨by decide, by decide⟩ ⟨Nat.le_of_ble_eq_true rfl, Nat.le_of_ble_eq_true rfl⟩ rfl rfl (Nat.le_of_ble_eq_true rfl) ?_
                                        intro M hW
                                        refine a_iconst (pc := 1042) ok dL_holds_1042 ?_
                                        refine a_icmp_le (pc := 1043) (tgt := 1050) ok dL_holds_1043 (by decide) (by first | exact rg_w _ | exact rg_tw (by unfold rg; omega) (by unfold rg; omega) | (unfold rg; omega) | omega | assumption | exact bz_rg _) (by first | exact rg_w _ | exact rg_tw (by unfold rg; omega) (by unfold rg; omega) | (unfold rg; omega) | omega | assumption | exact bz_rg _) (fun c1043 => ?_) (fun c1043 => ?_)
                                        · exfalso; first | omega | grind
                                        · refine a_iconst (pc := 1046) ok dL_holds_1046 ?_
                                          refine a_goto (pc := 1047) (tgt := 1051) ok dL_holds_1047 (by decide) ?_
                                          refine AW.drop ?_
                                          refine AW.widen (kc2 := rgL_holds.cells) (ks2 := rgL_holds.slots) (Nat.le_of_ble_eq_true rfl) (Nat.le_of_ble_eq_true rfl) ?_
                                          exact a_zret (pc := 1051) ok dL_holds_1051 (by first | rfl | exact nb_bz _ | exact @nb_bz _ (Classical.propDecidable _) | decide | exact nb_01 (by assumption)) (⟨rfl, hW⟩)
end HO7
