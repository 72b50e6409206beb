/-! THE LAW: calls that are refused. Printed by wip/p37/gen/mkref.py. -/
section RF2
variable {l : Launch} {A : Ob} {M : List va_E}
theorem ref_to {X : Cx} (hl : X.1.2.1.stackTraces = false) (hN : nLof X = 8) (gk : GK X cL_refuses RL (some .boolean) rgL_refuses (po1 1 A) rgL_refuses.cells rgL_refuses.slots 103) (ex : EX X) (hA : VA A) (hW : WO A M) {x : Int} (hx : 0 ≤ x ∧ x < 100000) (hp : x % 2 = 1) : AW X 30 180 524 [some (.ref 0), some (iv x), some (iv (sC (jS A))), some (iv (sR (jS A))), some (iv (sC (jS A) + x % 99)), some (iv (sR (jS A) + x % 99)), some (iv (144 + x % 9)), some (iv (100 + x % 99))] [] M := by
  have ok := gk.ok
  obtain ⟨f1, f2, f3, f4, f5⟩ := VA_d hA
  have m1 : 0 ≤ x % sC (jS A) ∧ x % sC (jS A) < sC (jS A) := ⟨Int.emod_nonneg _ (by omega), Int.emod_lt_of_pos _ (by omega)⟩
  have m2 : 0 ≤ x % sR (jS A) ∧ x % sR (jS A) < sR (jS A) := ⟨Int.emod_nonneg _ (by omega), Int.emod_lt_of_pos _ (by omega)⟩
  refine a_aload_n (pc := 524) ok dL_refuses_524 rfl ?_
  refine a_iload_n (pc := 525) ok dL_refuses_525 rfl ?_
  refine a_iconst (pc := 526) ok dL_refuses_526 ?_
  refine a_irem (pc := 527) ok dL_refuses_527 (by first | exact rg_w _ | exact rg_tw (by unfold rg; omega) (by unfold rg; omega) | omega | (unfold rg; omega) | (simp only [rg] at *; omega) | exact bz_rg _ | grind [rg]) (by first | exact rg_w _ | exact rg_tw (by unfold rg; omega) (by unfold rg; omega) | omega | (unfold rg; omega) | (simp only [rg] at *; omega) | exact bz_rg _ | grind [rg]) ?_
  refine a_if_ne (pc := 528) (tgt := 535) ok dL_refuses_528 (by decide) (by first | exact rg_w _ | exact rg_tw (by unfold rg; omega) (by unfold rg; omega) | omega | (unfold rg; omega) | (simp only [rg] at *; omega) | exact bz_rg _ | grind [rg]) (fun c528 => ?_) (fun c528 => ?_)
  · refine a_bipush (pc := 535) ok dL_refuses_535 (by decide) ?_
    refine a_iload_n (pc := 537) ok dL_refuses_537 rfl ?_
    refine a_bipush (pc := 538) ok dL_refuses_538 (by decide) ?_
    refine a_irem (pc := 540) ok dL_refuses_540 (by first | exact rg_w _ | exact rg_tw (by unfold rg; omega) (by unfold rg; omega) | omega | (unfold rg; omega) | (simp only [rg] at *; omega) | exact bz_rg _ | grind [rg]) (by first | exact rg_w _ | exact rg_tw (by unfold rg; omega) (by unfold rg; omega) | omega | (unfold rg; omega) | (simp only [rg] at *; omega) | exact bz_rg _ | grind [rg]) ?_
    refine a_iadd (pc := 541) ok dL_refuses_541 ?_
    refine a_iconst (pc := 542) ok dL_refuses_542 ?_
    refine w_o (pc := 543) ok ex dL_refuses_543 (ug4 218 (by decide +kernel) rfl) (ug4 219 (by decide +kernel) rfl) miL_parts hW (ctw_x1 (by unfold kPart; (repeat' split) <;> omega) (T_parts hl hA hW (v := 100 + x % 9) (b := 1) (by unfold rg; omega) (by unfold rg; omega))) ⟨by decide, by decide, rfl, rfl⟩ ⟨Nat.le_of_ble_eq_true rfl, Nat.le_of_ble_eq_true rfl⟩ rfl rfl (Nat.le_of_ble_eq_true rfl) ?_
    intro M hW
    refine a_ldc (pc := 546) (z := -9999002) (v := Int32.ofInt (-9999002)) ok dL_refuses_546 (ug2 127 (by decide +kernel) rfl) (by decide) ?_
    refine a_icmp_ne (pc := 548) (tgt := 988) ok dL_refuses_548 (by decide) (by first | exact rg_w _ | exact rg_tw (by unfold rg; omega) (by unfold rg; omega) | omega | (unfold rg; omega) | (simp only [rg] at *; omega) | exact bz_rg _ | grind [rg]) (by first | exact rg_w _ | exact rg_tw (by unfold rg; omega) (by unfold rg; omega) | omega | (unfold rg; omega) | (simp only [rg] at *; omega) | exact bz_rg _ | grind [rg]) (fun c548 => ?_) (fun c548 => ?_)
    · exfalso; first | omega | grind
    · refine a_aload_n (pc := 551) ok dL_refuses_551 rfl ?_
      refine a_bipush (pc := 552) ok dL_refuses_552 (by decide) ?_
      refine a_iload_n (pc := 554) ok dL_refuses_554 rfl ?_
      refine a_iconst (pc := 555) ok dL_refuses_555 ?_
      refine a_irem (pc := 556) ok dL_refuses_556 (by first | exact rg_w _ | exact rg_tw (by unfold rg; omega) (by unfold rg; omega) | omega | (unfold rg; omega) | (simp only [rg] at *; omega) | exact bz_rg _ | grind [rg]) (by first | exact rg_w _ | exact rg_tw (by unfold rg; omega) (by unfold rg; omega) | omega | (unfold rg; omega) | (simp only [rg] at *; omega) | exact bz_rg _ | grind [rg]) ?_
      refine a_if_ne (pc := 557) (tgt := 564) ok dL_refuses_557 (by decide) (by first | exact rg_w _ | exact rg_tw (by unfold rg; omega) (by unfold rg; omega) | omega | (unfold rg; omega) | (simp only [rg] at *; omega) | exact bz_rg _ | grind [rg]) (fun c557 => ?_) (fun c557 => ?_)
      · refine a_bipush (pc := 564) ok dL_refuses_564 (by decide) ?_
        refine a_iload_n (pc := 566) ok dL_refuses_566 rfl ?_
        refine a_bipush (pc := 567) ok dL_refuses_567 (by decide) ?_
        refine a_irem (pc := 569) ok dL_refuses_569 (by first | exact rg_w _ | exact rg_tw (by unfold rg; omega) (by unfold rg; omega) | omega | (unfold rg; omega) | (simp only [rg] at *; omega) | exact bz_rg _ | grind [rg]) (by first | exact rg_w _ | exact rg_tw (by unfold rg; omega) (by unfold rg; omega) | omega | (unfold rg; omega) | (simp only [rg] at *; omega) | exact bz_rg _ | grind [rg]) ?_
        refine a_iadd (pc := 570) ok dL_refuses_570 ?_
        refine a_iconst (pc := 571) ok dL_refuses_571 ?_
        refine a_iconst (pc := 572) ok dL_refuses_572 ?_
        refine v_o (pc := 573) ok ex gk.1 dL_refuses_573 (ug2 16 (by decide +kernel) rfl) (ug2 17 (by decide +kernel) rfl) miL_call hW (ctv_x1 (by unfold kIn; (repeat' split) <;> omega) (C_12 hl hA hW (v := 6 + x % 9) (u2 := 0) (u3 := 0) (by unfold rg; omega))) ⟨by decide, by decide⟩ ⟨Nat.le_of_ble_eq_true rfl, Nat.le_of_ble_eq_true rfl⟩ rfl rfl (Nat.le_of_ble_eq_true rfl) ?_
        intro M hW
        refine a_ldc (pc := 576) (z := -9999002) (v := Int32.ofInt (-9999002)) ok dL_refuses_576 (ug2 127 (by decide +kernel) rfl) (by decide) ?_
        refine a_icmp_ne (pc := 578) (tgt := 988) ok dL_refuses_578 (by decide) (by first | exact rg_w _ | exact rg_tw (by unfold rg; omega) (by unfold rg; omega) | omega | (unfold rg; omega) | (simp only [rg] at *; omega) | exact bz_rg _ | grind [rg]) (by first | exact rg_w _ | exact rg_tw (by unfold rg; omega) (by unfold rg; omega) | omega | (unfold rg; omega) | (simp only [rg] at *; omega) | exact bz_rg _ | grind [rg]) (fun c578 => ?_) (fun c578 => ?_)
        · exfalso; first | omega | grind
        · refine a_aload_n (pc := 581) ok dL_refuses_581 rfl ?_
          refine a_bipush (pc := 582) ok dL_refuses_582 (by decide) ?_
          refine a_iload_n (pc := 584) ok dL_refuses_584 rfl ?_
          refine a_iconst (pc := 585) ok dL_refuses_585 ?_
          refine a_irem (pc := 586) ok dL_refuses_586 (by first | exact rg_w _ | exact rg_tw (by unfold rg; omega) (by unfold rg; omega) | omega | (unfold rg; omega) | (simp only [rg] at *; omega) | exact bz_rg _ | grind [rg]) (by first | exact rg_w _ | exact rg_tw (by unfold rg; omega) (by unfold rg; omega) | omega | (unfold rg; omega) | (simp only [rg] at *; omega) | exact bz_rg _ | grind [rg]) ?_
          refine a_if_ne (pc := 587) (tgt := 594) ok dL_refuses_587 (by decide) (by first | exact rg_w _ | exact rg_tw (by unfold rg; omega) (by unfold rg; omega) | omega | (unfold rg; omega) | (simp only [rg] at *; omega) | exact bz_rg _ | grind [rg]) (fun c587 => ?_) (fun c587 => ?_)
          · refine a_bipush (pc := 594) ok dL_refuses_594 (by decide) ?_
            refine a_iload_n (pc := 596) ok dL_refuses_596 rfl ?_
            refine a_bipush (pc := 597) ok dL_refuses_597 (by decide) ?_
            refine a_irem (pc := 599) ok dL_refuses_599 (by first | exact rg_w _ | exact rg_tw (by unfold rg; omega) (by unfold rg; omega) | omega | (unfold rg; omega) | (simp only [rg] at *; omega) | exact bz_rg _ | grind [rg]) (by first | exact rg_w _ | exact rg_tw (by unfold rg; omega) (by unfold rg; omega) | omega | (unfold rg; omega) | (simp only [rg] at *; omega) | exact bz_rg _ | grind [rg]) ?_
            refine a_iadd (pc := 600) ok dL_refuses_600 ?_
            refine a_iconst (pc := 601) ok dL_refuses_601 ?_
            refine a_iconst (pc := 602) ok dL_refuses_602 ?_
            refine v_o (pc := 603) ok ex gk.1 dL_refuses_603 (ug2 16 (by decide +kernel) rfl) (ug2 17 (by decide +kernel) rfl) miL_call hW (ctv_x1 (by unfold kIn; (repeat' split) <;> omega) (C_13 hl hA hW (v := 31 + x % 9) (u2 := 0) (u3 := 0) (by unfold rg; omega))) ⟨by decide, by decide⟩ ⟨Nat.le_of_ble_eq_true rfl, Nat.le_of_ble_eq_true rfl⟩ rfl rfl (Nat.le_of_ble_eq_true rfl) ?_
            intro M hW
            refine a_ldc (pc := 606) (z := -9999002) (v := Int32.ofInt (-9999002)) ok dL_refuses_606 (ug2 127 (by decide +kernel) rfl) (by decide) ?_
            refine a_icmp_ne (pc := 608) (tgt := 988) ok dL_refuses_608 (by decide) (by first | exact rg_w _ | exact rg_tw (by unfold rg; omega) (by unfold rg; omega) | omega | (unfold rg; omega) | (simp only [rg] at *; omega) | exact bz_rg _ | grind [rg]) (by first | exact rg_w _ | exact rg_tw (by unfold rg; omega) (by unfold rg; omega) | omega | (unfold rg; omega) | (simp only [rg] at *; omega) | exact bz_rg _ | grind [rg]) (fun c608 => ?_) (fun c608 => ?_)
            · exfalso; first | omega | grind
            · refine a_aload_n (pc := 611) ok dL_refuses_611 rfl ?_
              refine a_bipush (pc := 612) ok dL_refuses_612 (by decide) ?_
              refine a_bipush (pc := 614) ok dL_refuses_614 (by decide) ?_
              refine a_iload_n (pc := 616) ok dL_refuses_616 rfl ?_
              refine a_bipush (pc := 617) ok dL_refuses_617 (by decide) ?_
              refine a_irem (pc := 619) ok dL_refuses_619 (by first | exact rg_w _ | exact rg_tw (by unfold rg; omega) (by unfold rg; omega) | omega | (unfold rg; omega) | (simp only [rg] at *; omega) | exact bz_rg _ | grind [rg]) (by first | exact rg_w _ | exact rg_tw (by unfold rg; omega) (by unfold rg; omega) | omega | (unfold rg; omega) | (simp only [rg] at *; omega) | exact bz_rg _ | grind [rg]) ?_
              refine a_iadd (pc := 620) ok dL_refuses_620 ?_
              refine a_bipush (pc := 621) ok dL_refuses_621 (by decide) ?_
              refine a_iconst (pc := 623) ok dL_refuses_623 ?_
              refine v_o (pc := 624) ok ex gk.1 dL_refuses_624 (ug2 16 (by decide +kernel) rfl) (ug2 17 (by decide +kernel) rfl) miL_call hW (ctv_x1 (by unfold kHatch; (repeat' split) <;> omega) (C_14 hl hA hW (b := 6 + x % 9) (v := 99) (u3 := 0) (by unfold rg; omega) (by unfold rg; omega))) ⟨by decide, by decide⟩ ⟨Nat.le_of_ble_eq_true rfl, Nat.le_of_ble_eq_true rfl⟩ rfl rfl (Nat.le_of_ble_eq_true rfl) ?_
              intro M hW
              refine a_ldc (pc := 627) (z := -9999001) (v := Int32.ofInt (-9999001)) ok dL_refuses_627 (ug3 205 (by decide +kernel) rfl) (by decide) ?_
              refine a_icmp_ne (pc := 629) (tgt := 988) ok dL_refuses_629 (by decide) (by first | exact rg_w _ | exact rg_tw (by unfold rg; omega) (by unfold rg; omega) | omega | (unfold rg; omega) | (simp only [rg] at *; omega) | exact bz_rg _ | grind [rg]) (by first | exact rg_w _ | exact rg_tw (by unfold rg; omega) (by unfold rg; omega) | omega | (unfold rg; omega) | (simp only [rg] at *; omega) | exact bz_rg _ | grind [rg]) (fun c629 => ?_) (fun c629 => ?_)
              · exfalso; first | omega | grind
              · refine a_aload_n (pc := 632) ok dL_refuses_632 rfl ?_
                refine a_bipush (pc := 633) ok dL_refuses_633 (by decide) ?_
                refine a_iload_n (pc := 635) ok dL_refuses_635 rfl ?_
                refine a_bipush (pc := 636) ok dL_refuses_636 (by decide) ?_
                refine a_irem (pc := 638) ok dL_refuses_638 (by first | exact rg_w _ | exact rg_tw (by unfold rg; omega) (by unfold rg; omega) | omega | (unfold rg; omega) | (simp only [rg] at *; omega) | exact bz_rg _ | grind [rg]) (by first | exact rg_w _ | exact rg_tw (by unfold rg; omega) (by unfold rg; omega) | omega | (unfold rg; omega) | (simp only [rg] at *; omega) | exact bz_rg _ | grind [rg]) ?_
                refine a_bipush (pc := 639) ok dL_refuses_639 (by decide) ?_
                refine a_iload_n (pc := 641) ok dL_refuses_641 rfl ?_
                refine a_bipush (pc := 642) ok dL_refuses_642 (by decide) ?_
                refine a_irem (pc := 644) ok dL_refuses_644 (by first | exact rg_w _ | exact rg_tw (by unfold rg; omega) (by unfold rg; omega) | omega | (unfold rg; omega) | (simp only [rg] at *; omega) | exact bz_rg _ | grind [rg]) (by first | exact rg_w _ | exact rg_tw (by unfold rg; omega) (by unfold rg; omega) | omega | (unfold rg; omega) | (simp only [rg] at *; omega) | exact bz_rg _ | grind [rg]) ?_
                refine a_iadd (pc := 645) ok dL_refuses_645 ?_
                refine a_iconst (pc := 646) ok dL_refuses_646 ?_
                refine v_o (pc := 647) ok ex gk.1 dL_refuses_647 (ug2 16 (by decide +kernel) rfl) (ug2 17 (by decide +kernel) rfl) miL_call hW (ctv_x2 (by unfold kHatch; (repeat' split) <;> omega) (C_14 hl hA hW (b := x % 6) (v := 10 + x % 9) (u3 := 0) (by unfold rg; omega) (by unfold rg; omega))) ⟨by decide, by decide⟩ ⟨Nat.le_of_ble_eq_true rfl, Nat.le_of_ble_eq_true rfl⟩ rfl rfl (Nat.le_of_ble_eq_true rfl) ?_
                intro M hW
                refine a_ldc (pc := 650) (z := -9999002) (v := Int32.ofInt (-9999002)) ok dL_refuses_650 (ug2 127 (by decide +kernel) rfl) (by decide) ?_
                refine a_icmp_ne (pc := 652) (tgt := 988) ok dL_refuses_652 (by decide) (by first | exact rg_w _ | exact rg_tw (by unfold rg; omega) (by unfold rg; omega) | omega | (unfold rg; omega) | (simp only [rg] at *; omega) | exact bz_rg _ | grind [rg]) (by first | exact rg_w _ | exact rg_tw (by unfold rg; omega) (by unfold rg; omega) | omega | (unfold rg; omega) | (simp only [rg] at *; omega) | exact bz_rg _ | grind [rg]) (fun c652 => ?_) (fun c652 => ?_)
                · exfalso; first | omega | grind
                · refine a_aload_n (pc := 655) ok dL_refuses_655 rfl ?_
                  refine a_bipush (pc := 656) ok dL_refuses_656 (by decide) ?_
                  refine a_iload_n (pc := 658) ok dL_refuses_658 rfl ?_
                  refine a_iconst (pc := 659) ok dL_refuses_659 ?_
                  refine a_irem (pc := 660) ok dL_refuses_660 (by first | exact rg_w _ | exact rg_tw (by unfold rg; omega) (by unfold rg; omega) | omega | (unfold rg; omega) | (simp only [rg] at *; omega) | exact bz_rg _ | grind [rg]) (by first | exact rg_w _ | exact rg_tw (by unfold rg; omega) (by unfold rg; omega) | omega | (unfold rg; omega) | (simp only [rg] at *; omega) | exact bz_rg _ | grind [rg]) ?_
                  refine a_if_ne (pc := 661) (tgt := 668) ok dL_refuses_661 (by decide) (by first | exact rg_w _ | exact rg_tw (by unfold rg; omega) (by unfold rg; omega) | omega | (unfold rg; omega) | (simp only [rg] at *; omega) | exact bz_rg _ | grind [rg]) (fun c661 => ?_) (fun c661 => ?_)
                  · refine a_bipush (pc := 668) ok dL_refuses_668 (by decide) ?_
                    refine a_iload_n (pc := 670) ok dL_refuses_670 rfl ?_
                    refine a_bipush (pc := 671) ok dL_refuses_671 (by decide) ?_
                    refine a_irem (pc := 673) ok dL_refuses_673 (by first | exact rg_w _ | exact rg_tw (by unfold rg; omega) (by unfold rg; omega) | omega | (unfold rg; omega) | (simp only [rg] at *; omega) | exact bz_rg _ | grind [rg]) (by first | exact rg_w _ | exact rg_tw (by unfold rg; omega) (by unfold rg; omega) | omega | (unfold rg; omega) | (simp only [rg] at *; omega) | exact bz_rg _ | grind [rg]) ?_
                    refine a_iadd (pc := 674) ok dL_refuses_674 ?_
                    refine a_iconst (pc := 675) ok dL_refuses_675 ?_
                    refine a_iconst (pc := 676) ok dL_refuses_676 ?_
                    refine v_o (pc := 677) ok ex gk.1 dL_refuses_677 (ug2 16 (by decide +kernel) rfl) (ug2 17 (by decide +kernel) rfl) miL_call hW (ctv_x1 (by unfold kIn; (repeat' split) <;> omega) (C_15 hl hA hW (v := 10 + x % 9) (u2 := 0) (u3 := 0) (by unfold rg; omega))) ⟨by decide, by decide⟩ ⟨Nat.le_of_ble_eq_true rfl, Nat.le_of_ble_eq_true rfl⟩ rfl rfl (Nat.le_of_ble_eq_true rfl) ?_
                    intro M hW
                    refine a_ldc (pc := 680) (z := -9999002) (v := Int32.ofInt (-9999002)) ok dL_refuses_680 (ug2 127 (by decide +kernel) rfl) (by decide) ?_
                    refine a_icmp_ne (pc := 682) (tgt := 988) ok dL_refuses_682 (by decide) (by first | exact rg_w _ | exact rg_tw (by unfold rg; omega) (by unfold rg; omega) | omega | (unfold rg; omega) | (simp only [rg] at *; omega) | exact bz_rg _ | grind [rg]) (by first | exact rg_w _ | exact rg_tw (by unfold rg; omega) (by unfold rg; omega) | omega | (unfold rg; omega) | (simp only [rg] at *; omega) | exact bz_rg _ | grind [rg]) (fun c682 => ?_) (fun c682 => ?_)
                    · exfalso; first | omega | grind
                    · refine a_aload_n (pc := 685) ok dL_refuses_685 rfl ?_
                      refine a_bipush (pc := 686) ok dL_refuses_686 (by decide) ?_
                      refine a_iload_n (pc := 688) ok dL_refuses_688 rfl ?_
                      refine a_iconst (pc := 689) ok dL_refuses_689 ?_
                      refine a_irem (pc := 690) ok dL_refuses_690 (by first | exact rg_w _ | exact rg_tw (by unfold rg; omega) (by unfold rg; omega) | omega | (unfold rg; omega) | (simp only [rg] at *; omega) | exact bz_rg _ | grind [rg]) (by first | exact rg_w _ | exact rg_tw (by unfold rg; omega) (by unfold rg; omega) | omega | (unfold rg; omega) | (simp only [rg] at *; omega) | exact bz_rg _ | grind [rg]) ?_
                      refine a_if_ne (pc := 691) (tgt := 698) ok dL_refuses_691 (by decide) (by first | exact rg_w _ | exact rg_tw (by unfold rg; omega) (by unfold rg; omega) | omega | (unfold rg; omega) | (simp only [rg] at *; omega) | exact bz_rg _ | grind [rg]) (fun c691 => ?_) (fun c691 => ?_)
                      · refine a_bipush (pc := 698) ok dL_refuses_698 (by decide) ?_
                        refine a_iload_n (pc := 700) ok dL_refuses_700 rfl ?_
                        refine a_bipush (pc := 701) ok dL_refuses_701 (by decide) ?_
                        refine a_irem (pc := 703) ok dL_refuses_703 (by first | exact rg_w _ | exact rg_tw (by unfold rg; omega) (by unfold rg; omega) | omega | (unfold rg; omega) | (simp only [rg] at *; omega) | exact bz_rg _ | grind [rg]) (by first | exact rg_w _ | exact rg_tw (by unfold rg; omega) (by unfold rg; omega) | omega | (unfold rg; omega) | (simp only [rg] at *; omega) | exact bz_rg _ | grind [rg]) ?_
                        refine a_iadd (pc := 704) ok dL_refuses_704 ?_
                        refine a_iconst (pc := 705) ok dL_refuses_705 ?_
                        refine a_iconst (pc := 706) ok dL_refuses_706 ?_
                        refine v_o (pc := 707) ok ex gk.1 dL_refuses_707 (ug2 16 (by decide +kernel) rfl) (ug2 17 (by decide +kernel) rfl) miL_call hW (ctv_x1 (by unfold kIn; (repeat' split) <;> omega) (C_16 hl hA hW (v := 50 + x % 9) (u2 := 0) (u3 := 0) (by unfold rg; omega))) ⟨by decide, by decide⟩ ⟨Nat.le_of_ble_eq_true rfl, Nat.le_of_ble_eq_true rfl⟩ rfl rfl (Nat.le_of_ble_eq_true rfl) ?_
                        intro M hW
                        refine a_ldc (pc := 710) (z := -9999002) (v := Int32.ofInt (-9999002)) ok dL_refuses_710 (ug2 127 (by decide +kernel) rfl) (by decide) ?_
                        refine a_icmp_ne (pc := 712) (tgt := 988) ok dL_refuses_712 (by decide) (by first | exact rg_w _ | exact rg_tw (by unfold rg; omega) (by unfold rg; omega) | omega | (unfold rg; omega) | (simp only [rg] at *; omega) | exact bz_rg _ | grind [rg]) (by first | exact rg_w _ | exact rg_tw (by unfold rg; omega) (by unfold rg; omega) | omega | (unfold rg; omega) | (simp only [rg] at *; omega) | exact bz_rg _ | grind [rg]) (fun c712 => ?_) (fun c712 => ?_)
                        · exfalso; first | omega | grind
                        · refine a_aload_n (pc := 715) ok dL_refuses_715 rfl ?_
                          refine a_iload_n (pc := 716) ok dL_refuses_716 rfl ?_
                          refine a_i2l (pc := 717) ok dL_refuses_717 (by first | exact rg_w _ | exact rg_tw (by unfold rg; omega) (by unfold rg; omega) | omega | (unfold rg; omega) | (simp only [rg] at *; omega) | exact bz_rg _ | grind [rg]) ?_
                          refine a_iload_n (pc := 718) ok dL_refuses_718 rfl ?_
                          refine a_iconst (pc := 719) ok dL_refuses_719 ?_
                          refine a_irem (pc := 720) ok dL_refuses_720 (by first | exact rg_w _ | exact rg_tw (by unfold rg; omega) (by unfold rg; omega) | omega | (unfold rg; omega) | (simp only [rg] at *; omega) | exact bz_rg _ | grind [rg]) (by first | exact rg_w _ | exact rg_tw (by unfold rg; omega) (by unfold rg; omega) | omega | (unfold rg; omega) | (simp only [rg] at *; omega) | exact bz_rg _ | grind [rg]) ?_
                          refine a_if_ne (pc := 721) (tgt := 728) ok dL_refuses_721 (by decide) (by first | exact rg_w _ | exact rg_tw (by unfold rg; omega) (by unfold rg; omega) | omega | (unfold rg; omega) | (simp only [rg] at *; omega) | exact bz_rg _ | grind [rg]) (fun c721 => ?_) (fun c721 => ?_)
                          · refine a_bipush (pc := 728) ok dL_refuses_728 (by decide) ?_
                            refine a_iload_n (pc := 730) ok dL_refuses_730 rfl ?_
                            refine a_bipush (pc := 731) ok dL_refuses_731 (by decide) ?_
                            refine a_irem (pc := 733) ok dL_refuses_733 (by first | exact rg_w _ | exact rg_tw (by unfold rg; omega) (by unfold rg; omega) | omega | (unfold rg; omega) | (simp only [rg] at *; omega) | exact bz_rg _ | grind [rg]) (by first | exact rg_w _ | exact rg_tw (by unfold rg; omega) (by unfold rg; omega) | omega | (unfold rg; omega) | (simp only [rg] at *; omega) | exact bz_rg _ | grind [rg]) ?_
                            refine a_iadd (pc := 734) ok dL_refuses_734 ?_
                            refine w_o (pc := 735) ok ex dL_refuses_735 (ug4 228 (by decide +kernel) rfl) (ug4 229 (by decide +kernel) rfl) miL_noises hW (ctw_x1 (by unfold kIn; (repeat' split) <;> omega) (T_noises hl hA hW (x := x) (v := 51 + x % 9) (by unfold rg; omega))) ⟨by decide, by decide, rfl, rfl⟩ ⟨Nat.le_of_ble_eq_true rfl, Nat.le_of_ble_eq_true rfl⟩ rfl rfl (Nat.le_of_ble_eq_true rfl) ?_
                            intro M hW
                            refine a_ldc (pc := 738) (z := -9999002) (v := Int32.ofInt (-9999002)) ok dL_refuses_738 (ug2 127 (by decide +kernel) rfl) (by decide) ?_
                            refine a_icmp_ne (pc := 740) (tgt := 988) ok dL_refuses_740 (by decide) (by first | exact rg_w _ | exact rg_tw (by unfold rg; omega) (by unfold rg; omega) | omega | (unfold rg; omega) | (simp only [rg] at *; omega) | exact bz_rg _ | grind [rg]) (by first | exact rg_w _ | exact rg_tw (by unfold rg; omega) (by unfold rg; omega) | omega | (unfold rg; omega) | (simp only [rg] at *; omega) | exact bz_rg _ | grind [rg]) (fun c740 => ?_) (fun c740 => ?_)
                            · exfalso; first | omega | grind
                            · refine a_aload_n (pc := 743) ok dL_refuses_743 rfl ?_
                              refine a_bipush (pc := 744) ok dL_refuses_744 (by decide) ?_
                              refine a_iload_n (pc := 746) ok dL_refuses_746 rfl ?_
                              refine a_iconst (pc := 747) ok dL_refuses_747 ?_
                              refine a_irem (pc := 748) ok dL_refuses_748 (by first | exact rg_w _ | exact rg_tw (by unfold rg; omega) (by unfold rg; omega) | omega | (unfold rg; omega) | (simp only [rg] at *; omega) | exact bz_rg _ | grind [rg]) (by first | exact rg_w _ | exact rg_tw (by unfold rg; omega) (by unfold rg; omega) | omega | (unfold rg; omega) | (simp only [rg] at *; omega) | exact bz_rg _ | grind [rg]) ?_
                              refine a_if_ne (pc := 749) (tgt := 756) ok dL_refuses_749 (by decide) (by first | exact rg_w _ | exact rg_tw (by unfold rg; omega) (by unfold rg; omega) | omega | (unfold rg; omega) | (simp only [rg] at *; omega) | exact bz_rg _ | grind [rg]) (fun c749 => ?_) (fun c749 => ?_)
                              · refine a_bipush (pc := 756) ok dL_refuses_756 (by decide) ?_
                                refine a_iload_n (pc := 758) ok dL_refuses_758 rfl ?_
                                refine a_bipush (pc := 759) ok dL_refuses_759 (by decide) ?_
                                refine a_irem (pc := 761) ok dL_refuses_761 (by first | exact rg_w _ | exact rg_tw (by unfold rg; omega) (by unfold rg; omega) | omega | (unfold rg; omega) | (simp only [rg] at *; omega) | exact bz_rg _ | grind [rg]) (by first | exact rg_w _ | exact rg_tw (by unfold rg; omega) (by unfold rg; omega) | omega | (unfold rg; omega) | (simp only [rg] at *; omega) | exact bz_rg _ | grind [rg]) ?_
                                refine a_iadd (pc := 762) ok dL_refuses_762 ?_
                                refine a_iconst (pc := 763) ok dL_refuses_763 ?_
                                refine a_iconst (pc := 764) ok dL_refuses_764 ?_
                                refine v_o (pc := 765) ok ex gk.1 dL_refuses_765 (ug2 16 (by decide +kernel) rfl) (ug2 17 (by decide +kernel) rfl) miL_call hW (ctv_x1 (by unfold kIfL; (repeat' split) <;> omega) (C_18 hl hA hW (v := 31 + x % 9) (w := 0) (u3 := 0) (by unfold rg; omega) (by unfold rg; omega))) ⟨by decide, by decide⟩ ⟨Nat.le_of_ble_eq_true rfl, Nat.le_of_ble_eq_true rfl⟩ rfl rfl (Nat.le_of_ble_eq_true rfl) ?_
                                intro M hW
                                refine a_ldc (pc := 768) (z := -9999002) (v := Int32.ofInt (-9999002)) ok dL_refuses_768 (ug2 127 (by decide +kernel) rfl) (by decide) ?_
                                refine a_icmp_ne (pc := 770) (tgt := 988) ok dL_refuses_770 (by decide) (by first | exact rg_w _ | exact rg_tw (by unfold rg; omega) (by unfold rg; omega) | omega | (unfold rg; omega) | (simp only [rg] at *; omega) | exact bz_rg _ | grind [rg]) (by first | exact rg_w _ | exact rg_tw (by unfold rg; omega) (by unfold rg; omega) | omega | (unfold rg; omega) | (simp only [rg] at *; omega) | exact bz_rg _ | grind [rg]) (fun c770 => ?_) (fun c770 => ?_)
                                · exfalso; first | omega | grind
                                · refine a_aload_n (pc := 773) ok dL_refuses_773 rfl ?_
                                  refine a_bipush (pc := 774) ok dL_refuses_774 (by decide) ?_
                                  refine a_iconst (pc := 776) ok dL_refuses_776 ?_
                                  refine a_iconst (pc := 777) ok dL_refuses_777 ?_
                                  refine a_iload_n (pc := 778) ok dL_refuses_778 rfl ?_
                                  refine a_bipush (pc := 779) ok dL_refuses_779 (by decide) ?_
                                  refine a_irem (pc := 781) ok dL_refuses_781 (by first | exact rg_w _ | exact rg_tw (by unfold rg; omega) (by unfold rg; omega) | omega | (unfold rg; omega) | (simp only [rg] at *; omega) | exact bz_rg _ | grind [rg]) (by first | exact rg_w _ | exact rg_tw (by unfold rg; omega) (by unfold rg; omega) | omega | (unfold rg; omega) | (simp only [rg] at *; omega) | exact bz_rg _ | grind [rg]) ?_
                                  refine a_iadd (pc := 782) ok dL_refuses_782 ?_
                                  refine a_iconst (pc := 783) ok dL_refuses_783 ?_
                                  refine v_o (pc := 784) ok ex gk.1 dL_refuses_784 (ug2 16 (by decide +kernel) rfl) (ug2 17 (by decide +kernel) rfl) miL_call hW (ctv_x1 (by unfold kIfL; (repeat' split) <;> omega) (C_18 hl hA hW (v := 1) (w := 3 + x % 9) (u3 := 0) (by unfold rg; omega) (by unfold rg; omega))) ⟨by decide, by decide⟩ ⟨Nat.le_of_ble_eq_true rfl, Nat.le_of_ble_eq_true rfl⟩ rfl rfl (Nat.le_of_ble_eq_true rfl) ?_
                                  intro M hW
                                  refine a_ldc (pc := 787) (z := -9999002) (v := Int32.ofInt (-9999002)) ok dL_refuses_787 (ug2 127 (by decide +kernel) rfl) (by decide) ?_
                                  refine a_icmp_ne (pc := 789) (tgt := 988) ok dL_refuses_789 (by decide) (by first | exact rg_w _ | exact rg_tw (by unfold rg; omega) (by unfold rg; omega) | omega | (unfold rg; omega) | (simp only [rg] at *; omega) | exact bz_rg _ | grind [rg]) (by first | exact rg_w _ | exact rg_tw (by unfold rg; omega) (by unfold rg; omega) | omega | (unfold rg; omega) | (simp only [rg] at *; omega) | exact bz_rg _ | grind [rg]) (fun c789 => ?_) (fun c789 => ?_)
                                  · exfalso; first | omega | grind
                                  · refine a_aload_n (pc := 792) ok dL_refuses_792 rfl ?_
                                    refine a_bipush (pc := 793) ok dL_refuses_793 (by decide) ?_
                                    refine a_iload_n (pc := 795) ok dL_refuses_795 rfl ?_
                                    refine a_iconst (pc := 796) ok dL_refuses_796 ?_
                                    refine a_irem (pc := 797) ok dL_refuses_797 (by first | exact rg_w _ | exact rg_tw (by unfold rg; omega) (by unfold rg; omega) | omega | (unfold rg; omega) | (simp only [rg] at *; omega) | exact bz_rg _ | grind [rg]) (by first | exact rg_w _ | exact rg_tw (by unfold rg; omega) (by unfold rg; omega) | omega | (unfold rg; omega) | (simp only [rg] at *; omega) | exact bz_rg _ | grind [rg]) ?_
                                    refine a_if_ne (pc := 798) (tgt := 805) ok dL_refuses_798 (by decide) (by first | exact rg_w _ | exact rg_tw (by unfold rg; omega) (by unfold rg; omega) | omega | (unfold rg; omega) | (simp only [rg] at *; omega) | exact bz_rg _ | grind [rg]) (fun c798 => ?_) (fun c798 => ?_)
                                    · refine a_sipush (pc := 805) ok dL_refuses_805 (by decide) ?_
                                      refine a_iload_n (pc := 808) ok dL_refuses_808 rfl ?_
                                      refine a_bipush (pc := 809) ok dL_refuses_809 (by decide) ?_
                                      refine a_irem (pc := 811) ok dL_refuses_811 (by first | exact rg_w _ | exact rg_tw (by unfold rg; omega) (by unfold rg; omega) | omega | (unfold rg; omega) | (simp only [rg] at *; omega) | exact bz_rg _ | grind [rg]) (by first | exact rg_w _ | exact rg_tw (by unfold rg; omega) (by unfold rg; omega) | omega | (unfold rg; omega) | (simp only [rg] at *; omega) | exact bz_rg _ | grind [rg]) ?_
                                      refine a_iadd (pc := 812) ok dL_refuses_812 ?_
                                      refine a_iconst (pc := 813) ok dL_refuses_813 ?_
                                      refine a_iconst (pc := 814) ok dL_refuses_814 ?_
                                      refine v_o (pc := 815) ok ex gk.1 dL_refuses_815 (ug2 16 (by decide +kernel) rfl) (ug2 17 (by decide +kernel) rfl) miL_call hW (ctv_x1 (by unfold kIn; (repeat' split) <;> omega) (C_19 hl hA hW (n := 145 + x % 9) (u2 := 0) (u3 := 0) (by unfold rg; omega))) ⟨by decide, by decide⟩ ⟨Nat.le_of_ble_eq_true rfl, Nat.le_of_ble_eq_true rfl⟩ rfl rfl (Nat.le_of_ble_eq_true rfl) ?_
                                      intro M hW
                                      refine a_ldc (pc := 818) (z := -9999002) (v := Int32.ofInt (-9999002)) ok dL_refuses_818 (ug2 127 (by decide +kernel) rfl) (by decide) ?_
                                      refine a_icmp_ne (pc := 820) (tgt := 988) ok dL_refuses_820 (by decide) (by first | exact rg_w _ | exact rg_tw (by unfold rg; omega) (by unfold rg; omega) | omega | (unfold rg; omega) | (simp only [rg] at *; omega) | exact bz_rg _ | grind [rg]) (by first | exact rg_w _ | exact rg_tw (by unfold rg; omega) (by unfold rg; omega) | omega | (unfold rg; omega) | (simp only [rg] at *; omega) | exact bz_rg _ | grind [rg]) (fun c820 => ?_) (fun c820 => ?_)
                                      · exfalso; first | omega | grind
                                      · refine a_aload_n (pc := 823) ok dL_refuses_823 rfl ?_
                                        refine a_bipush (pc := 824) ok dL_refuses_824 (by decide) ?_
                                        refine a_iload_n (pc := 826) ok dL_refuses_826 rfl ?_
                                        refine a_iconst (pc := 827) ok dL_refuses_827 ?_
                                        refine a_irem (pc := 828) ok dL_refuses_828 (by first | exact rg_w _ | exact rg_tw (by unfold rg; omega) (by unfold rg; omega) | omega | (unfold rg; omega) | (simp only [rg] at *; omega) | exact bz_rg _ | grind [rg]) (by first | exact rg_w _ | exact rg_tw (by unfold rg; omega) (by unfold rg; omega) | omega | (unfold rg; omega) | (simp only [rg] at *; omega) | exact bz_rg _ | grind [rg]) ?_
                                        refine a_if_ne (pc := 829) (tgt := 836) ok dL_refuses_829 (by decide) (by first | exact rg_w _ | exact rg_tw (by unfold rg; omega) (by unfold rg; omega) | omega | (unfold rg; omega) | (simp only [rg] at *; omega) | exact bz_rg _ | grind [rg]) (fun c829 => ?_) (fun c829 => ?_)
                                        · refine a_iconst (pc := 836) ok dL_refuses_836 ?_
                                          refine a_iload_n (pc := 837) ok dL_refuses_837 rfl ?_
                                          refine a_bipush (pc := 838) ok dL_refuses_838 (by decide) ?_
                                          refine a_irem (pc := 840) ok dL_refuses_840 (by first | exact rg_w _ | exact rg_tw (by unfold rg; omega) (by unfold rg; omega) | omega | (unfold rg; omega) | (simp only [rg] at *; omega) | exact bz_rg _ | grind [rg]) (by first | exact rg_w _ | exact rg_tw (by unfold rg; omega) (by unfold rg; omega) | omega | (unfold rg; omega) | (simp only [rg] at *; omega) | exact bz_rg _ | grind [rg]) ?_
                                          refine a_iadd (pc := 841) ok dL_refuses_841 ?_
                                          refine a_iconst (pc := 842) ok dL_refuses_842 ?_
                                          refine a_iconst (pc := 843) ok dL_refuses_843 ?_
                                          refine v_o (pc := 844) ok ex gk.1 dL_refuses_844 (ug2 16 (by decide +kernel) rfl) (ug2 17 (by decide +kernel) rfl) miL_call hW (ctv_x1 (by unfold kIn; (repeat' split) <;> omega) (C_20 hl hA hW (k := 5 + x % 9) (u2 := 0) (u3 := 0) (by unfold rg; omega))) ⟨by decide, by decide⟩ ⟨Nat.le_of_ble_eq_true rfl, Nat.le_of_ble_eq_true rfl⟩ rfl rfl (Nat.le_of_ble_eq_true rfl) ?_
                                          intro M hW
                                          refine a_ldc (pc := 847) (z := -9999001) (v := Int32.ofInt (-9999001)) ok dL_refuses_847 (ug3 205 (by decide +kernel) rfl) (by decide) ?_
                                          refine a_icmp_ne (pc := 849) (tgt := 988) ok dL_refuses_849 (by decide) (by first | exact rg_w _ | exact rg_tw (by unfold rg; omega) (by unfold rg; omega) | omega | (unfold rg; omega) | (simp only [rg] at *; omega) | exact bz_rg _ | grind [rg]) (by first | exact rg_w _ | exact rg_tw (by unfold rg; omega) (by unfold rg; omega) | omega | (unfold rg; omega) | (simp only [rg] at *; omega) | exact bz_rg _ | grind [rg]) (fun c849 => ?_) (fun c849 => ?_)
                                          · exfalso; first | omega | grind
                                          · refine a_aload_n (pc := 852) ok dL_refuses_852 rfl ?_
                                            refine a_iload (pc := 853) ok dL_refuses_853 rfl ?_
                                            refine a_iconst (pc := 855) ok dL_refuses_855 ?_
                                            refine a_sipush (pc := 856) ok dL_refuses_856 (by decide) ?_
                                            refine a_bipush (pc := 859) ok dL_refuses_859 (by decide) ?_
                                            refine w_o (pc := 861) ok ex dL_refuses_861 (ug5 3 (by decide +kernel) rfl) (ug5 4 (by decide +kernel) rfl) miL_would hW (ctw_x1 (by unfold kIfC; (repeat' split) <;> omega) (T_would hl hA hW (x := sC (jS A) + x % 99) (y := 0) (g := 200) (w := 9) (by unfold rg; omega) (by unfold rg; omega) (by unfold rg; omega) (by unfold rg; omega))) ⟨by decide, by decide, rfl, rfl⟩ ⟨Nat.le_of_ble_eq_true rfl, Nat.le_of_ble_eq_true rfl⟩ rfl rfl (Nat.le_of_ble_eq_true rfl) ?_
                                            intro M hW
                                            refine a_ldc (pc := 864) (z := -9999001) (v := Int32.ofInt (-9999001)) ok dL_refuses_864 (ug3 205 (by decide +kernel) rfl) (by decide) ?_
                                            refine a_icmp_ne (pc := 866) (tgt := 988) ok dL_refuses_866 (by decide) (by first | exact rg_w _ | exact rg_tw (by unfold rg; omega) (by unfold rg; omega) | omega | (unfold rg; omega) | (simp only [rg] at *; omega) | exact bz_rg _ | grind [rg]) (by first | exact rg_w _ | exact rg_tw (by unfold rg; omega) (by unfold rg; omega) | omega | (unfold rg; omega) | (simp only [rg] at *; omega) | exact bz_rg _ | grind [rg]) (fun c866 => ?_) (fun c866 => ?_)
                                            · exfalso; first | omega | grind
                                            · refine a_aload_n (pc := 869) ok dL_refuses_869 rfl ?_
                                              refine a_iconst (pc := 870) ok dL_refuses_870 ?_
                                              refine a_iconst (pc := 871) ok dL_refuses_871 ?_
                                              refine a_iload (pc := 872) ok dL_refuses_872 rfl ?_
                                              refine a_iconst (pc := 874) ok dL_refuses_874 ?_
                                              refine w_o (pc := 875) ok ex dL_refuses_875 (ug5 3 (by decide +kernel) rfl) (ug5 4 (by decide +kernel) rfl) miL_would hW (ctw_x2 (by unfold kIfC; (repeat' split) <;> omega) (T_would hl hA hW (x := 0) (y := 0) (g := 100 + x % 99) (w := 0) (by unfold rg; omega) (by unfold rg; omega) (by unfold rg; omega) (by unfold rg; omega))) ⟨by decide, by decide, rfl, rfl⟩ ⟨Nat.le_of_ble_eq_true rfl, Nat.le_of_ble_eq_true rfl⟩ rfl rfl (Nat.le_of_ble_eq_true rfl) ?_
                                              intro M hW
                                              refine a_ldc (pc := 878) (z := -9999002) (v := Int32.ofInt (-9999002)) ok dL_refuses_878 (ug2 127 (by decide +kernel) rfl) (by decide) ?_
                                              refine a_icmp_ne (pc := 880) (tgt := 988) ok dL_refuses_880 (by decide) (by first | exact rg_w _ | exact rg_tw (by unfold rg; omega) (by unfold rg; omega) | omega | (unfold rg; omega) | (simp only [rg] at *; omega) | exact bz_rg _ | grind [rg]) (by first | exact rg_w _ | exact rg_tw (by unfold rg; omega) (by unfold rg; omega) | omega | (unfold rg; omega) | (simp only [rg] at *; omega) | exact bz_rg _ | grind [rg]) (fun c880 => ?_) (fun c880 => ?_)
                                              · exfalso; first | omega | grind
                                              · refine a_aload_n (pc := 883) ok dL_refuses_883 rfl ?_
                                                refine a_iconst (pc := 884) ok dL_refuses_884 ?_
                                                refine a_iconst (pc := 885) ok dL_refuses_885 ?_
                                                refine a_iconst (pc := 886) ok dL_refuses_886 ?_
                                                refine a_iconst (pc := 887) ok dL_refuses_887 ?_
                                                refine a_iload_n (pc := 888) ok dL_refuses_888 rfl ?_
                                                refine a_bipush (pc := 889) ok dL_refuses_889 (by decide) ?_
                                                refine a_irem (pc := 891) ok dL_refuses_891 (by first | exact rg_w _ | exact rg_tw (by unfold rg; omega) (by unfold rg; omega) | omega | (unfold rg; omega) | (simp only [rg] at *; omega) | exact bz_rg _ | grind [rg]) (by first | exact rg_w _ | exact rg_tw (by unfold rg; omega) (by unfold rg; omega) | omega | (unfold rg; omega) | (simp only [rg] at *; omega) | exact bz_rg _ | grind [rg]) ?_
                                                refine a_iadd (pc := 892) ok dL_refuses_892 ?_
                                                refine w_o (pc := 893) ok ex dL_refuses_893 (ug5 3 (by decide +kernel) rfl) (ug5 4 (by decide +kernel) rfl) miL_would hW (ctw_x2 (by unfold kIfC; (repeat' split) <;> omega) (T_would hl hA hW (x := 0) (y := 0) (g := 0) (w := 3 + x % 9) (by unfold rg; omega) (by unfold rg; omega) (by unfold rg; omega) (by unfold rg; omega))) ⟨by decide, by decide, rfl, rfl⟩ ⟨Nat.le_of_ble_eq_true rfl, Nat.le_of_ble_eq_true rfl⟩ rfl rfl (Nat.le_of_ble_eq_true rfl) ?_
                                                intro M hW
                                                refine a_ldc (pc := 896) (z := -9999002) (v := Int32.ofInt (-9999002)) ok dL_refuses_896 (ug2 127 (by decide +kernel) rfl) (by decide) ?_
                                                refine a_icmp_ne (pc := 898) (tgt := 988) ok dL_refuses_898 (by decide) (by first | exact rg_w _ | exact rg_tw (by unfold rg; omega) (by unfold rg; omega) | omega | (unfold rg; omega) | (simp only [rg] at *; omega) | exact bz_rg _ | grind [rg]) (by first | exact rg_w _ | exact rg_tw (by unfold rg; omega) (by unfold rg; omega) | omega | (unfold rg; omega) | (simp only [rg] at *; omega) | exact bz_rg _ | grind [rg]) (fun c898 => ?_) (fun c898 => ?_)
                                                · exfalso; first | omega | grind
                                                · refine a_aload_n (pc := 901) ok dL_refuses_901 rfl ?_
                                                  refine a_bipush (pc := 902) ok dL_refuses_902 (by decide) ?_
                                                  refine a_iconst (pc := 904) ok dL_refuses_904 ?_
                                                  refine a_iload_n (pc := 905) ok dL_refuses_905 rfl ?_
                                                  refine a_bipush (pc := 906) ok dL_refuses_906 (by decide) ?_
                                                  refine a_irem (pc := 908) ok dL_refuses_908 (by first | exact rg_w _ | exact rg_tw (by unfold rg; omega) (by unfold rg; omega) | omega | (unfold rg; omega) | (simp only [rg] at *; omega) | exact bz_rg _ | grind [rg]) (by first | exact rg_w _ | exact rg_tw (by unfold rg; omega) (by unfold rg; omega) | omega | (unfold rg; omega) | (simp only [rg] at *; omega) | exact bz_rg _ | grind [rg]) ?_
                                                  refine a_iadd (pc := 909) ok dL_refuses_909 ?_
                                                  refine a_iconst (pc := 910) ok dL_refuses_910 ?_
                                                  refine a_iconst (pc := 911) ok dL_refuses_911 ?_
                                                  refine v_o (pc := 912) ok ex gk.1 dL_refuses_912 (ug2 16 (by decide +kernel) rfl) (ug2 17 (by decide +kernel) rfl) miL_call hW (ctv_x1 (by unfold kIn; (repeat' split) <;> omega) (C_21 hl hA hW (v := 2 + x % 50) (u2 := 0) (u3 := 0) (by unfold rg; omega))) ⟨by decide, by decide⟩ ⟨Nat.le_of_ble_eq_true rfl, Nat.le_of_ble_eq_true rfl⟩ rfl rfl (Nat.le_of_ble_eq_true rfl) ?_
                                                  intro M hW
                                                  refine a_ldc (pc := 915) (z := -9999001) (v := Int32.ofInt (-9999001)) ok dL_refuses_915 (ug3 205 (by decide +kernel) rfl) (by decide) ?_
                                                  refine a_icmp_ne (pc := 917) (tgt := 988) ok dL_refuses_917 (by decide) (by first | exact rg_w _ | exact rg_tw (by unfold rg; omega) (by unfold rg; omega) | omega | (unfold rg; omega) | (simp only [rg] at *; omega) | exact bz_rg _ | grind [rg]) (by first | exact rg_w _ | exact rg_tw (by unfold rg; omega) (by unfold rg; omega) | omega | (unfold rg; omega) | (simp only [rg] at *; omega) | exact bz_rg _ | grind [rg]) (fun c917 => ?_) (fun c917 => ?_)
                                                  · exfalso; first | omega | grind
                                                  · refine a_aload_n (pc := 920) ok dL_refuses_920 rfl ?_
                                                    refine a_bipush (pc := 921) ok dL_refuses_921 (by decide) ?_
                                                    refine a_iconst (pc := 923) ok dL_refuses_923 ?_
                                                    refine a_iload_n (pc := 924) ok dL_refuses_924 rfl ?_
                                                    refine a_bipush (pc := 925) ok dL_refuses_925 (by decide) ?_
                                                    refine a_irem (pc := 927) ok dL_refuses_927 (by first | exact rg_w _ | exact rg_tw (by unfold rg; omega) (by unfold rg; omega) | omega | (unfold rg; omega) | (simp only [rg] at *; omega) | exact bz_rg _ | grind [rg]) (by first | exact rg_w _ | exact rg_tw (by unfold rg; omega) (by unfold rg; omega) | omega | (unfold rg; omega) | (simp only [rg] at *; omega) | exact bz_rg _ | grind [rg]) ?_
                                                    refine a_isub (pc := 928) ok dL_refuses_928 ?_
                                                    refine a_iconst (pc := 929) ok dL_refuses_929 ?_
                                                    refine a_iconst (pc := 930) ok dL_refuses_930 ?_
                                                    refine v_o (pc := 931) ok ex gk.1 dL_refuses_931 (ug2 16 (by decide +kernel) rfl) (ug2 17 (by decide +kernel) rfl) miL_call hW (ctv_x1 (by unfold kRes; (repeat' split) <;> omega) (C_22 hl hA hW (v := -1 - x % 9) (u2 := 0) (u3 := 0) (by unfold rg; omega))) ⟨by decide, by decide⟩ ⟨Nat.le_of_ble_eq_true rfl, Nat.le_of_ble_eq_true rfl⟩ rfl rfl (Nat.le_of_ble_eq_true rfl) ?_
                                                    intro M hW
                                                    refine a_ldc (pc := 934) (z := -9999001) (v := Int32.ofInt (-9999001)) ok dL_refuses_934 (ug3 205 (by decide +kernel) rfl) (by decide) ?_
                                                    refine a_icmp_ne (pc := 936) (tgt := 988) ok dL_refuses_936 (by decide) (by first | exact rg_w _ | exact rg_tw (by unfold rg; omega) (by unfold rg; omega) | omega | (unfold rg; omega) | (simp only [rg] at *; omega) | exact bz_rg _ | grind [rg]) (by first | exact rg_w _ | exact rg_tw (by unfold rg; omega) (by unfold rg; omega) | omega | (unfold rg; omega) | (simp only [rg] at *; omega) | exact bz_rg _ | grind [rg]) (fun c936 => ?_) (fun c936 => ?_)
                                                    · exfalso; first | omega | grind
                                                    · refine a_aload_n (pc := 939) ok dL_refuses_939 rfl ?_
                                                      refine a_iconst (pc := 940) ok dL_refuses_940 ?_
                                                      refine a_lconst (pc := 941) (z := 0) ok dL_refuses_941 rfl ?_
                                                      refine w_o (pc := 942) ok ex dL_refuses_942 (ug5 14 (by decide +kernel) rfl) (ug5 15 (by decide +kernel) rfl) miL_doScript hW (ctw_x1 (by unfold kRun; (repeat' split) <;> omega) (T_doScript hl hA hW (n := 0) (x := 0) (by unfold rg; omega) (by unfold rgL; omega))) ⟨by decide, by decide, rfl, rfl⟩ ⟨Nat.le_of_ble_eq_true rfl, Nat.le_of_ble_eq_true rfl⟩ rfl rfl (Nat.le_of_ble_eq_true rfl) ?_
                                                      intro M hW
                                                      refine a_ldc (pc := 945) (z := -9999002) (v := Int32.ofInt (-9999002)) ok dL_refuses_945 (ug2 127 (by decide +kernel) rfl) (by decide) ?_
                                                      refine a_icmp_ne (pc := 947) (tgt := 988) ok dL_refuses_947 (by decide) (by first | exact rg_w _ | exact rg_tw (by unfold rg; omega) (by unfold rg; omega) | omega | (unfold rg; omega) | (simp only [rg] at *; omega) | exact bz_rg _ | grind [rg]) (by first | exact rg_w _ | exact rg_tw (by unfold rg; omega) (by unfold rg; omega) | omega | (unfold rg; omega) | (simp only [rg] at *; omega) | exact bz_rg _ | grind [rg]) (fun c947 => ?_) (fun c947 => ?_)
                                                      · exfalso; first | omega | grind
                                                      · refine a_aload_n (pc := 950) ok dL_refuses_950 rfl ?_
                                                        refine a_iconst (pc := 951) ok dL_refuses_951 ?_
                                                        refine a_ldc2 (pc := 952) (z := 100000000) (v := Int64.ofInt 100000000) ok dL_refuses_952 (ug5 34 (by decide +kernel) rfl) rfl ?_
                                                        refine a_iload_n (pc := 955) ok dL_refuses_955 rfl ?_
                                                        refine a_i2l (pc := 956) ok dL_refuses_956 (by first | exact rg_w _ | exact rg_tw (by unfold rg; omega) (by unfold rg; omega) | omega | (unfold rg; omega) | (simp only [rg] at *; omega) | exact bz_rg _ | grind [rg]) ?_
                                                        refine a_ladd (pc := 957) ok dL_refuses_957 ?_
                                                        refine w_o (pc := 958) ok ex dL_refuses_958 (ug5 14 (by decide +kernel) rfl) (ug5 15 (by decide +kernel) rfl) miL_doScript hW (ctw_x1 (by unfold kRun; (repeat' split) <;> omega) (T_doScript hl hA hW (n := 1) (x := 100000000 + x) (by unfold rg; omega) (by unfold rgL; omega))) ⟨by decide, by decide, rfl, rfl⟩ ⟨Nat.le_of_ble_eq_true rfl, Nat.le_of_ble_eq_true rfl⟩ rfl rfl (Nat.le_of_ble_eq_true rfl) ?_
                                                        intro M hW
                                                        refine a_ldc (pc := 961) (z := -9999002) (v := Int32.ofInt (-9999002)) ok dL_refuses_961 (ug2 127 (by decide +kernel) rfl) (by decide) ?_
                                                        refine a_icmp_ne (pc := 963) (tgt := 988) ok dL_refuses_963 (by decide) (by first | exact rg_w _ | exact rg_tw (by unfold rg; omega) (by unfold rg; omega) | omega | (unfold rg; omega) | (simp only [rg] at *; omega) | exact bz_rg _ | grind [rg]) (by first | exact rg_w _ | exact rg_tw (by unfold rg; omega) (by unfold rg; omega) | omega | (unfold rg; omega) | (simp only [rg] at *; omega) | exact bz_rg _ | grind [rg]) (fun c963 => ?_) (fun c963 => ?_)
                                                        · exfalso; first | omega | grind
                                                        · refine a_aload_n (pc := 966) ok dL_refuses_966 rfl ?_
                                                          refine a_iload_n (pc := 967) ok dL_refuses_967 rfl ?_
                                                          refine a_i2l (pc := 968) ok dL_refuses_968 (by first | exact rg_w _ | exact rg_tw (by unfold rg; omega) (by unfold rg; omega) | omega | (unfold rg; omega) | (simp only [rg] at *; omega) | exact bz_rg _ | grind [rg]) ?_
                                                          refine a_bipush (pc := 969) ok dL_refuses_969 (by decide) ?_
                                                          refine a_iload_n (pc := 971) ok dL_refuses_971 rfl ?_
                                                          refine a_bipush (pc := 972) ok dL_refuses_972 (by decide) ?_
                                                          refine a_irem (pc := 974) ok dL_refuses_974 (by first | exact rg_w _ | exact rg_tw (by unfold rg; omega) (by unfold rg; omega) | omega | (unfold rg; omega) | (simp only [rg] at *; omega) | exact bz_rg _ | grind [rg]) (by first | exact rg_w _ | exact rg_tw (by unfold rg; omega) (by unfold rg; omega) | omega | (unfold rg; omega) | (simp only [rg] at *; omega) | exact bz_rg _ | grind [rg]) ?_
                                                          refine a_iadd (pc := 975) ok dL_refuses_975 ?_
                                                          refine w_o (pc := 976) ok ex dL_refuses_976 (ug5 35 (by decide +kernel) rfl) (ug5 36 (by decide +kernel) rfl) miL_doSimulate hW (ctw_x1 (by unfold kIn; (repeat' split) <;> omega) (T_doSimulate hl hA hW (x := x) (n := 61 + x % 9) (by unfold rg; omega))) ⟨by decide, by decide, rfl, rfl⟩ ⟨Nat.le_of_ble_eq_true rfl, Nat.le_of_ble_eq_true rfl⟩ rfl rfl (Nat.le_of_ble_eq_true rfl) ?_
                                                          intro M hW
                                                          refine a_ldc (pc := 979) (z := -9999002) (v := Int32.ofInt (-9999002)) ok dL_refuses_979 (ug2 127 (by decide +kernel) rfl) (by decide) ?_
                                                          refine a_icmp_ne (pc := 981) (tgt := 988) ok dL_refuses_981 (by decide) (by first | exact rg_w _ | exact rg_tw (by unfold rg; omega) (by unfold rg; omega) | omega | (unfold rg; omega) | (simp only [rg] at *; omega) | exact bz_rg _ | grind [rg]) (by first | exact rg_w _ | exact rg_tw (by unfold rg; omega) (by unfold rg; omega) | omega | (unfold rg; omega) | (simp only [rg] at *; omega) | exact bz_rg _ | grind [rg]) (fun c981 => ?_) (fun c981 => ?_)
                                                          · exfalso; first | omega | grind
                                                          · refine a_iconst (pc := 984) ok dL_refuses_984 ?_
                                                            refine a_goto (pc := 985) (tgt := 989) ok dL_refuses_985 (by decide) ?_
                                                            refine AW.widen (kc2 := rgL_refuses.cells) (ks2 := rgL_refuses.slots) (Nat.le_of_ble_eq_true rfl) (Nat.le_of_ble_eq_true rfl) ?_
                                                            exact a_zret (pc := 989) ok dL_refuses_989 (by first | rfl | exact nb_bz _ | exact @nb_bz _ (Classical.propDecidable _) | decide | exact nb_01 (by assumption)) (⟨rfl, hW⟩)
                                        · exfalso; first | omega | grind
                                    · exfalso; first | omega | grind
                              · exfalso; first | omega | grind
                          · exfalso; first | omega | grind
                      · exfalso; first | omega | grind
                  · exfalso; first | omega | grind
          · exfalso; first | omega | grind
      · exfalso; first | omega | grind
  · exfalso; first | omega | grind
end RF2
