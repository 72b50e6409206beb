/-! THE LAW: a turn's begin. Printed by wip/p37/gen/mklaw.py. -/
section LO9
theorem law_34 {X : Cx} {b L : Nat} {xs : Nat → Int32} (gk : GK X cL_law RL (some .boolean) room_1 (fun _ _ => False) 600086 7301442 206) (ex : EX X) (hN : nLof X = 8) (hl : X.1.2.1.stackTraces = false) (sc : SCR X b L xs) {t : Int} {j kc ks : Nat} (hj : (j : Int) < t ∧ t ≤ 14) (hkc : kc ≤ 400000) (hks : ks ≤ 6000000) {A A' : Ob} {x z : Int} (hx : 0 ≤ x ∧ x < 2147483648) (hz : rg z) {Mo Mq : List va_E} (hA : VA A) (hWo : WO A Mo) (hWq : WO A Mq) (hA' : VA A') {a6 a7 : Option Value}
    (hcell : CtC X.1.2.1 yL_cell cL_cell 2 (some .int) rgL_cell b L xs (1 + (j : Int)) x)
    (hact : ∀ M : List va_E, WO A M → CtV X.1.2.1 yL_act cL_act 7 (some .int) rgL_act [.ref 0, iv x] M (po1 z A'))
    (hhol : ∀ M : List va_E, WO A' M → CtV X.1.2.1 yL_holds cL_holds 21 (some .boolean) rgL_holds [.ref 0] M (po1 1 A'))
    (k : ∀ Mo Mq : List va_E, WO A' Mo → WO A' Mq → AW X (kc + 5100) (ks + 41000) 134 [some (.ref 4095), some (.ref 0), some (.ref 103), some (iv t), some (iv 1), some (iv (j : Int)), some (iv x), some (iv z)] [] (W2 103 Mo Mq)) : AW X kc ks 34 (lwL t (j : Int) a6 a7) [] (W2 103 Mo Mq) := by
  have ok := gk.ok
  refine a_iload (pc := 34) ok dL_law_34 rfl ?_
  refine a_iload_n (pc := 36) ok dL_law_36 rfl ?_
  refine a_icmp_ge (pc := 37) (tgt := 199) ok dL_law_37 (by decide) (by first | omega | (unfold rg; omega)) (by first | omega | (unfold rg; omega)) (fun c37 => ?_) (fun c37 => ?_)
  · exfalso; first | omega | grind
  · refine a_iload (pc := 40) ok dL_law_40 rfl ?_
    refine a_if_eq (pc := 42) (tgt := 199) ok dL_law_42 (by decide) (by first | exact rg_w _ | exact rg_tw (by unfold rg; omega) (by unfold rg; omega) | (unfold rg; omega) | omega | assumption | exact bz_rg _) (fun c42 => ?_) (fun c42 => ?_)
    · exfalso; first | omega | grind
    · refine a_aload_n (pc := 45) ok dL_law_45 rfl ?_
      refine a_iconst (pc := 46) ok dL_law_46 ?_
      refine a_iload (pc := 47) ok dL_law_47 rfl ?_
      refine a_iadd (pc := 49) ok dL_law_49 ?_
      refine v_cell (pc := 50) ok ex gk.1 dL_law_50 (ug2 8 (by decide +kernel) rfl) (ug2 9 (by decide +kernel) rfl) miL_cell sc (hcell) ⟨by decide, by decide⟩ ⟨by show kc + 0 ≤ 600086; omega, by show ks + 0 ≤ 7301442; omega⟩ rfl rfl (Nat.le_of_ble_eq_true rfl) ?_
      skip
      refine a_istore (pc := 53) ok dL_law_53 rfl (by rw [hN]; decide) ?_
      refine a_aload_n (pc := 55) ok dL_law_55 rfl ?_
      refine a_iload (pc := 56) ok dL_law_56 rfl ?_
      refine v_oo (pc := 58) ok ex gk.1 dL_law_58 (ug5 58 (by decide +kernel) rfl) (ug5 59 (by decide +kernel) rfl) miL_act hWo (hact _ hWo) ⟨by decide, by decide⟩ ⟨by show kc + 0 + 4 ≤ 600086; omega, by show ks + 0 + 24 ≤ 7301442; omega⟩ rfl rfl (Nat.le_of_ble_eq_true rfl) ?_
      intro Mo hWo
      refine a_istore (pc := 61) ok dL_law_61 rfl (by rw [hN]; decide) ?_
      refine a_aload_n (pc := 63) ok dL_law_63 rfl ?_
      refine a_iload (pc := 64) ok dL_law_64 rfl ?_
      refine a_ldc (pc := 66) (z := 100000) (v := Int32.ofInt 100000) ok dL_law_66 (ug5 84 (by decide +kernel) rfl) (by decide) ?_
      refine a_irem (pc := 68) ok dL_law_68 (by omega) (by omega) ?_
      refine v_qq (pc := 69) ok ex gk.1 dL_law_69 (ug2 13 (by decide +kernel) rfl) (ug2 14 (by decide +kernel) rfl) miL_refuses hWo hWq (H_refuses hl hA hWq (x := x % 100000) (by omega)) ⟨by decide, by decide⟩ ⟨by show kc + 0 + 4 + 60 ≤ 600086; omega, by show ks + 0 + 24 + 360 ≤ 7301442; omega⟩ rfl rfl (Nat.le_of_ble_eq_true rfl) ?_
      intro Mq hWq
      refine a_if_eq (pc := 72) (tgt := 190) ok dL_law_72 (by decide) (by first | omega | (unfold rg; omega)) (fun c72 => ?_) (fun c72 => ?_)
      · exfalso; first | omega | grind
      · refine a_aload_n (pc := 75) ok dL_law_75 rfl ?_
        refine a_iload (pc := 76) ok dL_law_76 rfl ?_
        refine v_qq (pc := 78) ok ex gk.1 dL_law_78 (ug5 58 (by decide +kernel) rfl) (ug5 59 (by decide +kernel) rfl) miL_act hWo hWq (hact _ hWq) ⟨by decide, by decide⟩ ⟨by show kc + 0 + 4 + 60 + 4 ≤ 600086; omega, by show ks + 0 + 24 + 360 + 24 ≤ 7301442; omega⟩ rfl rfl (Nat.le_of_ble_eq_true rfl) ?_
        intro Mq hWq
        refine a_iload (pc := 81) ok dL_law_81 rfl ?_
        refine a_icmp_ne (pc := 83) (tgt := 190) ok dL_law_83 (by decide) (by exact hz) (by exact hz) (fun c83 => ?_) (fun c83 => ?_)
        · exfalso; first | omega | grind
        · refine a_aload_n (pc := 86) ok dL_law_86 rfl ?_
          refine a_aload_n (pc := 87) ok dL_law_87 rfl ?_
          refine a_iload (pc := 88) ok dL_law_88 rfl ?_
          refine a_sipush (pc := 90) ok dL_law_90 (by decide) ?_
          refine a_irem (pc := 93) ok dL_law_93 (by omega) (by omega) ?_
          refine v_w (pc := 94) ok ex gk.1 dL_law_94 (ug5 69 (by decide +kernel) rfl) (ug5 70 (by decide +kernel) rfl) miL_alike hWo hWq (H_alike hl hA' hWo hWq (x := x % 5000) (by omega)) ⟨by decide, by decide⟩ ⟨by show kc + 0 + 4 + 60 + 4 + 20 ≤ 600086; omega, by show ks + 0 + 24 + 360 + 24 + 120 ≤ 7301442; omega⟩ rfl rfl (Nat.le_of_ble_eq_true rfl) ?_
          intro Mo Mq hWo hWq
          refine a_if_eq (pc := 97) (tgt := 190) ok dL_law_97 (by decide) (by first | omega | (unfold rg; omega)) (fun c97 => ?_) (fun c97 => ?_)
          · exfalso; first | omega | grind
          · refine a_iload (pc := 100) ok dL_law_100 rfl ?_
            refine a_iconst (pc := 102) ok dL_law_102 ?_
            refine a_irem (pc := 103) ok dL_law_103 (by omega) (by omega) ?_
            refine a_iconst (pc := 104) ok dL_law_104 ?_
            refine a_icmp_ne (pc := 105) (tgt := 134) ok dL_law_105 (by decide) (by first | omega | (unfold rg; omega)) (by first | omega | (unfold rg; omega)) (fun c105 => ?_) (fun c105 => ?_)
            · refine AW.widen (kc2 := kc + 5100) (ks2 := ks + 41000) (by show kc + 0 + 4 + 60 + 4 + 20 ≤ _; omega) (by show ks + 0 + 24 + 360 + 24 + 120 ≤ _; omega) ?_
              exact k Mo Mq hWo hWq
            · refine a_iload (pc := 108) ok dL_law_108 rfl ?_
              refine a_bipush (pc := 110) ok dL_law_110 (by decide) ?_
              refine a_irem (pc := 112) ok dL_law_112 (by omega) (by omega) ?_
              refine a_iconst (pc := 113) ok dL_law_113 ?_
              refine a_icmp_ne (pc := 114) (tgt := 127) ok dL_law_114 (by decide) (by first | omega | (unfold rg; omega)) (by first | omega | (unfold rg; omega)) (fun c114 => ?_) (fun c114 => ?_)
              · refine a_aload_n (pc := 127) ok dL_law_127 rfl ?_
                refine v_qq (pc := 128) ok ex gk.1 dL_law_128 (ug5 48 (by decide +kernel) rfl) (ug5 49 (by decide +kernel) rfl) miL_holds hWo hWq (hhol _ hWq) ⟨by decide, by decide⟩ ⟨by show kc + 0 + 4 + 60 + 4 + 20 + 5000 ≤ 600086; omega, by show ks + 0 + 24 + 360 + 24 + 120 + 40000 ≤ 7301442; omega⟩ rfl rfl (Nat.le_of_ble_eq_true rfl) ?_
                intro Mq hWq
                refine a_if_eq (pc := 131) (tgt := 190) ok dL_law_131 (by decide) (by first | omega | (unfold rg; omega)) (fun c131 => ?_) (fun c131 => ?_)
                · exfalso; first | omega | grind
                · refine AW.widen (kc2 := kc + 5100) (ks2 := ks + 41000) (by show kc + 0 + 4 + 60 + 4 + 20 + 5000 ≤ _; omega) (by show ks + 0 + 24 + 360 + 24 + 120 + 40000 ≤ _; omega) ?_
                  exact k Mo Mq hWo hWq
              · refine a_aload_n (pc := 117) ok dL_law_117 rfl ?_
                refine v_oo (pc := 118) ok ex gk.1 dL_law_118 (ug5 48 (by decide +kernel) rfl) (ug5 49 (by decide +kernel) rfl) miL_holds hWo (hhol _ hWo) ⟨by decide, by decide⟩ ⟨by show kc + 0 + 4 + 60 + 4 + 20 + 5000 ≤ 600086; omega, by show ks + 0 + 24 + 360 + 24 + 120 + 40000 ≤ 7301442; omega⟩ rfl rfl (Nat.le_of_ble_eq_true rfl) ?_
                intro Mo hWo
                refine a_if_eq (pc := 121) (tgt := 190) ok dL_law_121 (by decide) (by first | omega | (unfold rg; omega)) (fun c121 => ?_) (fun c121 => ?_)
                · exfalso; first | omega | grind
                · refine a_goto (pc := 124) (tgt := 134) ok dL_law_124 (by decide) ?_
                  refine AW.widen (kc2 := kc + 5100) (ks2 := ks + 41000) (by show kc + 0 + 4 + 60 + 4 + 20 + 5000 ≤ _; omega) (by show ks + 0 + 24 + 360 + 24 + 120 + 40000 ≤ _; omega) ?_
                  exact k Mo Mq hWo hWq
end LO9
