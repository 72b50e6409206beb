/-! THE LAW: what holds on each plate: thresholds. Printed by wip/p37/gen/mkhold.py. -/
section HO1
variable {A : Ob}
theorem hold1 {X : Cx} (hl : X.1.2.1.stackTraces = false) (hN : nLof X = 21) (gk : GK X cL_holds RL (some .boolean) rgL_holds (po1 1 A) rgL_holds.cells rgL_holds.slots 108) (ex : EX X) (hA : VA A) (hB : VB A) (f7 f8 f9 f10 : Int → Int) (K : ∀ (M : List va_E) (f11 : Int → Int), WO A M → (∀ j : Int, 0 ≤ j → j < (sN (jS A) : Int) → f11 j = sT (jS A) j) → AW X 100 1000 190 [some (.ref 0), some (iv (sC (jS A))), some (iv (sR (jS A))), some (iv (sN (jS A) : Int)), some (iv (sE (jS A))), some (iv (mS (jS A))), some (iv (sC (jS A) * sR (jS A))), some (.ref 103), some (.ref 104), some (.ref 105), some (.ref 106), some (.ref 107), some (iv (0)), some (iv (0)), some (iv (1)), some (iv ((sN (jS A) : Int))), none, none, none, none, none] [] (M ++ [ia 64 f7, ia 64 f8, ia 64 f9, ia 6 f10, ia 5 f11])) :
    ∀ d k : Nat, (k : Int) + d = (sN (jS A) : Int) → ∀ (M : List va_E) (f11 : Int → Int), WO A M → (∀ j : Int, 0 ≤ j → j < k → f11 j = sT (jS A) j) → AW X (20 + 10 * k) (300 + 60 * k) 118 [some (.ref 0), some (iv (sC (jS A))), some (iv (sR (jS A))), some (iv (sN (jS A) : Int)), some (iv (sE (jS A))), some (iv (mS (jS A))), some (iv (sC (jS A) * sR (jS A))), some (.ref 103), some (.ref 104), some (.ref 105), some (.ref 106), some (.ref 107), some (iv (0)), some (iv (0)), some (iv (1)), some (iv ((k : Int))), none, none, none, none, none] [] (M ++ [ia 64 f7, ia 64 f8, ia 64 f9, ia 6 f10, ia 5 f11]) := by
  intro d
  induction d with
  | zero =>
    intro k hk M f11 hW hf
    have ok := gk.ok
    obtain ⟨g1, g2, g3, g4, g5, g6⟩ := H_facts hA hB
    refine a_iload (pc := 118) ok dL_holds_118 rfl ?_
    refine a_iload_n (pc := 120) ok dL_holds_120 rfl ?_
    refine a_icmp_ge (pc := 121) (tgt := 190) ok dL_holds_121 (by decide) (by first | assumption | exact rg_w _ | exact rg_tw (by unfold rg; omega) (by unfold rg; omega) | (unfold rg; omega) | omega | exact bz_rg _ | grind [rg]) (by first | assumption | exact rg_w _ | exact rg_tw (by unfold rg; omega) (by unfold rg; omega) | (unfold rg; omega) | omega | exact bz_rg _ | grind [rg]) (fun c121 => ?_) (fun c121 => ?_)
    · refine AW.widen (kc2 := 100) (ks2 := 1000) (by omega) (by omega) ?_
      refine AW.cast (L2 := [some (.ref 0), some (iv (sC (jS A))), some (iv (sR (jS A))), some (iv (sN (jS A) : Int)), some (iv (sE (jS A))), some (iv (mS (jS A))), some (iv (sC (jS A) * sR (jS A))), some (.ref 103), some (.ref 104), some (.ref 105), some (.ref 106), some (.ref 107), some (iv (0)), some (iv (0)), some (iv (1)), some (iv ((sN (jS A) : Int))), none, none, none, none, none]) (K M f11 hW (fun j h1 h2 => hf j h1 (by omega))) ?_ rfl rfl
      rw [show (k : Int) = (sN (jS A) : Int) by omega]
    · exfalso; first | omega | grind
  | succ d ih =>
    intro k hk M f11 hW hf
    have ok := gk.ok
    obtain ⟨g1, g2, g3, g4, g5, g6⟩ := H_facts hA hB
    have t1 : sT (jS A) k ≤ 99 ∧ 1 ≤ sT (jS A) k := ⟨(hA.1.2.2.1 _).2, hB.1.2.2.2 _ (by omega) (by omega)⟩
    have t2 : 1 ≤ (k : Int) → sT (jS A) ((k : Int) - 1) < sT (jS A) k := fun z => hA.1.2.2.2.1 _ _ (by omega) (by omega) (by omega)
    have t3 : 1 ≤ (k : Int) → 1 ≤ sT (jS A) ((k : Int) - 1) := fun z => hB.1.2.2.2 _ (by omega) (by omega)
    have e1 : up f11 (k : Int) (sT (jS A) k) k = sT (jS A) k := up_at
    have e2 : 1 ≤ (k : Int) → up f11 (k : Int) (sT (jS A) k) ((k : Int) - 1) = sT (jS A) ((k : Int) - 1) := fun z => by unfold up; rw [if_neg (by omega)]; exact hf _ (by omega) (by omega)
    have r1 : rg (sT (jS A) k) := by unfold rg; omega
    have fin : ∀ M, WO A M → AW X (20 + 10 * (k + 1)) (300 + 60 * (k + 1)) 118 [some (.ref 0), some (iv (sC (jS A))), some (iv (sR (jS A))), some (iv (sN (jS A) : Int)), some (iv (sE (jS A))), some (iv (mS (jS A))), some (iv (sC (jS A) * sR (jS A))), some (.ref 103), some (.ref 104), some (.ref 105), some (.ref 106), some (.ref 107), some (iv (0)), some (iv (0)), some (iv (1)), some (iv (((k + 1 : Nat) : Int))), none, none, none, none, none] [] (M ++ [ia 64 f7, ia 64 f8, ia 64 f9, ia 6 f10, ia 5 (up f11 (k : Int) (sT (jS A) k))]) := fun M hW => by
      have := ih (k + 1) (by omega) M (up f11 (k : Int) (sT (jS A) k)) hW (fun j h1 h2 => by
        by_cases z : j = k
        · rw [z]; exact e1
        · unfold up; rw [if_neg z]; exact hf j h1 (by omega))
      exact this
    refine a_iload (pc := 118) ok dL_holds_118 rfl ?_
    refine a_iload_n (pc := 120) ok dL_holds_120 rfl ?_
    refine a_icmp_ge (pc := 121) (tgt := 190) ok dL_holds_121 (by decide) (by first | assumption | exact rg_w _ | exact rg_tw (by unfold rg; omega) (by unfold rg; omega) | (unfold rg; omega) | omega | exact bz_rg _ | grind [rg]) (by first | assumption | exact rg_w _ | exact rg_tw (by unfold rg; omega) (by unfold rg; omega) | (unfold rg; omega) | omega | exact bz_rg _ | grind [rg]) (fun c121 => ?_) (fun c121 => ?_)
    · exfalso; first | omega | grind
    · refine a_iload (pc := 124) ok dL_holds_124 rfl ?_
      refine a_if_eq (pc := 126) (tgt := 190) ok dL_holds_126 (by decide) (by first | assumption | exact rg_w _ | exact rg_tw (by unfold rg; omega) (by unfold rg; omega) | (unfold rg; omega) | omega | exact bz_rg _ | grind [rg]) (fun c126 => ?_) (fun c126 => ?_)
      · exfalso; first | omega | grind
      · refine a_aload (pc := 129) ok dL_holds_129 rfl ?_
        refine a_iload (pc := 131) ok dL_holds_131 rfl ?_
        refine a_aload_n (pc := 133) ok dL_holds_133 rfl ?_
        refine a_iconst (pc := 134) ok dL_holds_134 ?_
        refine a_iload (pc := 135) ok dL_holds_135 rfl ?_
        refine a_iconst (pc := 137) ok dL_holds_137 ?_
        refine a_iconst (pc := 138) ok dL_holds_138 ?_
        refine v_h (pc := 139) ok ex gk.1 dL_holds_139 (ug2 16 (by decide +kernel) rfl) (ug2 17 (by decide +kernel) rfl) miL_call hW (ctv_eq (w_id r1) (ctv_ok (by unfold kIn; rw [if_pos (by omega)]) (C_4 hl hA hW (k := (k : Int)) (u2 := 0) (u3 := 0) (by unfold rg; omega)))) ⟨by decide, by decide⟩ ⟨by show 20 + 10 * k + 1 ≤ 5000; omega, by show 300 + 60 * k + 6 ≤ 40000; omega⟩ rfl rfl (Nat.le_of_ble_eq_true rfl) ?_
        intro M hW
        refine a_haS (pc := 142) (j := 4) ok (WO_len hW) dL_holds_142 rfl (by decide) (by first | assumption | exact rg_w _ | exact rg_tw (by unfold rg; omega) (by unfold rg; omega) | (unfold rg; omega) | omega | exact bz_rg _ | grind [rg]) ?_
        refine a_aload (pc := 143) ok dL_holds_143 rfl ?_
        refine a_iload (pc := 145) ok dL_holds_145 rfl ?_
        refine a_haL (pc := 147) (j := 4) ok (WO_len hW) dL_holds_147 rfl (by decide) (by first | assumption | exact rg_w _ | exact rg_tw (by unfold rg; omega) (by unfold rg; omega) | (unfold rg; omega) | omega | exact bz_rg _ | grind [rg]) ?_
        refine a_iload (pc := 148) ok dL_holds_148 rfl ?_
        refine a_if_ne (pc := 150) (tgt := 157) ok dL_holds_150 (by decide) (by first | assumption | exact rg_w _ | exact rg_tw (by unfold rg; omega) (by unfold rg; omega) | (unfold rg; omega) | omega | exact bz_rg _ | grind [rg]) (fun c150 => ?_) (fun c150 => ?_)
        · refine a_aload (pc := 157) ok dL_holds_157 rfl ?_
          refine a_iload (pc := 159) ok dL_holds_159 rfl ?_
          refine a_iconst (pc := 161) ok dL_holds_161 ?_
          refine a_isub (pc := 162) ok dL_holds_162 ?_
          refine a_haL (pc := 163) (j := 4) ok (WO_len hW) dL_holds_163 rfl (by decide) (by first | assumption | exact rg_w _ | exact rg_tw (by unfold rg; omega) (by unfold rg; omega) | (unfold rg; omega) | omega | exact bz_rg _ | grind [rg]) ?_
          refine a_icmp_le (pc := 164) (tgt := 181) ok dL_holds_164 (by decide) (by first | assumption | exact rg_w _ | exact rg_tw (by unfold rg; omega) (by unfold rg; omega) | (unfold rg; omega) | omega | exact bz_rg _ | grind [rg]) (by first | assumption | exact rg_w _ | exact rg_tw (by unfold rg; omega) (by unfold rg; omega) | (unfold rg; omega) | omega | exact bz_rg _ | grind [rg]) (fun c164 => ?_) (fun c164 => ?_)
          · exfalso; first | omega | grind
          · refine a_aload (pc := 167) ok dL_holds_167 rfl ?_
            refine a_iload (pc := 169) ok dL_holds_169 rfl ?_
            refine a_haL (pc := 171) (j := 4) ok (WO_len hW) dL_holds_171 rfl (by decide) (by first | assumption | exact rg_w _ | exact rg_tw (by unfold rg; omega) (by unfold rg; omega) | (unfold rg; omega) | omega | exact bz_rg _ | grind [rg]) ?_
            refine a_bipush (pc := 172) ok dL_holds_172 (by decide) ?_
            refine a_icmp_ge (pc := 174) (tgt := 181) ok dL_holds_174 (by decide) (by first | assumption | exact rg_w _ | exact rg_tw (by unfold rg; omega) (by unfold rg; omega) | (unfold rg; omega) | omega | exact bz_rg _ | grind [rg]) (by first | assumption | exact rg_w _ | exact rg_tw (by unfold rg; omega) (by unfold rg; omega) | (unfold rg; omega) | omega | exact bz_rg _ | grind [rg]) (fun c174 => ?_) (fun c174 => ?_)
            · exfalso; first | omega | grind
            · refine a_iconst (pc := 177) ok dL_holds_177 ?_
              refine a_goto (pc := 178) (tgt := 182) ok dL_holds_178 (by decide) ?_
              refine a_istore (pc := 182) ok dL_holds_182 rfl (by rw [hN]; decide) ?_
              refine a_iinc (pc := 184) ok dL_holds_184 rfl rfl (by rw [hN]; decide) ?_
              refine a_goto (pc := 187) (tgt := 118) ok dL_holds_187 (by decide) ?_
              refine AW.widen (kc2 := 20 + 10 * (k + 1)) (ks2 := 300 + 60 * (k + 1)) (by show 20 + 10 * k + 1 ≤ _; omega) (by show 300 + 60 * k + 6 ≤ _; omega) ?_
              exact fin M hW
        · refine a_iconst (pc := 153) ok dL_holds_153 ?_
          refine a_goto (pc := 154) (tgt := 164) ok dL_holds_154 (by decide) ?_
          refine a_icmp_le (pc := 164) (tgt := 181) ok dL_holds_164 (by decide) (by first | assumption | exact rg_w _ | exact rg_tw (by unfold rg; omega) (by unfold rg; omega) | (unfold rg; omega) | omega | exact bz_rg _ | grind [rg]) (by first | assumption | exact rg_w _ | exact rg_tw (by unfold rg; omega) (by unfold rg; omega) | (unfold rg; omega) | omega | exact bz_rg _ | grind [rg]) (fun c164 => ?_) (fun c164 => ?_)
          · exfalso; first | omega | grind
          · refine a_aload (pc := 167) ok dL_holds_167 rfl ?_
            refine a_iload (pc := 169) ok dL_holds_169 rfl ?_
            refine a_haL (pc := 171) (j := 4) ok (WO_len hW) dL_holds_171 rfl (by decide) (by first | assumption | exact rg_w _ | exact rg_tw (by unfold rg; omega) (by unfold rg; omega) | (unfold rg; omega) | omega | exact bz_rg _ | grind [rg]) ?_
            refine a_bipush (pc := 172) ok dL_holds_172 (by decide) ?_
            refine a_icmp_ge (pc := 174) (tgt := 181) ok dL_holds_174 (by decide) (by first | assumption | exact rg_w _ | exact rg_tw (by unfold rg; omega) (by unfold rg; omega) | (unfold rg; omega) | omega | exact bz_rg _ | grind [rg]) (by first | assumption | exact rg_w _ | exact rg_tw (by unfold rg; omega) (by unfold rg; omega) | (unfold rg; omega) | omega | exact bz_rg _ | grind [rg]) (fun c174 => ?_) (fun c174 => ?_)
            · exfalso; first | omega | grind
            · refine a_iconst (pc := 177) ok dL_holds_177 ?_
              refine a_goto (pc := 178) (tgt := 182) ok dL_holds_178 (by decide) ?_
              refine a_istore (pc := 182) ok dL_holds_182 rfl (by rw [hN]; decide) ?_
              refine a_iinc (pc := 184) ok dL_holds_184 rfl rfl (by rw [hN]; decide) ?_
              refine a_goto (pc := 187) (tgt := 118) ok dL_holds_187 (by decide) ?_
              refine AW.widen (kc2 := 20 + 10 * (k + 1)) (ks2 := 300 + 60 * (k + 1)) (by show 20 + 10 * k + 1 ≤ _; omega) (by show 300 + 60 * k + 6 ≤ _; omega) ?_
              exact fin M hW
end HO1
