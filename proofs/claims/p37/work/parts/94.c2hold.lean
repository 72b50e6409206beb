/-! THE LAW: what holds on each plate: cells. Printed by wip/p37/gen/mkhold.py. -/
section HO2
variable {A : Ob}
def hIN (A : Ob) (k : Nat) (f7 f8 f9 f10 : Int → Int) : Prop := (∀ j : Int, 0 ≤ j → j < k → f7 j = (bS (jS A)) j ∧ f8 j = (own (sC (jS A)) (sR (jS A)) (bS (jS A))) j) ∧ (∀ i : Int, f9 i = cntK (fun j => decide ((own (sC (jS A)) (sR (jS A)) (bS (jS A))) j = i)) k) ∧ (∀ v : Int, f10 v = cntK (fun j => decide ((bS (jS A)) j = v)) k)
theorem bS_rg (S : St) (k : Int) : 0 ≤ bS S k ∧ bS S k ≤ sN S := mrg_P (P := fun z => 0 ≤ z ∧ z ≤ (sN S : Int)) 144 _ (fun j => cntK_rg _ _) k
theorem cntK_1 {p : Int → Bool} {k : Nat} : cntK p (k + 1) = cntK p k + if p k = true then 1 else 0 := rfl
/-- one cell more -/
theorem hIN_S {A : Ob} (hA : VA A) {k : Nat} {f7 f8 f9 f10 : Int → Int} (h : hIN A k f7 f8 f9 f10) : hIN A (k + 1) (up f7 k ((bS (jS A)) k)) (up f8 k ((own (sC (jS A)) (sR (jS A)) (bS (jS A))) k)) (up f9 ((own (sC (jS A)) (sR (jS A)) (bS (jS A))) k) (f9 ((own (sC (jS A)) (sR (jS A)) (bS (jS A))) k) + 1)) (up f10 ((bS (jS A)) k) (f10 ((bS (jS A)) k) + 1)) := by
  obtain ⟨h1, h2, h3⟩ := h
  refine ⟨fun j j1 j2 => ?_, fun i => ?_, fun v => ?_⟩
  · by_cases z : j = k
    · rw [z, up_at, up_at]; exact ⟨rfl, rfl⟩
    · unfold up
      rw [if_neg z, if_neg z]
      exact h1 j j1 (by omega)
  · rw [cntK_1]
    unfold up
    by_cases z : i = (own (sC (jS A)) (sR (jS A)) (bS (jS A))) k
    · rw [if_pos z, h2, z, if_pos (decide_eq_true rfl)]
    · rw [if_neg z, h2, if_neg (by rw [decide_eq_false (fun y => z y.symm)]; decide)]; omega
  · rw [cntK_1]
    unfold up
    by_cases z : v = (bS (jS A)) k
    · rw [if_pos z, h3, z, if_pos (decide_eq_true rfl)]
    · rw [if_neg z, h3, if_neg (by rw [decide_eq_false (fun y => z y.symm)]; decide)]; omega
/-- the band by its thresholds -/
theorem hold2i {X : Cx} (hl : X.1.2.1.stackTraces = false) (hN : nLof X = 21) (gk : GK X cL_holds RL (some .boolean) rgL_holds (po1 1 A) rgL_holds.cells rgL_holds.slots 108) (ex : EX X) (hA : VA A) (hB : VB A) (f7 f8 f9 f10 f11 : Int → Int) {k : Nat} {g ot su nx : Int} (hg : 0 ≤ g ∧ g ≤ 99) (hf : ∀ j : Int, 0 ≤ j → j < (sN (jS A) : Int) → f11 j = sT (jS A) j) {M : List va_E} (hW : WO A M) {uc us : Nat} (K : AW X uc us 262 [some (.ref 0), some (iv (sC (jS A))), some (iv (sR (jS A))), some (iv (sN (jS A) : Int)), some (iv (sE (jS A))), some (iv (mS (jS A))), some (iv (sC (jS A) * sR (jS A))), some (.ref 103), some (.ref 104), some (.ref 105), some (.ref 106), some (.ref 107), some (iv ot), some (iv su), some (iv 1), some (iv nx), some (iv (k : Int)), some (iv g), some (iv (cntK (fun j => decide (sT (jS A) j ≤ g)) (sN (jS A)))), some (iv ((sN (jS A) : Int))), none] [] (M ++ [ia 64 f7, ia 64 f8, ia 64 f9, ia 6 f10, ia 5 f11])) :
    ∀ d i : Nat, (i : Int) + d = (sN (jS A) : Int) → AW X uc us 230 [some (.ref 0), some (iv (sC (jS A))), some (iv (sR (jS A))), some (iv (sN (jS A) : Int)), some (iv (sE (jS A))), some (iv (mS (jS A))), some (iv (sC (jS A) * sR (jS A))), some (.ref 103), some (.ref 104), some (.ref 105), some (.ref 106), some (.ref 107), some (iv ot), some (iv su), some (iv 1), some (iv nx), some (iv (k : Int)), some (iv g), some (iv (cntK (fun j => decide (sT (jS A) j ≤ g)) i)), some (iv ((i : Int))), none] [] (M ++ [ia 64 f7, ia 64 f8, ia 64 f9, ia 6 f10, ia 5 f11]) := by
  intro d
  induction d with
  | zero =>
    intro i hi
    have ok := gk.ok
    obtain ⟨g1, g2, g3, g4, g5, g6⟩ := H_facts hA hB
    refine a_iload (pc := 230) ok dL_holds_230 rfl ?_
    refine a_iload_n (pc := 232) ok dL_holds_232 rfl ?_
    refine a_icmp_ge (pc := 233) (tgt := 262) ok dL_holds_233 (by decide) (by first | assumption | exact rg_w _ | exact rg_tw (by unfold rg; omega) (by unfold rg; omega) | (unfold rg; omega) | omega | exact bz_rg _ | grind [rg]) (by first | assumption | exact rg_w _ | exact rg_tw (by unfold rg; omega) (by unfold rg; omega) | (unfold rg; omega) | omega | exact bz_rg _ | grind [rg]) (fun c233 => ?_) (fun c233 => ?_)
    · refine AW.cast (L2 := [some (.ref 0), some (iv (sC (jS A))), some (iv (sR (jS A))), some (iv (sN (jS A) : Int)), some (iv (sE (jS A))), some (iv (mS (jS A))), some (iv (sC (jS A) * sR (jS A))), some (.ref 103), some (.ref 104), some (.ref 105), some (.ref 106), some (.ref 107), some (iv ot), some (iv su), some (iv 1), some (iv nx), some (iv (k : Int)), some (iv g), some (iv (cntK (fun j => decide (sT (jS A) j ≤ g)) (sN (jS A)))), some (iv ((sN (jS A) : Int))), none]) K ?_ rfl rfl
      rw [show i = sN (jS A) by omega]
    · exfalso; first | omega | grind
  | succ d ih =>
    intro i hi
    have ok := gk.ok
    obtain ⟨g1, g2, g3, g4, g5, g6⟩ := H_facts hA hB
    have t1 : f11 i = sT (jS A) i := hf i (by omega) (by omega)
    have t2 := hA.1.2.2.1 i
    have t3 := cntK_rg (fun j => decide (sT (jS A) j ≤ g)) i
    have r1 : rg (f11 i) := by unfold rg; omega
    have fin : AW X uc us 230 [some (.ref 0), some (iv (sC (jS A))), some (iv (sR (jS A))), some (iv (sN (jS A) : Int)), some (iv (sE (jS A))), some (iv (mS (jS A))), some (iv (sC (jS A) * sR (jS A))), some (.ref 103), some (.ref 104), some (.ref 105), some (.ref 106), some (.ref 107), some (iv ot), some (iv su), some (iv 1), some (iv nx), some (iv (k : Int)), some (iv g), some (iv (cntK (fun j => decide (sT (jS A) j ≤ g)) (i + 1))), some (iv (((i + 1 : Nat) : Int))), none] [] (M ++ [ia 64 f7, ia 64 f8, ia 64 f9, ia 6 f10, ia 5 f11]) := ih (i + 1) (by omega)
    refine a_iload (pc := 230) ok dL_holds_230 rfl ?_
    refine a_iload_n (pc := 232) ok dL_holds_232 rfl ?_
    refine a_icmp_ge (pc := 233) (tgt := 262) ok dL_holds_233 (by decide) (by first | assumption | exact rg_w _ | exact rg_tw (by unfold rg; omega) (by unfold rg; omega) | (unfold rg; omega) | omega | exact bz_rg _ | grind [rg]) (by first | assumption | exact rg_w _ | exact rg_tw (by unfold rg; omega) (by unfold rg; omega) | (unfold rg; omega) | omega | exact bz_rg _ | grind [rg]) (fun c233 => ?_) (fun c233 => ?_)
    · exfalso; first | omega | grind
    · refine a_iload (pc := 236) ok dL_holds_236 rfl ?_
      refine a_aload (pc := 238) ok dL_holds_238 rfl ?_
      refine a_iload (pc := 240) ok dL_holds_240 rfl ?_
      refine a_haL (pc := 242) (j := 4) ok (WO_len hW) dL_holds_242 rfl (by decide) (by first | assumption | exact rg_w _ | exact rg_tw (by unfold rg; omega) (by unfold rg; omega) | (unfold rg; omega) | omega | exact bz_rg _ | grind [rg]) ?_
      refine a_iload (pc := 243) ok dL_holds_243 rfl ?_
      refine a_icmp_gt (pc := 245) (tgt := 252) ok dL_holds_245 (by decide) (by first | exact r1 | (unfold rg; omega)) (by first | exact r1 | (unfold rg; omega)) (fun c245 => ?_) (fun c245 => ?_)
      · refine a_iconst (pc := 252) ok dL_holds_252 ?_
        refine a_iadd (pc := 253) ok dL_holds_253 ?_
        refine AW.cast (st2 := [iv (cntK (fun j => decide (sT (jS A) j ≤ g)) (i + 1))]) ?_ rfl (by rw [cntK_1, if_neg (by rw [decide_eq_false (by omega)]; decide)]) rfl
        refine a_istore (pc := 254) ok dL_holds_254 rfl (by rw [hN]; decide) ?_
        refine a_iinc (pc := 256) ok dL_holds_256 rfl rfl (by rw [hN]; decide) ?_
        refine a_goto (pc := 259) (tgt := 230) ok dL_holds_259 (by decide) ?_
        exact fin
      · refine a_iconst (pc := 248) ok dL_holds_248 ?_
        refine a_goto (pc := 249) (tgt := 253) ok dL_holds_249 (by decide) ?_
        refine a_iadd (pc := 253) ok dL_holds_253 ?_
        refine AW.cast (st2 := [iv (cntK (fun j => decide (sT (jS A) j ≤ g)) (i + 1))]) ?_ rfl (by rw [cntK_1, if_pos (decide_eq_true (by omega))]) rfl
        refine a_istore (pc := 254) ok dL_holds_254 rfl (by rw [hN]; decide) ?_
        refine a_iinc (pc := 256) ok dL_holds_256 rfl rfl (by rw [hN]; decide) ?_
        refine a_goto (pc := 259) (tgt := 230) ok dL_holds_259 (by decide) ?_
        exact fin
end HO2
