/-! MODEL's face: what there is of islands. -/
section MP2
variable {l : Launch} {rf sz : Int} {S : St} {ac : Int} {B I : Int → Int} {m : Int} {Fi Co Br Wt mk gy : Int → Int} {S2 : St} {tx di ke ik ea : Int → Int} {sd rt lf wy sp ou : Int} {c r : Int} {b : Int → Int}
/-- the bands of a state's islands; how many islands -/
noncomputable def bS (S : St) : Int → Int := fb (sC S) (sR S) (sT S) (sN S) (sG S) (sE S)
noncomputable def mS (S : St) : Int := mny (sC S) (sR S) (bS S)
abbrev JS (S : St) (B I Fi Co : Int → Int) : Prop := JW (sC S) (sR S) (bS S) B I (mS S) Fi Co
theorem SV_rg (h : SV S) : (∀ i, rg (sG S i)) ∧ rg (sE S) := ⟨fun i => by have := h.2.1 i; unfold rg; omega, by have := h.2.2.2.2.2; unfold rg; omega⟩
theorem c_findNow (hS : SV S) (hB : ∀ i, 0 ≤ B i ∧ B i ≤ 5) (hI : ∀ i, rg (I i)) : Ct l yX7_findAs cX7_findAs 2 none rmX7_findAs [.ref 0, .ref 1] (mdM rf sz (sC S) (sR S) (sG S) (sT S) (sN S) (sE S) (sH S) (sI S) ac B I m Fi Co Br Wt mk gy sd rt lf wy sp ou)
    (fun z M => z = none ∧ ∃ B' I' Fi' Co' Br' Q' : Int → Int, M = mdM rf sz (sC S) (sR S) (sG S) (sT S) (sN S) (sE S) (sH S) (sI S) ac B' I' (mS S) Fi' Co' Br' Q' mk gy sd rt lf wy sp ou ∧ JS S B' I' Fi' Co') :=
  c_findAs hS.1 hS.2.2.2.2.1 hS.2.2.1 hS.2.2.2.1 (SV_rg hS).1 (SV_rg hS).2 hB hI
theorem dX7_isIsle_0 : decode cX7_isIsle 0 = .ok (.aload_n 0, 1) := by decide +kernel
theorem dX7_isIsle_1 : decode cX7_isIsle 1 = .ok (.aload_n 0, 1) := by decide +kernel
theorem dX7_isIsle_2 : decode cX7_isIsle 2 = .ok (.getfield 13, 3) := by decide +kernel
theorem dX7_isIsle_5 : decode cX7_isIsle 5 = .ok (.invokevirtual 255, 3) := by decide +kernel
theorem dX7_isIsle_8 : decode cX7_isIsle 8 = .ok (.iload_n 1, 1) := by decide +kernel
theorem dX7_isIsle_9 : decode cX7_isIsle 9 = .ok (.i2l, 1) := by decide +kernel
theorem dX7_isIsle_10 : decode cX7_isIsle 10 = .ok (.lconst 0, 1) := by decide +kernel
theorem dX7_isIsle_11 : decode cX7_isIsle 11 = .ok (.aload_n 0, 1) := by decide +kernel
theorem dX7_isIsle_12 : decode cX7_isIsle 12 = .ok (.getfield 78, 3) := by decide +kernel
theorem dX7_isIsle_15 : decode cX7_isIsle 15 = .ok (.iconst 1, 1) := by decide +kernel
theorem dX7_isIsle_16 : decode cX7_isIsle 16 = .ok (.isub, 1) := by decide +kernel
theorem dX7_isIsle_17 : decode cX7_isIsle 17 = .ok (.i2l, 1) := by decide +kernel
theorem dX7_isIsle_18 : decode cX7_isIsle 18 = .ok (.invokestatic 68, 3) := by decide +kernel
theorem dX7_isIsle_21 : decode cX7_isIsle 21 = .ok (.ireturn, 1) := by decide +kernel
theorem c_isIsle {i : Int} (hS : SV S) (hB : ∀ i, 0 ≤ B i ∧ B i ≤ 5) (hI : ∀ i, rg (I i)) (hi : rg i) : Ct l yX7_isIsle cX7_isIsle 2 (some .boolean) rmX7_isIsle [.ref 0, iv i] (mdW rf sz S ac B I m Fi Co Br Wt mk gy S2 tx di ke ik ea sd rt lf wy sp ou)
    (fun z M => z = some (iv (bz (0 ≤ i ∧ i < mS S))) ∧ ∃ B' I' Fi' Co' Br' Q' : Int → Int, M = (mdW rf sz S ac (B') (I') (mS S) (Fi') (Co') (Br') (Q') mk gy S2 tx di ke ik ea sd rt lf wy sp ou) ∧ JS S B' I' Fi' Co') := by
  refine Ct.of miX7_isIsle (Nat.le_of_ble_eq_true rfl) ?_
  intro X hXl hN ok
  refine AW.cast (L2 := [some (.ref 0), some (iv i)]) ?_ rfl rfl rfl
  have hm : 1 ≤ mS S ∧ mS S ≤ 144 := mny_1 hS.1
  refine a_aload_n (pc := 0) ok dX7_isIsle_0 rfl ?_
  refine a_aload_n (pc := 1) ok dX7_isIsle_1 rfl ?_
  refine a_getf (pc := 2) ok dX7_isIsle_2 fl7_13 rfl rfl ?_
  refine x_callV (pc := 5) ok [0, 1, 2, 3, 4, 5, 6, 7, 8, 9, 1, 10, 11, 12, 13, 14, 15] 10 dX7_isIsle_5 mv7_255 miX7_findAs (c_findNow hS hB hI) ⟨by decide, by decide, rfl, rfl, Nat.zero_le _, Nat.zero_le _⟩ rfl rfl (Nat.le_of_ble_eq_true rfl) rfl rfl (by decide) rfl rfl (fun v M' h => by obtain ⟨_, _, _, _, _, _, _, h, _⟩ := h; rw [h]; rfl) ?_
  rintro _ M' ⟨rfl, B', I', Fi', Co', Br', Q', rfl, hJ⟩
  refine AW.cast (st2 := []) (M2 := (mdW rf sz S ac (B') (I') (mS S) (Fi') (Co') (Br') (Q') mk gy S2 tx di ke ik ea sd rt lf wy sp ou)) ?_ rfl rfl rfl
  refine a_iload_n (pc := 8) ok dX7_isIsle_8 rfl ?_
  refine a_i2l (pc := 9) ok dX7_isIsle_9 (by first | omega | (unfold rg; omega) | (simp only [rg] at *; omega) | exact bz_rg _ | grind [rg]) ?_
  refine a_lconst (pc := 10) (z := 0) ok dX7_isIsle_10 rfl ?_
  refine a_aload_n (pc := 11) ok dX7_isIsle_11 rfl ?_
  refine a_getf (pc := 12) ok dX7_isIsle_12 fl7_78 rfl rfl ?_
  refine a_iconst (pc := 15) ok dX7_isIsle_15 ?_
  refine a_isub (pc := 16) ok dX7_isIsle_16 ?_
  refine a_i2l (pc := 17) ok dX7_isIsle_17 (by first | omega | (unfold rg; omega) | (simp only [rg] at *; omega) | exact bz_rg _ | grind [rg]) ?_
  refine a_callSp (pc := 18) ok [] dX7_isIsle_18 mv7_68 miX7_in (c_in (by unfold rgL; unfold rg at hi; omega) (by unfold rgL; omega) (by unfold rgL; omega)) ⟨by decide, by decide, rfl, rfl, Nat.zero_le _, Nat.zero_le _⟩ rfl rfl (Nat.le_of_ble_eq_true rfl) rfl (by decide) ?_
  exact a_zret (pc := 21) ok dX7_isIsle_21 (by first | rfl | exact nb_bz _ | exact @nb_bz _ (Classical.propDecidable _) | decide) (⟨congrArg (fun z => some (iv z)) (bz_iff (by omega)), B', I', Fi', Co', Br', Q', rfl, hJ⟩)
/-- sides with others, of all cells of an island -/
noncomputable def soK (c r : Int) (b : Int → Int) (L : Int) (N : Nat) : Int := sumK (fun k => if lw c r b k = L then osK c r b k 4 else 0) N
theorem sumK_add (f g : Int → Int) : ∀ N : Nat, sumK (fun j => f j + g j) N = sumK f N + sumK g N
  | 0 => rfl
  | N + 1 => by simp only [sumK]; rw [sumK_add f g N]; omega
theorem sumK_swap (f : Int → Int → Int) (M : Nat) : ∀ N : Nat, sumK (fun j => sumK (fun k => f j k) N) M = sumK (fun k => sumK (fun j => f j k) M) N
  | 0 => by
    simp only [sumK]
    have : ∀ M : Nat, sumK (fun _ => (0 : Int)) M = 0 := fun M => by
      induction M with
      | zero => rfl
      | succ M ih => simp only [sumK]; omega
    exact this M
  | N + 1 => by
    simp only [sumK]
    rw [← sumK_swap f M N, sumK_add]
theorem sumK_if (p : Prop) [Decidable p] (f : Int → Int) (M : Nat) : sumK (fun j => if p then f j else 0) M = if p then sumK f M else 0 := by
  by_cases h : p
  · simp only [if_pos h]
  · simp only [if_neg h]
    induction M with
    | zero => rfl
    | succ M ih => simp only [sumK]; omega
theorem sum_cnt (q : Int → Int) (P : Int → Prop) [DecidablePred P] {M : Nat} (hq : ∀ w : Int, P w → 0 ≤ q w ∧ q w < M) : ∀ W : Nat, sumK (fun j => cntK (fun w => decide (P w ∧ q w = j)) W) M = cntK (fun w => decide (P w)) W
  | 0 => by
    simp only [cntK]
    induction M with
    | zero => rfl
    | succ M _ =>
      have : ∀ M : Nat, sumK (fun _ => (0 : Int)) M = 0 := fun M => by
        induction M with
        | zero => rfl
        | succ M ih => simp only [sumK]; omega
      exact this _
  | W + 1 => by
    have ih := sum_cnt q P hq W
    have one : ∀ (a : Int), sumK (fun j => if P W ∧ q W = j then (1 : Int) else 0) M = if P W then 1 else 0 := fun _ => by
      by_cases hp : P W
      · obtain ⟨h1, h2⟩ := hq W hp
        rw [if_pos hp]
        have key : ∀ M : Nat, sumK (fun j => if P W ∧ q W = j then (1 : Int) else 0) M = if q W < M then 1 else 0 := fun M => by
          induction M with
          | zero => rw [if_neg (by omega)]; rfl
          | succ M ih =>
            simp only [sumK]
            rw [ih]
            by_cases e : q W = M
            · rw [if_neg (by omega), if_pos ⟨hp, e⟩, if_pos (by omega)]; rfl
            · rw [if_neg (fun z : P W ∧ q W = M => e z.2)]
              by_cases f : q W < M
              · rw [if_pos f, if_pos (by omega)]; rfl
              · rw [if_neg f, if_neg (by omega)]; rfl
        rw [key M, if_pos h2]
      · rw [if_neg hp]
        have : (fun j : Int => if P W ∧ q W = j then (1 : Int) else 0) = fun _ => 0 := by funext j; exact if_neg (fun z => hp z.1)
        rw [this]
        have : ∀ M : Nat, sumK (fun _ => (0 : Int)) M = 0 := fun M => by
          induction M with
          | zero => rfl
          | succ M ih => simp only [sumK]; omega
        exact this M
    have e : (fun j : Int => cntK (fun w => decide (P w ∧ q w = j)) (W + 1)) = fun j => cntK (fun w => decide (P w ∧ q w = j)) W + if P W ∧ q W = j then 1 else 0 := by
      funext j
      by_cases h : P W ∧ q W = j
      · rw [if_pos h]; exact cntK_t (p := fun w => decide (P w ∧ q w = j)) (decide_eq_true h)
      · rw [if_neg h, Int.add_zero]; exact cntK_f (p := fun w => decide (P w ∧ q w = j)) (decide_eq_false h)
    rw [e, sumK_add, ih, one 0]
    by_cases hp : P W
    · rw [if_pos hp]; exact (cntK_t (p := fun w => decide (P w)) (decide_eq_true hp)).symm
    · rw [if_neg hp, Int.add_zero]; exact (cntK_f (p := fun w => decide (P w)) (decide_eq_false hp)).symm
theorem so_brd (hd : dim c r) (L : Int) : sumK (fun j => brd c r b L j) (c * r).toNat = soK c r b L (c * r).toNat := by
  have hc := dim_cells hd
  unfold brd
  rw [sumK_swap (fun j k => if lw c r b k = L then cntK (fun w => decide (nb c r k w ≠ -1 ∧ lw c r b (nb c r k w) ≠ L ∧ lw c r b (nb c r k w) = j)) 4 else 0)]
  refine sumK_congr _ fun k hk => ?_
  rw [sumK_if]
  by_cases e : lw c r b k = L
  · rw [if_pos e, if_pos e]
    have h1 := sum_cnt (fun w => lw c r b (nb c r k w)) (fun w => (0 ≤ w ∧ w < 4) ∧ nb c r k w ≠ -1 ∧ lw c r b (nb c r k w) ≠ L) (M := (c * r).toNat) (fun w hw => by
      have := (nb_back hd (k := k) ⟨by omega, by omega⟩ hw.1 hw.2.1).1
      have := (lw_ok (B := b) hd this).1
      have a := this.1; have d := this.2
      omega) 4
    have e1 : ∀ j : Int, cntK (fun w => decide (nb c r k w ≠ -1 ∧ lw c r b (nb c r k w) ≠ L ∧ lw c r b (nb c r k w) = j)) 4 = cntK (fun w => decide (((0 ≤ w ∧ w < 4) ∧ nb c r k w ≠ -1 ∧ lw c r b (nb c r k w) ≠ L) ∧ lw c r b (nb c r k w) = j)) 4 := fun j => cntK_congr 4 fun w hw => by
      by_cases z : nb c r k w ≠ -1 ∧ lw c r b (nb c r k w) ≠ L ∧ lw c r b (nb c r k w) = j
      · rw [decide_eq_true z]; exact (decide_eq_true ⟨⟨by omega, z.1, z.2.1⟩, z.2.2⟩).symm
      · rw [decide_eq_false z]; exact (decide_eq_false fun y => z ⟨y.1.2.1, y.1.2.2, y.2⟩).symm
    rw [show (fun j => cntK (fun w => decide (nb c r k w ≠ -1 ∧ lw c r b (nb c r k w) ≠ L ∧ lw c r b (nb c r k w) = j)) 4) = _ from funext e1, h1]
    unfold osK
    refine cntK_congr 4 fun w hw => ?_
    by_cases z : nb c r k w ≠ -1 ∧ lw c r b (nb c r k w) ≠ L
    · rw [decide_eq_true (⟨by omega, z⟩ : (0 ≤ (w : Int) ∧ (w : Int) < 4) ∧ nb c r k w ≠ -1 ∧ lw c r b (nb c r k w) ≠ L)]
      exact (decide_eq_true (by rw [e]; exact z)).symm
    · rw [decide_eq_false (fun y : (0 ≤ (w : Int) ∧ (w : Int) < 4) ∧ nb c r k w ≠ -1 ∧ lw c r b (nb c r k w) ≠ L => z y.2)]
      exact (decide_eq_false (by rw [e]; exact z)).symm
  · rw [if_neg e, if_neg e]
theorem dX7_sidesOfIsle_0 : decode cX7_sidesOfIsle 0 = .ok (.iconst 0, 1) := by decide +kernel
theorem dX7_sidesOfIsle_1 : decode cX7_sidesOfIsle 1 = .ok (.istore_n 3, 1) := by decide +kernel
theorem dX7_sidesOfIsle_2 : decode cX7_sidesOfIsle 2 = .ok (.iconst 0, 1) := by decide +kernel
theorem dX7_sidesOfIsle_3 : decode cX7_sidesOfIsle 3 = .ok (.istore 4, 2) := by decide +kernel
theorem dX7_sidesOfIsle_5 : decode cX7_sidesOfIsle 5 = .ok (.iload 4, 2) := by decide +kernel
theorem dX7_sidesOfIsle_7 : decode cX7_sidesOfIsle 7 = .ok (.aload_n 0, 1) := by decide +kernel
theorem dX7_sidesOfIsle_8 : decode cX7_sidesOfIsle 8 = .ok (.getfield 13, 3) := by decide +kernel
theorem dX7_sidesOfIsle_11 : decode cX7_sidesOfIsle 11 = .ok (.invokestatic 74, 3) := by decide +kernel
theorem dX7_sidesOfIsle_14 : decode cX7_sidesOfIsle 14 = .ok (.if_icmp .ge 91, 3) := by decide +kernel
theorem dX7_sidesOfIsle_17 : decode cX7_sidesOfIsle 17 = .ok (.iconst 0, 1) := by decide +kernel
theorem dX7_sidesOfIsle_18 : decode cX7_sidesOfIsle 18 = .ok (.istore 5, 2) := by decide +kernel
theorem dX7_sidesOfIsle_20 : decode cX7_sidesOfIsle 20 = .ok (.iload 5, 2) := by decide +kernel
theorem dX7_sidesOfIsle_22 : decode cX7_sidesOfIsle 22 = .ok (.iconst 4, 1) := by decide +kernel
theorem dX7_sidesOfIsle_23 : decode cX7_sidesOfIsle 23 = .ok (.if_icmp .ge 76, 3) := by decide +kernel
theorem dX7_sidesOfIsle_26 : decode cX7_sidesOfIsle 26 = .ok (.aload_n 0, 1) := by decide +kernel
theorem dX7_sidesOfIsle_27 : decode cX7_sidesOfIsle 27 = .ok (.getfield 32, 3) := by decide +kernel
theorem dX7_sidesOfIsle_30 : decode cX7_sidesOfIsle 30 = .ok (.iload 4, 2) := by decide +kernel
theorem dX7_sidesOfIsle_32 : decode cX7_sidesOfIsle 32 = .ok (.iaload, 1) := by decide +kernel
theorem dX7_sidesOfIsle_33 : decode cX7_sidesOfIsle 33 = .ok (.iload_n 1, 1) := by decide +kernel
theorem dX7_sidesOfIsle_34 : decode cX7_sidesOfIsle 34 = .ok (.if_icmp .ne 65, 3) := by decide +kernel
theorem dX7_sidesOfIsle_37 : decode cX7_sidesOfIsle 37 = .ok (.aload_n 0, 1) := by decide +kernel
theorem dX7_sidesOfIsle_38 : decode cX7_sidesOfIsle 38 = .ok (.getfield 13, 3) := by decide +kernel
theorem dX7_sidesOfIsle_41 : decode cX7_sidesOfIsle 41 = .ok (.iload 4, 2) := by decide +kernel
theorem dX7_sidesOfIsle_43 : decode cX7_sidesOfIsle 43 = .ok (.iload 5, 2) := by decide +kernel
theorem dX7_sidesOfIsle_45 : decode cX7_sidesOfIsle 45 = .ok (.invokestatic 81, 3) := by decide +kernel
theorem dX7_sidesOfIsle_48 : decode cX7_sidesOfIsle 48 = .ok (.istore 6, 2) := by decide +kernel
theorem dX7_sidesOfIsle_50 : decode cX7_sidesOfIsle 50 = .ok (.iload_n 3, 1) := by decide +kernel
theorem dX7_sidesOfIsle_51 : decode cX7_sidesOfIsle 51 = .ok (.iload_n 2, 1) := by decide +kernel
theorem dX7_sidesOfIsle_52 : decode cX7_sidesOfIsle 52 = .ok (.ifCond .eq 17, 3) := by decide +kernel
theorem dX7_sidesOfIsle_55 : decode cX7_sidesOfIsle 55 = .ok (.iload 6, 2) := by decide +kernel
theorem dX7_sidesOfIsle_57 : decode cX7_sidesOfIsle 57 = .ok (.iconst (-1), 1) := by decide +kernel
theorem dX7_sidesOfIsle_58 : decode cX7_sidesOfIsle 58 = .ok (.if_icmp .ne 7, 3) := by decide +kernel
theorem dX7_sidesOfIsle_61 : decode cX7_sidesOfIsle 61 = .ok (.iconst 1, 1) := by decide +kernel
theorem dX7_sidesOfIsle_62 : decode cX7_sidesOfIsle 62 = .ok (.goto 29, 3) := by decide +kernel
theorem dX7_sidesOfIsle_65 : decode cX7_sidesOfIsle 65 = .ok (.iconst 0, 1) := by decide +kernel
theorem dX7_sidesOfIsle_66 : decode cX7_sidesOfIsle 66 = .ok (.goto 25, 3) := by decide +kernel
theorem dX7_sidesOfIsle_69 : decode cX7_sidesOfIsle 69 = .ok (.iload 6, 2) := by decide +kernel
theorem dX7_sidesOfIsle_71 : decode cX7_sidesOfIsle 71 = .ok (.iconst (-1), 1) := by decide +kernel
theorem dX7_sidesOfIsle_72 : decode cX7_sidesOfIsle 72 = .ok (.if_icmp .eq 18, 3) := by decide +kernel
theorem dX7_sidesOfIsle_75 : decode cX7_sidesOfIsle 75 = .ok (.aload_n 0, 1) := by decide +kernel
theorem dX7_sidesOfIsle_76 : decode cX7_sidesOfIsle 76 = .ok (.getfield 32, 3) := by decide +kernel
theorem dX7_sidesOfIsle_79 : decode cX7_sidesOfIsle 79 = .ok (.iload 6, 2) := by decide +kernel
theorem dX7_sidesOfIsle_81 : decode cX7_sidesOfIsle 81 = .ok (.iaload, 1) := by decide +kernel
theorem dX7_sidesOfIsle_82 : decode cX7_sidesOfIsle 82 = .ok (.iload_n 1, 1) := by decide +kernel
theorem dX7_sidesOfIsle_83 : decode cX7_sidesOfIsle 83 = .ok (.if_icmp .eq 7, 3) := by decide +kernel
theorem dX7_sidesOfIsle_86 : decode cX7_sidesOfIsle 86 = .ok (.iconst 1, 1) := by decide +kernel
theorem dX7_sidesOfIsle_87 : decode cX7_sidesOfIsle 87 = .ok (.goto 4, 3) := by decide +kernel
theorem dX7_sidesOfIsle_90 : decode cX7_sidesOfIsle 90 = .ok (.iconst 0, 1) := by decide +kernel
theorem dX7_sidesOfIsle_91 : decode cX7_sidesOfIsle 91 = .ok (.iadd, 1) := by decide +kernel
theorem dX7_sidesOfIsle_92 : decode cX7_sidesOfIsle 92 = .ok (.istore_n 3, 1) := by decide +kernel
theorem dX7_sidesOfIsle_93 : decode cX7_sidesOfIsle 93 = .ok (.iinc 5 1, 3) := by decide +kernel
theorem dX7_sidesOfIsle_96 : decode cX7_sidesOfIsle 96 = .ok (.goto (-76), 3) := by decide +kernel
theorem dX7_sidesOfIsle_99 : decode cX7_sidesOfIsle 99 = .ok (.iinc 4 1, 3) := by decide +kernel
theorem dX7_sidesOfIsle_102 : decode cX7_sidesOfIsle 102 = .ok (.goto (-97), 3) := by decide +kernel
theorem dX7_sidesOfIsle_105 : decode cX7_sidesOfIsle 105 = .ok (.iload_n 3, 1) := by decide +kernel
theorem dX7_sidesOfIsle_106 : decode cX7_sidesOfIsle 106 = .ok (.ireturn, 1) := by decide +kernel
theorem c_sidesOfIsle {L i e : Int} (hS : SV S) (hL : cel (sC S) (sR S) L) (hl : lw (sC S) (sR S) (bS S) L = L) (hi : rk (sC S) (sR S) (bS S) L = i) (he : e = 0 ∨ e = 1) (hJ : JS S B I Fi Co) : Cd l yX7_sidesOfIsle cX7_sidesOfIsle 7 (some .int) rmX7_sidesOfIsle [.ref 0, iv i, iv e] (mdW rf sz S ac B I m Fi Co Br Wt mk gy S2 tx di ke ik ea sd rt lf wy sp ou) (some (iv (if e = 1 then esK (sC S) (sR S) (bS S) L (sC S * sR S).toNat else soK (sC S) (sR S) (bS S) L (sC S * sR S).toNat))) (mdW rf sz S ac B I m Fi Co Br Wt mk gy S2 tx di ke ik ea sd rt lf wy sp ou) := by
  subst hi
  refine Ct.of miX7_sidesOfIsle (Nat.le_of_ble_eq_true rfl) ?_
  intro X hXl hN ok
  refine AW.cast (L2 := [some (.ref 0), some (iv (rk (sC S) (sR S) (bS S) L)), some (iv e), none, none, none, none]) ?_ rfl rfl rfl
  have hd := hS.1
  have hc := dim_cells hd
  obtain ⟨j1, j2, j3, j4, j5, j6⟩ := id hJ
  have hm := mny_1 (B := bS S) hd
  have hrL := rk_mny hd hL hl
  -- what a cell and its first w sides bring
  obtain ⟨g, eg⟩ : ∃ g : Int → Nat → Int, g = fun k w => if e = 1 then egK (sC S) (sR S) k w else osK (sC S) (sR S) (bS S) k w := ⟨_, rfl⟩
  obtain ⟨h, eh⟩ : ∃ h : Nat → Int, h = fun N => if e = 1 then esK (sC S) (sR S) (bS S) L N else soK (sC S) (sR S) (bS S) L N := ⟨_, rfl⟩
  have hs1 : ∀ k : Nat, lw (sC S) (sR S) (bS S) k = L → h (k + 1) = h k + g k 4 := fun k z => by
    rw [eh, eg]; dsimp only; unfold esK soK; simp only [sumK]; rw [if_pos z, if_pos z]; split <;> rfl
  have hs2 : ∀ k : Nat, lw (sC S) (sR S) (bS S) k ≠ L → h (k + 1) = h k := fun k z => by
    rw [eh]; dsimp only; unfold esK soK; simp only [sumK]; rw [if_neg z, if_neg z, Int.add_zero, Int.add_zero]
  have h0 : h 0 = 0 := by rw [eh]; dsimp only; split <;> rfl
  have g0 : ∀ k, g k 0 = 0 := fun k => by rw [eg]; dsimp only; split <;> rfl
  have hfin : (if e = 1 then esK (sC S) (sR S) (bS S) L (sC S * sR S).toNat else soK (sC S) (sR S) (bS S) L (sC S * sR S).toNat) = h (sC S * sR S).toNat := by rw [eh]
  rw [hfin] at ok
  have loop : ∀ k : Nat, (k : Int) ≤ sC S * sR S → AW X 0 0 5 [some (.ref 0), some (iv (rk (sC S) (sR S) (bS S) L)), some (iv e), some (iv (h k)), some (iv k), none, none] [] (mdW rf sz S ac B I m Fi Co Br Wt mk gy S2 tx di ke ik ea sd rt lf wy sp ou) := by
    refine wfl (fun k : Nat => 145 - k) _ _ ?_
    intro k hk ih
    by_cases hk2 : (k : Int) < sC S * sR S
    · have hck : cel (sC S) (sR S) k := ⟨by omega, hk2⟩
      have rIk := j2 k
      have hlk := lw_ok (B := bS S) hd hck
      have hir : I k = rk (sC S) (sR S) (bS S) L ↔ lw (sC S) (sR S) (bS S) k = L := by rw [j4 k hck]; exact ⟨fun z => rk_inj hlk.1 (lw_lw hd hck) hL hl z, fun z => by rw [z]⟩
      by_cases hkL : lw (sC S) (sR S) (bS S) k = L
      · have hIk := hir.mpr hkL
        have inner : ∀ w : Nat, w ≤ 4 → AW X 0 0 20 [some (.ref 0), some (iv (rk (sC S) (sR S) (bS S) L)), some (iv e), some (iv (h k + g k w)), some (iv k), some (iv w), none] [] (mdW rf sz S ac B I m Fi Co Br Wt mk gy S2 tx di ke ik ea sd rt lf wy sp ou) := by
          refine wfl (fun w : Nat => 5 - w) _ _ ?_
          intro w hw ih2
          have hnr := nb_rg (w := w) hd hck
          have rIn := j2 (nb (sC S) (sR S) k w)
          have hn : w < 4 → nb (sC S) (sR S) k w ≠ -1 → cel (sC S) (sR S) (nb (sC S) (sR S) k w) := fun h h2 => (nb_back hd hck (by omega) h2).1
          have hin : w < 4 → nb (sC S) (sR S) k w ≠ -1 → (I (nb (sC S) (sR S) k w) = rk (sC S) (sR S) (bS S) L ↔ lw (sC S) (sR S) (bS S) (nb (sC S) (sR S) k w) = L) := fun z1 z2 => by
            have hx := hn z1 z2
            have hh := lw_ok (B := bS S) hd hx
            rw [j4 _ hx]; exact ⟨fun z => rk_inj hh.1 (lw_lw hd hx) hL hl z, fun z => by rw [z]⟩
          have go : ∀ z : Int, z = g k (w + 1) - g k w → w < 4 → ∀ u : Option Value, AW X 0 0 91 [some (.ref 0), some (iv (rk (sC S) (sR S) (bS S) L)), some (iv e), some (iv (h k + g k w)), some (iv k), some (iv w), u] [iv z, iv (h k + g k w)] (mdW rf sz S ac B I m Fi Co Br Wt mk gy S2 tx di ke ik ea sd rt lf wy sp ou) := by
            intro z hz hw4 u
            have e9 : h k + g k w + z = h k + g k (w + 1) := by omega
            refine a_iadd (pc := 91) ok dX7_sidesOfIsle_91 ?_
            rw [e9]
            refine a_istore_n (pc := 92) ok dX7_sidesOfIsle_92 rfl (by rw [hN]; decide) ?_
            refine a_iinc (pc := 93) ok dX7_sidesOfIsle_93 rfl rfl (by rw [hN]; decide) ?_
            refine a_goto (pc := 96) (tgt := 20) ok dX7_sidesOfIsle_96 (by decide) ?_
            exact AW.forget (AW.cast (ih2 (w + 1) (by omega) (by omega)) rfl rfl rfl) (by repeat' (first | exact trivial | refine ⟨rfl, ?_⟩))
          have eE : e = 1 → g k (w + 1) - g k w = if nb (sC S) (sR S) k w = -1 then 1 else 0 := fun z => by
            rw [eg]; dsimp only; rw [if_pos z, if_pos z]
            by_cases y : nb (sC S) (sR S) k w = -1
            · rw [if_pos y, show egK (sC S) (sR S) k (w + 1) = egK (sC S) (sR S) k w + 1 from cntK_t (p := fun w => decide (nb (sC S) (sR S) k w = -1)) (decide_eq_true y)]; omega
            · rw [if_neg y, show egK (sC S) (sR S) k (w + 1) = egK (sC S) (sR S) k w from cntK_f (p := fun w => decide (nb (sC S) (sR S) k w = -1)) (decide_eq_false y)]; omega
          have eO : e = 0 → g k (w + 1) - g k w = if nb (sC S) (sR S) k w ≠ -1 ∧ lw (sC S) (sR S) (bS S) (nb (sC S) (sR S) k w) ≠ L then 1 else 0 := fun z => by
            rw [eg]; dsimp only; rw [if_neg (by omega), if_neg (by omega)]
            by_cases y : nb (sC S) (sR S) k w ≠ -1 ∧ lw (sC S) (sR S) (bS S) (nb (sC S) (sR S) k w) ≠ L
            · rw [if_pos y, show osK (sC S) (sR S) (bS S) k (w + 1) = osK (sC S) (sR S) (bS S) k w + 1 from cntK_t (p := fun w => decide (nb (sC S) (sR S) k w ≠ -1 ∧ lw (sC S) (sR S) (bS S) (nb (sC S) (sR S) k w) ≠ lw (sC S) (sR S) (bS S) k)) (decide_eq_true (by rw [hkL]; exact y))]; omega
            · rw [if_neg y, show osK (sC S) (sR S) (bS S) k (w + 1) = osK (sC S) (sR S) (bS S) k w from cntK_f (p := fun w => decide (nb (sC S) (sR S) k w ≠ -1 ∧ lw (sC S) (sR S) (bS S) (nb (sC S) (sR S) k w) ≠ lw (sC S) (sR S) (bS S) k)) (decide_eq_false (by rw [hkL]; exact y))]; omega
          refine a_iload (pc := 20) ok dX7_sidesOfIsle_20 rfl ?_
          refine a_iconst (pc := 22) ok dX7_sidesOfIsle_22 ?_
          refine a_icmp_ge (pc := 23) (tgt := 99) ok dX7_sidesOfIsle_23 (by decide) (by first | omega | (unfold rg; omega) | (simp only [rg] at *; omega) | exact bz_rg _ | grind [rg]) (by first | omega | (unfold rg; omega) | (simp only [rg] at *; omega) | exact bz_rg _ | grind [rg]) (fun c23 => ?_) (fun c23 => ?_)
          · refine a_iinc (pc := 99) ok dX7_sidesOfIsle_99 rfl rfl (by rw [hN]; decide) ?_
            refine a_goto (pc := 102) (tgt := 5) ok dX7_sidesOfIsle_102 (by decide) ?_
            exact AW.forget (L2 := [some (.ref 0), some (iv (rk (sC S) (sR S) (bS S) L)), some (iv e), some (iv (h k + g k w)), some (iv (k + 1)), none, none]) (AW.cast (ih (k + 1) (by omega) (by omega)) (by rw [hs1 k hkL, show w = 4 by omega]; rfl) rfl rfl) (by repeat' (first | exact trivial | refine ⟨rfl, ?_⟩))
          · refine a_aload_n (pc := 26) ok dX7_sidesOfIsle_26 rfl ?_
            refine a_getf (pc := 27) ok dX7_sidesOfIsle_27 fl7_32 rfl rfl ?_
            refine a_iload (pc := 30) ok dX7_sidesOfIsle_30 rfl ?_
            refine a_iald (pc := 32) ok dX7_sidesOfIsle_32 rfl (by first | decide | omega) (by first | omega | (unfold rg; omega) | (simp only [rg] at *; omega) | exact bz_rg _ | grind [rg]) ?_
            refine a_iload_n (pc := 33) ok dX7_sidesOfIsle_33 rfl ?_
            refine a_icmp_ne (pc := 34) (tgt := 99) ok dX7_sidesOfIsle_34 (by decide) (by first | exact rIk | (unfold rg; omega)) (by first | exact rIk | (unfold rg; omega)) (fun c34 => ?_) (fun c34 => ?_)
            · omega
            · refine a_aload_n (pc := 37) ok dX7_sidesOfIsle_37 rfl ?_
              refine a_getf (pc := 38) ok dX7_sidesOfIsle_38 fl7_13 rfl rfl ?_
              refine a_iload (pc := 41) ok dX7_sidesOfIsle_41 rfl ?_
              refine a_iload (pc := 43) ok dX7_sidesOfIsle_43 rfl ?_
              refine a_callSp (pc := 45) ok [1] dX7_sidesOfIsle_45 mv7_81 miX7_next (c_next hd hck (by omega)) ⟨by decide, by decide, rfl, rfl, Nat.zero_le _, Nat.zero_le _⟩ rfl rfl (Nat.le_of_ble_eq_true rfl) rfl (by decide) ?_
              refine a_istore (pc := 48) ok dX7_sidesOfIsle_48 rfl (by rw [hN]; decide) ?_
              refine a_iload_n (pc := 50) ok dX7_sidesOfIsle_50 rfl ?_
              refine a_iload_n (pc := 51) ok dX7_sidesOfIsle_51 rfl ?_
              refine a_if_eq (pc := 52) (tgt := 69) ok dX7_sidesOfIsle_52 (by decide) (by first | omega | (unfold rg; omega) | (simp only [rg] at *; omega) | exact bz_rg _ | grind [rg]) (fun c52 => ?_) (fun c52 => ?_)
              · refine a_iload (pc := 69) ok dX7_sidesOfIsle_69 rfl ?_
                refine a_iconst (pc := 71) ok dX7_sidesOfIsle_71 ?_
                refine a_icmp_eq (pc := 72) (tgt := 90) ok dX7_sidesOfIsle_72 (by decide) (by unfold rg; omega) (by unfold rg; omega) (fun c72 => ?_) (fun c72 => ?_)
                · refine a_iconst (pc := 90) ok dX7_sidesOfIsle_90 ?_
                  exact go 0 (by rw [eO (by omega), if_neg (fun z => z.1 c72)]) (by omega) _
                · refine a_aload_n (pc := 75) ok dX7_sidesOfIsle_75 rfl ?_
                  refine a_getf (pc := 76) ok dX7_sidesOfIsle_76 fl7_32 rfl rfl ?_
                  refine a_iload (pc := 79) ok dX7_sidesOfIsle_79 rfl ?_
                  refine a_iald (pc := 81) ok dX7_sidesOfIsle_81 rfl (by first | decide | omega) (by have a := hn (by omega) c72; have b := a.1; have d := a.2; omega) ?_
                  refine a_iload_n (pc := 82) ok dX7_sidesOfIsle_82 rfl ?_
                  refine a_icmp_eq (pc := 83) (tgt := 90) ok dX7_sidesOfIsle_83 (by decide) (by first | exact rIn | (unfold rg; omega)) (by first | exact rIn | (unfold rg; omega)) (fun c83 => ?_) (fun c83 => ?_)
                  · refine a_iconst (pc := 90) ok dX7_sidesOfIsle_90 ?_
                    exact go 0 (by rw [eO (by omega), if_neg (fun z => z.2 ((hin (by omega) c72).mp c83))]) (by omega) _
                  · refine a_iconst (pc := 86) ok dX7_sidesOfIsle_86 ?_
                    refine a_goto (pc := 87) (tgt := 91) ok dX7_sidesOfIsle_87 (by decide) ?_
                    exact go 1 (by rw [eO (by omega), if_pos ⟨c72, fun z => c83 ((hin (by omega) c72).mpr z)⟩]) (by omega) _
              · refine a_iload (pc := 55) ok dX7_sidesOfIsle_55 rfl ?_
                refine a_iconst (pc := 57) ok dX7_sidesOfIsle_57 ?_
                refine a_icmp_ne (pc := 58) (tgt := 65) ok dX7_sidesOfIsle_58 (by decide) (by unfold rg; omega) (by unfold rg; omega) (fun c58 => ?_) (fun c58 => ?_)
                · refine a_iconst (pc := 65) ok dX7_sidesOfIsle_65 ?_
                  refine a_goto (pc := 66) (tgt := 91) ok dX7_sidesOfIsle_66 (by decide) ?_
                  exact go 0 (by rw [eE (by omega), if_neg (by omega)]) (by omega) _
                · refine a_iconst (pc := 61) ok dX7_sidesOfIsle_61 ?_
                  refine a_goto (pc := 62) (tgt := 91) ok dX7_sidesOfIsle_62 (by decide) ?_
                  exact go 1 (by rw [eE (by omega), if_pos (by omega)]) (by omega) _
        refine a_iload (pc := 5) ok dX7_sidesOfIsle_5 rfl ?_
        refine a_aload_n (pc := 7) ok dX7_sidesOfIsle_7 rfl ?_
        refine a_getf (pc := 8) ok dX7_sidesOfIsle_8 fl7_13 rfl rfl ?_
        refine a_callSp (pc := 11) ok [1] dX7_sidesOfIsle_11 mv7_74 miX7_cells (c_cells) ⟨by decide, by decide, rfl, rfl, Nat.zero_le _, Nat.zero_le _⟩ rfl rfl (Nat.le_of_ble_eq_true rfl) rfl (by decide) ?_
        refine a_icmp_ge (pc := 14) (tgt := 105) ok dX7_sidesOfIsle_14 (by decide) (by first | omega | (unfold rg; omega) | (simp only [rg] at *; omega) | exact bz_rg _ | grind [rg]) (by first | omega | (unfold rg; omega) | (simp only [rg] at *; omega) | exact bz_rg _ | grind [rg]) (fun c14 => ?_) (fun c14 => ?_)
        · exfalso; first | omega | grind
        · refine a_iconst (pc := 17) ok dX7_sidesOfIsle_17 ?_
          refine a_istore (pc := 18) ok dX7_sidesOfIsle_18 rfl (by rw [hN]; decide) ?_
          exact AW.cast (inner 0 (by omega)) (by rw [g0, Int.add_zero]; rfl) rfl rfl
      · skip
        have hIk : I k ≠ rk (sC S) (sR S) (bS S) L := fun z => hkL (hir.mp z)
        refine a_iload (pc := 5) ok dX7_sidesOfIsle_5 rfl ?_
        refine a_aload_n (pc := 7) ok dX7_sidesOfIsle_7 rfl ?_
        refine a_getf (pc := 8) ok dX7_sidesOfIsle_8 fl7_13 rfl rfl ?_
        refine a_callSp (pc := 11) ok [1] dX7_sidesOfIsle_11 mv7_74 miX7_cells (c_cells) ⟨by decide, by decide, rfl, rfl, Nat.zero_le _, Nat.zero_le _⟩ rfl rfl (Nat.le_of_ble_eq_true rfl) rfl (by decide) ?_
        refine a_icmp_ge (pc := 14) (tgt := 105) ok dX7_sidesOfIsle_14 (by decide) (by first | omega | (unfold rg; omega) | (simp only [rg] at *; omega) | exact bz_rg _ | grind [rg]) (by first | omega | (unfold rg; omega) | (simp only [rg] at *; omega) | exact bz_rg _ | grind [rg]) (fun c14 => ?_) (fun c14 => ?_)
        · exfalso; first | omega | grind
        · refine a_iconst (pc := 17) ok dX7_sidesOfIsle_17 ?_
          refine a_istore (pc := 18) ok dX7_sidesOfIsle_18 rfl (by rw [hN]; decide) ?_
          refine a_iload (pc := 20) ok dX7_sidesOfIsle_20 rfl ?_
          refine a_iconst (pc := 22) ok dX7_sidesOfIsle_22 ?_
          refine a_icmp_ge (pc := 23) (tgt := 99) ok dX7_sidesOfIsle_23 (by decide) (by first | omega | (unfold rg; omega) | (simp only [rg] at *; omega) | exact bz_rg _ | grind [rg]) (by first | omega | (unfold rg; omega) | (simp only [rg] at *; omega) | exact bz_rg _ | grind [rg]) (fun c23 => ?_) (fun c23 => ?_)
          · omega
          · refine a_aload_n (pc := 26) ok dX7_sidesOfIsle_26 rfl ?_
            refine a_getf (pc := 27) ok dX7_sidesOfIsle_27 fl7_32 rfl rfl ?_
            refine a_iload (pc := 30) ok dX7_sidesOfIsle_30 rfl ?_
            refine a_iald (pc := 32) ok dX7_sidesOfIsle_32 rfl (by first | decide | omega) (by first | omega | (unfold rg; omega) | (simp only [rg] at *; omega) | exact bz_rg _ | grind [rg]) ?_
            refine a_iload_n (pc := 33) ok dX7_sidesOfIsle_33 rfl ?_
            refine a_icmp_ne (pc := 34) (tgt := 99) ok dX7_sidesOfIsle_34 (by decide) (by first | exact rIk | (unfold rg; omega)) (by first | exact rIk | (unfold rg; omega)) (fun c34 => ?_) (fun c34 => ?_)
            · refine a_iinc (pc := 99) ok dX7_sidesOfIsle_99 rfl rfl (by rw [hN]; decide) ?_
              refine a_goto (pc := 102) (tgt := 5) ok dX7_sidesOfIsle_102 (by decide) ?_
              exact AW.forget (L2 := [some (.ref 0), some (iv (rk (sC S) (sR S) (bS S) L)), some (iv e), some (iv (h k)), some (iv (k + 1)), none, none]) (AW.cast (ih (k + 1) (by omega) (by omega)) (by rw [hs2 k hkL]; rfl) rfl rfl) (by repeat' (first | exact trivial | refine ⟨rfl, ?_⟩))
            · exact absurd c34 hIk
    · have ekN : (sC S * sR S).toNat = k := by omega
      refine a_iload (pc := 5) ok dX7_sidesOfIsle_5 rfl ?_
      refine a_aload_n (pc := 7) ok dX7_sidesOfIsle_7 rfl ?_
      refine a_getf (pc := 8) ok dX7_sidesOfIsle_8 fl7_13 rfl rfl ?_
      refine a_callSp (pc := 11) ok [1] dX7_sidesOfIsle_11 mv7_74 miX7_cells (c_cells) ⟨by decide, by decide, rfl, rfl, Nat.zero_le _, Nat.zero_le _⟩ rfl rfl (Nat.le_of_ble_eq_true rfl) rfl (by decide) ?_
      refine a_icmp_ge (pc := 14) (tgt := 105) ok dX7_sidesOfIsle_14 (by decide) (by first | omega | (unfold rg; omega) | (simp only [rg] at *; omega) | exact bz_rg _ | grind [rg]) (by first | omega | (unfold rg; omega) | (simp only [rg] at *; omega) | exact bz_rg _ | grind [rg]) (fun c14 => ?_) (fun c14 => ?_)
      · refine a_iload_n (pc := 105) ok dX7_sidesOfIsle_105 rfl ?_
        exact a_iret (pc := 106) ok dX7_sidesOfIsle_106 (⟨by rw [ekN], rfl⟩)
      · exfalso; first | omega | grind
  refine a_iconst (pc := 0) ok dX7_sidesOfIsle_0 ?_
  refine a_istore_n (pc := 1) ok dX7_sidesOfIsle_1 rfl (by rw [hN]; decide) ?_
  refine a_iconst (pc := 2) ok dX7_sidesOfIsle_2 ?_
  refine a_istore (pc := 3) ok dX7_sidesOfIsle_3 rfl (by rw [hN]; decide) ?_
  exact AW.cast (loop 0 (by omega)) (by rw [h0]; rfl) rfl rfl
theorem cnt_brd (hd : dim c r) (L : Int) : cnP c r b (fun j => 0 < brd c r b L j) (mny c r b) = cntK (fun j => decide (0 < brd c r b L j)) (c * r).toNat := by
  rw [cnP_all hd]
  refine cntK_congr _ fun j hj => ?_
  by_cases z : 0 < brd c r b L j
  · rw [decide_eq_true z]; exact decide_eq_true ⟨brd_first hd z, z⟩
  · rw [decide_eq_false z]; exact decide_eq_false fun y => z y.2
theorem dX7_near_0 : decode cX7_near 0 = .ok (.aload_n 0, 1) := by decide +kernel
theorem dX7_near_1 : decode cX7_near 1 = .ok (.aload_n 0, 1) := by decide +kernel
theorem dX7_near_2 : decode cX7_near 2 = .ok (.getfield 13, 3) := by decide +kernel
theorem dX7_near_5 : decode cX7_near 5 = .ok (.iload_n 1, 1) := by decide +kernel
theorem dX7_near_6 : decode cX7_near 6 = .ok (.invokevirtual 106, 3) := by decide +kernel
theorem dX7_near_9 : decode cX7_near 9 = .ok (.iconst 0, 1) := by decide +kernel
theorem dX7_near_10 : decode cX7_near 10 = .ok (.istore_n 2, 1) := by decide +kernel
theorem dX7_near_11 : decode cX7_near 11 = .ok (.iconst 0, 1) := by decide +kernel
theorem dX7_near_12 : decode cX7_near 12 = .ok (.istore_n 3, 1) := by decide +kernel
theorem dX7_near_13 : decode cX7_near 13 = .ok (.iload_n 3, 1) := by decide +kernel
theorem dX7_near_14 : decode cX7_near 14 = .ok (.aload_n 0, 1) := by decide +kernel
theorem dX7_near_15 : decode cX7_near 15 = .ok (.getfield 78, 3) := by decide +kernel
theorem dX7_near_18 : decode cX7_near 18 = .ok (.if_icmp .ge 26, 3) := by decide +kernel
theorem dX7_near_21 : decode cX7_near 21 = .ok (.iload_n 2, 1) := by decide +kernel
theorem dX7_near_22 : decode cX7_near 22 = .ok (.aload_n 0, 1) := by decide +kernel
theorem dX7_near_23 : decode cX7_near 23 = .ok (.getfield 41, 3) := by decide +kernel
theorem dX7_near_26 : decode cX7_near 26 = .ok (.iload_n 3, 1) := by decide +kernel
theorem dX7_near_27 : decode cX7_near 27 = .ok (.iaload, 1) := by decide +kernel
theorem dX7_near_28 : decode cX7_near 28 = .ok (.ifCond .le 7, 3) := by decide +kernel
theorem dX7_near_31 : decode cX7_near 31 = .ok (.iconst 1, 1) := by decide +kernel
theorem dX7_near_32 : decode cX7_near 32 = .ok (.goto 4, 3) := by decide +kernel
theorem dX7_near_35 : decode cX7_near 35 = .ok (.iconst 0, 1) := by decide +kernel
theorem dX7_near_36 : decode cX7_near 36 = .ok (.iadd, 1) := by decide +kernel
theorem dX7_near_37 : decode cX7_near 37 = .ok (.istore_n 2, 1) := by decide +kernel
theorem dX7_near_38 : decode cX7_near 38 = .ok (.iinc 3 1, 3) := by decide +kernel
theorem dX7_near_41 : decode cX7_near 41 = .ok (.goto (-28), 3) := by decide +kernel
theorem dX7_near_44 : decode cX7_near 44 = .ok (.iload_n 2, 1) := by decide +kernel
theorem dX7_near_45 : decode cX7_near 45 = .ok (.ireturn, 1) := by decide +kernel
theorem c_near {L i : Int} (hS : SV S) (hL : cel (sC S) (sR S) L) (hl : lw (sC S) (sR S) (bS S) L = L) (hi : rk (sC S) (sR S) (bS S) L = i) (hJ : JS S B I Fi Co) : Ct l yX7_near cX7_near 4 (some .int) rmX7_near [.ref 0, iv i] (mdW rf sz S ac B I (mS S) Fi Co Br Wt mk gy S2 tx di ke ik ea sd rt lf wy sp ou)
    (fun z M => z = some (iv (cntK (fun j => decide (0 < brd (sC S) (sR S) (bS S) L j)) (sC S * sR S).toNat)) ∧ ∃ Br' : Int → Int, M = (mdW rf sz S ac B I (mS S) Fi Co (Br') Wt mk gy S2 tx di ke ik ea sd rt lf wy sp ou)) := by
  subst hi
  refine Ct.of miX7_near (Nat.le_of_ble_eq_true rfl) ?_
  intro X hXl hN ok
  refine AW.cast (L2 := [some (.ref 0), some (iv (rk (sC S) (sR S) (bS S) L)), none, none]) ?_ rfl rfl rfl
  have hd := hS.1
  have hm : 1 ≤ mS S ∧ mS S ≤ 144 := mny_1 (B := bS S) hd
  have loop : ∀ Br : Int → Int, (∀ L', cel (sC S) (sR S) L' → lw (sC S) (sR S) (bS S) L' = L' → Br (rk (sC S) (sR S) (bS S) L') = brd (sC S) (sR S) (bS S) L L') → ∀ k : Nat, (k : Int) ≤ mS S → AW X 0 0 13 [some (.ref 0), some (iv (rk (sC S) (sR S) (bS S) L)), some (iv (cnP (sC S) (sR S) (bS S) (fun j => 0 < brd (sC S) (sR S) (bS S) L j) k)), some (iv k)] [] (mdW rf sz S ac B I (mS S) Fi Co (Br) Wt mk gy S2 tx di ke ik ea sd rt lf wy sp ou) := by
    intro Br hBr
    refine wfl (fun k : Nat => 145 - k) _ _ ?_
    intro k hk ih
    by_cases hk2 : (k : Int) < mS S
    · obtain ⟨f1, f2, f3⟩ := fo_ok (b := bS S) hd (show (0 : Int) ≤ k by omega) hk2
      have q1 := hBr _ f1 f2
      rw [f3] at q1
      have q2 := brd_rg (B := bS S) hd L (fo (sC S) (sR S) (bS S) k)
      have e1 : 0 < brd (sC S) (sR S) (bS S) L (fo (sC S) (sR S) (bS S) k) → cnP (sC S) (sR S) (bS S) (fun j => 0 < brd (sC S) (sR S) (bS S) L j) k + 1 = cnP (sC S) (sR S) (bS S) (fun j => 0 < brd (sC S) (sR S) (bS S) L j) ((k + 1 : Nat) : Int) := fun h => by have := cnP_t hd (P := fun j => 0 < brd (sC S) (sR S) (bS S) L j) f1 f2 h; rw [f3] at this; exact this.symm
      have e2 : ¬ 0 < brd (sC S) (sR S) (bS S) L (fo (sC S) (sR S) (bS S) k) → cnP (sC S) (sR S) (bS S) (fun j => 0 < brd (sC S) (sR S) (bS S) L j) k + 0 = cnP (sC S) (sR S) (bS S) (fun j => 0 < brd (sC S) (sR S) (bS S) L j) ((k + 1 : Nat) : Int) := fun h => by have := cnP_f hd (P := fun j => 0 < brd (sC S) (sR S) (bS S) L j) f1 f2 h; rw [f3] at this; rw [Int.add_zero]; exact this.symm
      refine a_iload_n (pc := 13) ok dX7_near_13 rfl ?_
      refine a_aload_n (pc := 14) ok dX7_near_14 rfl ?_
      refine a_getf (pc := 15) ok dX7_near_15 fl7_78 rfl rfl ?_
      refine a_icmp_ge (pc := 18) (tgt := 44) ok dX7_near_18 (by decide) (by first | omega | (unfold rg; omega) | (simp only [rg] at *; omega) | exact bz_rg _ | grind [rg]) (by first | omega | (unfold rg; omega) | (simp only [rg] at *; omega) | exact bz_rg _ | grind [rg]) (fun c18 => ?_) (fun c18 => ?_)
      · exfalso; first | omega | grind
      · refine a_iload_n (pc := 21) ok dX7_near_21 rfl ?_
        refine a_aload_n (pc := 22) ok dX7_near_22 rfl ?_
        refine a_getf (pc := 23) ok dX7_near_23 fl7_41 rfl rfl ?_
        refine a_iload_n (pc := 26) ok dX7_near_26 rfl ?_
        refine a_iald (pc := 27) ok dX7_near_27 rfl (by first | decide | omega) (by first | omega | (unfold rg; omega) | (simp only [rg] at *; omega) | exact bz_rg _ | grind [rg]) ?_
        rw [q1]
        refine a_if_le (pc := 28) (tgt := 35) ok dX7_near_28 (by decide) (by first | omega | (unfold rg; omega) | (simp only [rg] at *; omega) | exact bz_rg _ | grind [rg]) (fun c28 => ?_) (fun c28 => ?_)
        · refine a_iconst (pc := 35) ok dX7_near_35 ?_
          refine a_iadd (pc := 36) ok dX7_near_36 ?_
          refine a_istore_n (pc := 37) ok dX7_near_37 rfl (by rw [hN]; decide) ?_
          refine a_iinc (pc := 38) ok dX7_near_38 rfl rfl (by rw [hN]; decide) ?_
          refine a_goto (pc := 41) (tgt := 13) ok dX7_near_41 (by decide) ?_
          exact AW.cast (ih (k + 1) (by omega) (by omega)) (by rw [← e2 (by omega)]; rfl) rfl rfl
        · refine a_iconst (pc := 31) ok dX7_near_31 ?_
          refine a_goto (pc := 32) (tgt := 36) ok dX7_near_32 (by decide) ?_
          refine a_iadd (pc := 36) ok dX7_near_36 ?_
          refine a_istore_n (pc := 37) ok dX7_near_37 rfl (by rw [hN]; decide) ?_
          refine a_iinc (pc := 38) ok dX7_near_38 rfl rfl (by rw [hN]; decide) ?_
          refine a_goto (pc := 41) (tgt := 13) ok dX7_near_41 (by decide) ?_
          exact AW.cast (ih (k + 1) (by omega) (by omega)) (by rw [← e1 (by omega)]; rfl) rfl rfl
    · have ek : (k : Int) = mS S := by omega
      refine a_iload_n (pc := 13) ok dX7_near_13 rfl ?_
      refine a_aload_n (pc := 14) ok dX7_near_14 rfl ?_
      refine a_getf (pc := 15) ok dX7_near_15 fl7_78 rfl rfl ?_
      refine a_icmp_ge (pc := 18) (tgt := 44) ok dX7_near_18 (by decide) (by first | omega | (unfold rg; omega) | (simp only [rg] at *; omega) | exact bz_rg _ | grind [rg]) (by first | omega | (unfold rg; omega) | (simp only [rg] at *; omega) | exact bz_rg _ | grind [rg]) (fun c18 => ?_) (fun c18 => ?_)
      · refine a_iload_n (pc := 44) ok dX7_near_44 rfl ?_
        exact a_iret (pc := 45) ok dX7_near_45 (⟨by rw [ek, show mS S = mny (sC S) (sR S) (bS S) from rfl, cnt_brd hd], Br, rfl⟩)
      · exfalso; first | omega | grind
  refine a_aload_n (pc := 0) ok dX7_near_0 rfl ?_
  refine a_aload_n (pc := 1) ok dX7_near_1 rfl ?_
  refine a_getf (pc := 2) ok dX7_near_2 fl7_13 rfl rfl ?_
  refine a_iload_n (pc := 5) ok dX7_near_5 rfl ?_
  refine x_callV (pc := 6) ok [0, 1, 2, 3, 4, 5, 6, 7, 8, 9, 1, 10, 11, 12, 13, 14, 15] 10 dX7_near_6 mv7_106 miX7_meet (c_meet hd hL hl hJ) ⟨by decide, by decide, rfl, rfl, Nat.zero_le _, Nat.zero_le _⟩ rfl rfl (Nat.le_of_ble_eq_true rfl) rfl rfl (by decide) rfl rfl (fun v M' h => by obtain ⟨_, _, h, _⟩ := h; rw [h]; rfl) ?_
  rintro _ M' ⟨rfl, Br', rfl, hBr⟩
  refine AW.cast (st2 := []) (M2 := (mdW rf sz S ac B I (mS S) Fi Co (Br') Wt mk gy S2 tx di ke ik ea sd rt lf wy sp ou)) ?_ rfl rfl rfl
  refine a_iconst (pc := 9) ok dX7_near_9 ?_
  refine a_istore_n (pc := 10) ok dX7_near_10 rfl (by rw [hN]; decide) ?_
  refine a_iconst (pc := 11) ok dX7_near_11 ?_
  refine a_istore_n (pc := 12) ok dX7_near_12 rfl (by rw [hN]; decide) ?_
  exact AW.cast (loop Br' hBr 0 (by omega)) (by show _ = [some (Value.ref 0), some (iv (rk (sC S) (sR S) (bS S) L)), some (iv (cnP (sC S) (sR S) (bS S) (fun j => 0 < brd (sC S) (sR S) (bS S) L j) 0)), some (iv 0)]; rw [cnP_0]; rfl) rfl rfl
end MP2
