/-! MODEL: a box on the trial; a turn. -/
section MQ1
variable {l : Launch} {rf sz : Int} {S : St} {ac : Int} {B I : Int → Int} {m : Int} {Fi Co Br Wt mk gy : Int → Int} {S2 : St} {tx di ke ik ea : Int → Int} {sd rt lf wy sp ou : Int}
theorem boxF_le (c g x0 y0 : Int) (G : Int → Int) (w h : Nat) : 0 ≤ (boxF c g x0 w y0 h (G, 0)).2 ∧ (boxF c g x0 w y0 h (G, 0)).2 ≤ w * h := by
  induction h with
  | zero => exact ⟨Int.le_refl _, by show (0 : Int) ≤ w * ((0 : Nat) : Int); omega⟩
  | succ h ih =>
    rw [boxF_end]
    have := rowF_le c g (y0 + h) w x0 (boxF c g x0 w y0 h (G, 0))
    have e : (w : Int) * ((h + 1 : Nat) : Int) = w * h + w := by rw [show ((h + 1 : Nat) : Int) = h + 1 by omega, Int.mul_add, Int.mul_one]
    omega
theorem boxF_144 {c r g x0 x1 y0 y1 : Int} {G : Int → Int} (hd : dim c r) (a : 0 ≤ x0 ∧ x0 ≤ x1 ∧ x1 < c) (d : 0 ≤ y0 ∧ y0 ≤ y1 ∧ y1 < r) : 0 ≤ (boxF c g x0 (x1 - x0 + 1).toNat y0 (y1 - y0 + 1).toNat (G, 0)).2 ∧ (boxF c g x0 (x1 - x0 + 1).toNat y0 (y1 - y0 + 1).toNat (G, 0)).2 ≤ 144 := by
  have h := boxF_le c g x0 y0 G (x1 - x0 + 1).toNat (y1 - y0 + 1).toNat
  obtain ⟨d1, d2, d3, d4⟩ := hd
  have e : (((x1 - x0 + 1).toNat : Nat) : Int) * (((y1 - y0 + 1).toNat : Nat) : Int) ≤ 12 * 12 := Int.mul_le_mul (by omega) (by omega) (by omega) (by omega)
  omega
theorem dX7_boxes_0 : decode cX7_boxes 0 = .ok (.aload_n 0, 1) := by decide +kernel
theorem dX7_boxes_1 : decode cX7_boxes 1 = .ok (.getfield 16, 3) := by decide +kernel
theorem dX7_boxes_4 : decode cX7_boxes 4 = .ok (.iload_n 1, 1) := by decide +kernel
theorem dX7_boxes_5 : decode cX7_boxes 5 = .ok (.iload_n 1, 1) := by decide +kernel
theorem dX7_boxes_6 : decode cX7_boxes 6 = .ok (.iload 4, 2) := by decide +kernel
theorem dX7_boxes_8 : decode cX7_boxes 8 = .ok (.iadd, 1) := by decide +kernel
theorem dX7_boxes_9 : decode cX7_boxes 9 = .ok (.iload_n 2, 1) := by decide +kernel
theorem dX7_boxes_10 : decode cX7_boxes 10 = .ok (.iload_n 2, 1) := by decide +kernel
theorem dX7_boxes_11 : decode cX7_boxes 11 = .ok (.iload 5, 2) := by decide +kernel
theorem dX7_boxes_13 : decode cX7_boxes 13 = .ok (.iadd, 1) := by decide +kernel
theorem dX7_boxes_14 : decode cX7_boxes 14 = .ok (.invokestatic 208, 3) := by decide +kernel
theorem dX7_boxes_17 : decode cX7_boxes 17 = .ok (.ifCond .eq 35, 3) := by decide +kernel
theorem dX7_boxes_20 : decode cX7_boxes 20 = .ok (.iload_n 3, 1) := by decide +kernel
theorem dX7_boxes_21 : decode cX7_boxes 21 = .ok (.invokestatic 302, 3) := by decide +kernel
theorem dX7_boxes_24 : decode cX7_boxes 24 = .ok (.ifCond .eq 28, 3) := by decide +kernel
theorem dX7_boxes_27 : decode cX7_boxes 27 = .ok (.aload_n 0, 1) := by decide +kernel
theorem dX7_boxes_28 : decode cX7_boxes 28 = .ok (.getfield 16, 3) := by decide +kernel
theorem dX7_boxes_31 : decode cX7_boxes 31 = .ok (.iload_n 1, 1) := by decide +kernel
theorem dX7_boxes_32 : decode cX7_boxes 32 = .ok (.iload_n 1, 1) := by decide +kernel
theorem dX7_boxes_33 : decode cX7_boxes 33 = .ok (.iload 4, 2) := by decide +kernel
theorem dX7_boxes_35 : decode cX7_boxes 35 = .ok (.iadd, 1) := by decide +kernel
theorem dX7_boxes_36 : decode cX7_boxes 36 = .ok (.iload_n 2, 1) := by decide +kernel
theorem dX7_boxes_37 : decode cX7_boxes 37 = .ok (.iload_n 2, 1) := by decide +kernel
theorem dX7_boxes_38 : decode cX7_boxes 38 = .ok (.iload 5, 2) := by decide +kernel
theorem dX7_boxes_40 : decode cX7_boxes 40 = .ok (.iadd, 1) := by decide +kernel
theorem dX7_boxes_41 : decode cX7_boxes 41 = .ok (.iload_n 3, 1) := by decide +kernel
theorem dX7_boxes_42 : decode cX7_boxes 42 = .ok (.invokestatic 212, 3) := by decide +kernel
theorem dX7_boxes_45 : decode cX7_boxes 45 = .ok (.ifCond .lt 7, 3) := by decide +kernel
theorem dX7_boxes_48 : decode cX7_boxes 48 = .ok (.iconst 1, 1) := by decide +kernel
theorem dX7_boxes_49 : decode cX7_boxes 49 = .ok (.goto 4, 3) := by decide +kernel
theorem dX7_boxes_52 : decode cX7_boxes 52 = .ok (.iconst 0, 1) := by decide +kernel
theorem dX7_boxes_53 : decode cX7_boxes 53 = .ok (.ireturn, 1) := by decide +kernel
theorem c_mboxes {x y g dx dy : Int} (hS : SV S2) (hx : 0 ≤ x ∧ x ≤ 1000) (hy : 0 ≤ y ∧ y ≤ 1000) (hg : rg g) (hdx : 0 ≤ dx ∧ dx ≤ 1000) (hdy : 0 ≤ dy ∧ dy ≤ 1000) : Cd l yX7_boxes cX7_boxes 6 (some .boolean) rmX7_boxes [.ref 0, iv x, iv y, iv g, iv dx, iv dy] (mdW rf sz S ac B I m Fi Co Br Wt mk gy S2 tx di ke ik ea sd rt lf wy sp ou) (some (iv (bz (kB S2 x (x + dx) y (y + dy) g)))) (mdW rf sz S ac B I m Fi Co Br Wt mk gy (stB S2 x (x + dx) y (y + dy) g) tx di ke ik ea sd rt lf wy sp ou) := by
  refine Ct.of miX7_boxes (Nat.le_of_ble_eq_true rfl) ?_
  intro X hXl hN ok
  refine AW.cast (L2 := [some (.ref 0), some (iv x), some (iv y), some (iv g), some (iv dx), some (iv dy)]) ?_ rfl rfl rfl
  have hd := hS.1
  have hr1 : rg x ∧ rg (x + dx) ∧ rg y ∧ rg (y + dy) := by unfold rg; omega
  have hGr := (SV_rg hS).1
  by_cases hk : kB S2 x (x + dx) y (y + dy) g
  · rw [bz_pos hk, show stB S2 x (x + dx) y (y + dy) g = gB S2 x (x + dx) y (y + dy) g from if_pos hk] at ok
    have hk0 := hk
    obtain ⟨⟨a1, a2, a3, a4⟩, ⟨b1, b2, b3, b4⟩, k3, k4, k5⟩ := hk0
    have h144 := boxF_144 (g := g) (G := sG S2) hd ⟨a1, k3, b2⟩ ⟨a3, k4, b4⟩
    refine a_aload_n (pc := 0) ok dX7_boxes_0 rfl ?_
    refine a_getf (pc := 1) ok dX7_boxes_1 fl7_16 rfl rfl ?_
    refine a_iload_n (pc := 4) ok dX7_boxes_4 rfl ?_
    refine a_iload_n (pc := 5) ok dX7_boxes_5 rfl ?_
    refine a_iload (pc := 6) ok dX7_boxes_6 rfl ?_
    refine a_iadd (pc := 8) ok dX7_boxes_8 ?_
    refine a_iload_n (pc := 9) ok dX7_boxes_9 rfl ?_
    refine a_iload_n (pc := 10) ok dX7_boxes_10 rfl ?_
    refine a_iload (pc := 11) ok dX7_boxes_11 rfl ?_
    refine a_iadd (pc := 13) ok dX7_boxes_13 ?_
    refine a_callSp (pc := 14) ok [10] dX7_boxes_14 mv7_208 miX7_canBox (c_canBox hd hr1.1 hr1.2.1 hr1.2.2.1 hr1.2.2.2) ⟨by decide, by decide, rfl, rfl, Nat.zero_le _, Nat.zero_le _⟩ rfl rfl (Nat.le_of_ble_eq_true rfl) rfl (by decide) ?_
    refine a_if_eq (pc := 17) (tgt := 52) ok dX7_boxes_17 (by decide) (by exact bz_rg _) (fun c17 => ?_) (fun c17 => ?_)
    · exact False.elim (bz_0.mp c17 ⟨hk.1, hk.2.1, k3, k4⟩)
    · refine a_iload_n (pc := 20) ok dX7_boxes_20 rfl ?_
      refine a_callSp (pc := 21) ok [] dX7_boxes_21 mv7_302 miX7_isGrey (c_isGrey hg) ⟨by decide, by decide, rfl, rfl, Nat.zero_le _, Nat.zero_le _⟩ rfl rfl (Nat.le_of_ble_eq_true rfl) rfl (by decide) ?_
      refine a_if_eq (pc := 24) (tgt := 52) ok dX7_boxes_24 (by decide) (by exact bz_rg _) (fun c24 => ?_) (fun c24 => ?_)
      · exact False.elim (bz_0.mp c24 k5)
      · refine a_aload_n (pc := 27) ok dX7_boxes_27 rfl ?_
        refine a_getf (pc := 28) ok dX7_boxes_28 fl7_16 rfl rfl ?_
        refine a_iload_n (pc := 31) ok dX7_boxes_31 rfl ?_
        refine a_iload_n (pc := 32) ok dX7_boxes_32 rfl ?_
        refine a_iload (pc := 33) ok dX7_boxes_33 rfl ?_
        refine a_iadd (pc := 35) ok dX7_boxes_35 ?_
        refine a_iload_n (pc := 36) ok dX7_boxes_36 rfl ?_
        refine a_iload_n (pc := 37) ok dX7_boxes_37 rfl ?_
        refine a_iload (pc := 38) ok dX7_boxes_38 rfl ?_
        refine a_iadd (pc := 40) ok dX7_boxes_40 ?_
        refine a_iload_n (pc := 41) ok dX7_boxes_41 rfl ?_
        refine a_callSi (pc := 42) ok [10] dX7_boxes_42 mv7_212 miX7_boxOn (c_boxOn hd ⟨a1, k3, b2⟩ ⟨a3, k4, b4⟩ hGr hg) ⟨by decide, by decide, rfl, rfl, Nat.zero_le _, Nat.zero_le _⟩ rfl rfl (Nat.le_of_ble_eq_true rfl) rfl (by decide) rfl ?_
        refine a_if_lt (pc := 45) (tgt := 52) ok dX7_boxes_45 (by decide) (by unfold rg; omega) (fun c45 => ?_) (fun c45 => ?_)
        · omega
        · refine a_iconst (pc := 48) ok dX7_boxes_48 ?_
          refine a_goto (pc := 49) (tgt := 53) ok dX7_boxes_49 (by decide) ?_
          exact a_zret (pc := 53) ok dX7_boxes_53 (by first | rfl | exact nb_bz _ | exact @nb_bz _ (Classical.propDecidable _) | decide) (⟨rfl, rfl⟩)
  · rw [bz_neg hk, show stB S2 x (x + dx) y (y + dy) g = S2 from if_neg hk] at ok
    refine a_aload_n (pc := 0) ok dX7_boxes_0 rfl ?_
    refine a_getf (pc := 1) ok dX7_boxes_1 fl7_16 rfl rfl ?_
    refine a_iload_n (pc := 4) ok dX7_boxes_4 rfl ?_
    refine a_iload_n (pc := 5) ok dX7_boxes_5 rfl ?_
    refine a_iload (pc := 6) ok dX7_boxes_6 rfl ?_
    refine a_iadd (pc := 8) ok dX7_boxes_8 ?_
    refine a_iload_n (pc := 9) ok dX7_boxes_9 rfl ?_
    refine a_iload_n (pc := 10) ok dX7_boxes_10 rfl ?_
    refine a_iload (pc := 11) ok dX7_boxes_11 rfl ?_
    refine a_iadd (pc := 13) ok dX7_boxes_13 ?_
    refine a_callSp (pc := 14) ok [10] dX7_boxes_14 mv7_208 miX7_canBox (c_canBox hd hr1.1 hr1.2.1 hr1.2.2.1 hr1.2.2.2) ⟨by decide, by decide, rfl, rfl, Nat.zero_le _, Nat.zero_le _⟩ rfl rfl (Nat.le_of_ble_eq_true rfl) rfl (by decide) ?_
    refine a_if_eq (pc := 17) (tgt := 52) ok dX7_boxes_17 (by decide) (by exact bz_rg _) (fun c17 => ?_) (fun c17 => ?_)
    · refine a_iconst (pc := 52) ok dX7_boxes_52 ?_
      exact a_zret (pc := 53) ok dX7_boxes_53 (by first | rfl | exact nb_bz _ | exact @nb_bz _ (Classical.propDecidable _) | decide) (⟨rfl, rfl⟩)
    · refine a_iload_n (pc := 20) ok dX7_boxes_20 rfl ?_
      refine a_callSp (pc := 21) ok [] dX7_boxes_21 mv7_302 miX7_isGrey (c_isGrey hg) ⟨by decide, by decide, rfl, rfl, Nat.zero_le _, Nat.zero_le _⟩ rfl rfl (Nat.le_of_ble_eq_true rfl) rfl (by decide) ?_
      refine a_if_eq (pc := 24) (tgt := 52) ok dX7_boxes_24 (by decide) (by exact bz_rg _) (fun c24 => ?_) (fun c24 => ?_)
      · refine a_iconst (pc := 52) ok dX7_boxes_52 ?_
        exact a_zret (pc := 53) ok dX7_boxes_53 (by first | rfl | exact nb_bz _ | exact @nb_bz _ (Classical.propDecidable _) | decide) (⟨rfl, rfl⟩)
      · exact False.elim (hk ⟨(bz_y c17).1, (bz_y c17).2.1, (bz_y c17).2.2.1, (bz_y c17).2.2.2, bz_y c24⟩)
end MQ1
