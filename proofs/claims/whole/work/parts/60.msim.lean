/-! MODEL's face: simulate. -/
section MQ3
variable {l : Launch} {rf sz : Int} {S : St} {ac : Int} {B I : Int → Int} {m : Int} {Fi Co Br Wt mk gy : Int → Int} {S2 : St} {tx di ke ik ea : Int → Int} {sd rt lf wy sp ou : Int}
/-- the plate after k turns from seed x -/
def siK (S : St) (x : Int) : Nat → St
  | 0 => S
  | k + 1 => tnF (siK S x k) (sh33 (lcgK x (k + 1)))
theorem SV_siK (h : SV S) (x : Int) : ∀ k : Nat, SV (siK S x k)
  | 0 => h
  | k + 1 => SV_tnF (SV_siK h x k)
noncomputable def aSim (P : St) : Int := 10000 * mS P + inkF (sC P) (sR P) (bS P) (sH P) (sI P)
theorem dX7_simulate_0 : decode cX7_simulate 0 = .ok (.aload_n 0, 1) := by decide +kernel
theorem dX7_simulate_1 : decode cX7_simulate 1 = .ok (.iload_n 3, 1) := by decide +kernel
theorem dX7_simulate_2 : decode cX7_simulate 2 = .ok (.i2l, 1) := by decide +kernel
theorem dX7_simulate_3 : decode cX7_simulate 3 = .ok (.lconst 1, 1) := by decide +kernel
theorem dX7_simulate_4 : decode cX7_simulate 4 = .ok (.ldc2_w 349, 3) := by decide +kernel
theorem dX7_simulate_7 : decode cX7_simulate 7 = .ok (.invokestatic 68, 3) := by decide +kernel
theorem dX7_simulate_10 : decode cX7_simulate 10 = .ok (.ifCond .eq 7, 3) := by decide +kernel
theorem dX7_simulate_13 : decode cX7_simulate 13 = .ok (.iconst 0, 1) := by decide +kernel
theorem dX7_simulate_14 : decode cX7_simulate 14 = .ok (.goto 4, 3) := by decide +kernel
theorem dX7_simulate_17 : decode cX7_simulate 17 = .ok (.iconst 1, 1) := by decide +kernel
theorem dX7_simulate_18 : decode cX7_simulate 18 = .ok (.invokevirtual 192, 3) := by decide +kernel
theorem dX7_simulate_21 : decode cX7_simulate 21 = .ok (.ifCond .eq 5, 3) := by decide +kernel
theorem dX7_simulate_24 : decode cX7_simulate 24 = .ok (.iconst 0, 1) := by decide +kernel
theorem dX7_simulate_25 : decode cX7_simulate 25 = .ok (.ireturn, 1) := by decide +kernel
theorem dX7_simulate_26 : decode cX7_simulate 26 = .ok (.aload_n 0, 1) := by decide +kernel
theorem dX7_simulate_27 : decode cX7_simulate 27 = .ok (.getfield 13, 3) := by decide +kernel
theorem dX7_simulate_30 : decode cX7_simulate 30 = .ok (.iconst 0, 1) := by decide +kernel
theorem dX7_simulate_31 : decode cX7_simulate 31 = .ok (.aload_n 0, 1) := by decide +kernel
theorem dX7_simulate_32 : decode cX7_simulate 32 = .ok (.getfield 16, 3) := by decide +kernel
theorem dX7_simulate_35 : decode cX7_simulate 35 = .ok (.iconst 0, 1) := by decide +kernel
theorem dX7_simulate_36 : decode cX7_simulate 36 = .ok (.invokestatic 246, 3) := by decide +kernel
theorem dX7_simulate_39 : decode cX7_simulate 39 = .ok (.lload_n 1, 1) := by decide +kernel
theorem dX7_simulate_40 : decode cX7_simulate 40 = .ok (.lstore 4, 2) := by decide +kernel
theorem dX7_simulate_42 : decode cX7_simulate 42 = .ok (.iconst 0, 1) := by decide +kernel
theorem dX7_simulate_43 : decode cX7_simulate 43 = .ok (.istore 6, 2) := by decide +kernel
theorem dX7_simulate_45 : decode cX7_simulate 45 = .ok (.iload 6, 2) := by decide +kernel
theorem dX7_simulate_47 : decode cX7_simulate 47 = .ok (.iload_n 3, 1) := by decide +kernel
theorem dX7_simulate_48 : decode cX7_simulate 48 = .ok (.if_icmp .ge 31, 3) := by decide +kernel
theorem dX7_simulate_51 : decode cX7_simulate 51 = .ok (.lload 4, 2) := by decide +kernel
theorem dX7_simulate_53 : decode cX7_simulate 53 = .ok (.ldc2_w 180, 3) := by decide +kernel
theorem dX7_simulate_56 : decode cX7_simulate 56 = .ok (.lmul, 1) := by decide +kernel
theorem dX7_simulate_57 : decode cX7_simulate 57 = .ok (.ldc2_w 182, 3) := by decide +kernel
theorem dX7_simulate_60 : decode cX7_simulate 60 = .ok (.ladd, 1) := by decide +kernel
theorem dX7_simulate_61 : decode cX7_simulate 61 = .ok (.lstore 4, 2) := by decide +kernel
theorem dX7_simulate_63 : decode cX7_simulate 63 = .ok (.aload_n 0, 1) := by decide +kernel
theorem dX7_simulate_64 : decode cX7_simulate 64 = .ok (.lload 4, 2) := by decide +kernel
theorem dX7_simulate_66 : decode cX7_simulate 66 = .ok (.bipush 33, 2) := by decide +kernel
theorem dX7_simulate_68 : decode cX7_simulate 68 = .ok (.lushr, 1) := by decide +kernel
theorem dX7_simulate_69 : decode cX7_simulate 69 = .ok (.l2i, 1) := by decide +kernel
theorem dX7_simulate_70 : decode cX7_simulate 70 = .ok (.invokevirtual 351, 3) := by decide +kernel
theorem dX7_simulate_73 : decode cX7_simulate 73 = .ok (.iinc 6 1, 3) := by decide +kernel
theorem dX7_simulate_76 : decode cX7_simulate 76 = .ok (.goto (-31), 3) := by decide +kernel
theorem dX7_simulate_79 : decode cX7_simulate 79 = .ok (.aload_n 0, 1) := by decide +kernel
theorem dX7_simulate_80 : decode cX7_simulate 80 = .ok (.aload_n 0, 1) := by decide +kernel
theorem dX7_simulate_81 : decode cX7_simulate 81 = .ok (.getfield 16, 3) := by decide +kernel
theorem dX7_simulate_84 : decode cX7_simulate 84 = .ok (.invokevirtual 255, 3) := by decide +kernel
theorem dX7_simulate_87 : decode cX7_simulate 87 = .ok (.sipush 10000, 3) := by decide +kernel
theorem dX7_simulate_90 : decode cX7_simulate 90 = .ok (.aload_n 0, 1) := by decide +kernel
theorem dX7_simulate_91 : decode cX7_simulate 91 = .ok (.getfield 78, 3) := by decide +kernel
theorem dX7_simulate_94 : decode cX7_simulate 94 = .ok (.imul, 1) := by decide +kernel
theorem dX7_simulate_95 : decode cX7_simulate 95 = .ok (.aload_n 0, 1) := by decide +kernel
theorem dX7_simulate_96 : decode cX7_simulate 96 = .ok (.aload_n 0, 1) := by decide +kernel
theorem dX7_simulate_97 : decode cX7_simulate 97 = .ok (.getfield 16, 3) := by decide +kernel
theorem dX7_simulate_100 : decode cX7_simulate 100 = .ok (.invokevirtual 294, 3) := by decide +kernel
theorem dX7_simulate_103 : decode cX7_simulate 103 = .ok (.iadd, 1) := by decide +kernel
theorem dX7_simulate_104 : decode cX7_simulate 104 = .ok (.ireturn, 1) := by decide +kernel
set_option maxRecDepth 100000 in
theorem c_msimulate {x n : Int} (hS : SV S) (hB : ∀ i, 0 ≤ B i ∧ B i ≤ 5) (hI : ∀ i, rg (I i)) (hn : rg n) : Ct l yX7_simulate cX7_simulate 7 (some .int) rmX7_simulate [.ref 0, jv x, iv n] (mdW rf sz S ac B I m Fi Co Br Wt mk gy S2 tx di ke ik ea sd rt lf wy sp ou)
    (fun z M => z = some (iv (if kIn n 1 60 = 0 then aSim (siK S x n.toNat) else 0)) ∧ WM (kIn n 1 60) sz S ac tx di ke ik M) := by
  refine Ct.of miX7_simulate (Nat.le_of_ble_eq_true rfl) ?_
  intro X hXl hN ok
  refine AW.cast (L2 := [some (.ref 0), some (jv x), none, some (iv n), none, none, none]) ?_ rfl rfl rfl
  have hzr := kIn_rg (v := n) (lo := 1) (hi := 60)
  have sj : ∀ z : Int, z = kIn n 1 60 → AW X 0 0 18 [some (.ref 0), some (jv x), none, some (iv n), none, none, none] [iv z, .ref 0] (mdW rf sz S ac B I m Fi Co Br Wt mk gy S2 tx di ke ik ea sd rt lf wy sp ou) := by
    intro z hz
    rw [← hz] at hzr
    by_cases k0 : kIn n 1 60 = 0
    · rw [if_pos k0] at ok
      rw [k0] at ok hz
      subst hz
      have hw2 := kIn_0 k0
      have s79 : ∀ (P : St) (gy : Int → Int) (v4 v6 : Option Value), SV P → P = siK S x n.toNat → AW X 0 0 79 [some (.ref 0), some (jv x), none, some (iv n), v4, none, v6] [] (mdW (0) sz S ac B I m Fi Co Br Wt mk (gy) (P) tx di ke ik ea sd rt lf wy sp ou) := by
        intro P gy v4 v6 hP hPe
        rw [← hPe] at ok
        have hd := hP.1
        refine a_aload_n (pc := 79) ok dX7_simulate_79 rfl ?_
        refine a_aload_n (pc := 80) ok dX7_simulate_80 rfl ?_
        refine a_getf (pc := 81) ok dX7_simulate_81 fl7_16 rfl rfl ?_
        refine x_callV (pc := 84) ok [0, 10, 2, 3, 4, 5, 6, 7, 8, 9, 1, 10, 11, 12, 13, 14, 15] 10 dX7_simulate_84 mv7_255 miX7_findAs (c_findNow (S := P) hP hB hI) ⟨by decide, by decide, rfl, rfl, Nat.zero_le _, Nat.zero_le _⟩ rfl rfl (Nat.le_of_ble_eq_true rfl) mdM_len rfl (by decide) rfl rfl (fun v M' h => by obtain ⟨_, _, _, _, _, _, _, h, _⟩ := h; rw [h]; rfl) ?_
        rintro _ M' ⟨rfl, B', I', Fi', Co', Br', Q', rfl, hJ⟩
        refine AW.cast (st2 := []) (M2 := (mdW (0) sz S ac (B') (I') (mS P) (Fi') (Co') (Br') (Q') mk (gy) (P) tx di ke ik ea sd rt lf wy sp ou)) ?_ rfl rfl rfl
        refine a_sipush (pc := 87) ok dX7_simulate_87 (by decide) ?_
        refine a_aload_n (pc := 90) ok dX7_simulate_90 rfl ?_
        refine a_getf (pc := 91) ok dX7_simulate_91 fl7_78 rfl rfl ?_
        refine a_imul (pc := 94) ok dX7_simulate_94 ?_
        refine a_aload_n (pc := 95) ok dX7_simulate_95 rfl ?_
        refine a_aload_n (pc := 96) ok dX7_simulate_96 rfl ?_
        refine a_getf (pc := 97) ok dX7_simulate_97 fl7_16 rfl rfl ?_
        refine x_callVp (pc := 100) ok [0, 10, 2, 3, 4, 5, 6, 7, 8, 9, 1, 10, 11, 12, 13, 14, 15] 10 dX7_simulate_100 mv7_294 miX7_inkOf (c_inkOf hd hJ) ⟨by decide, by decide, rfl, rfl, Nat.zero_le _, Nat.zero_le _⟩ rfl rfl (Nat.le_of_ble_eq_true rfl) mdM_len rfl (by decide) rfl rfl ?_
        refine a_iadd (pc := 103) ok dX7_simulate_103 ?_
        exact a_iret (pc := 104) ok dX7_simulate_104 (⟨rfl, WM_mk hJ.1 hJ.2.1⟩)
      have loop : ∀ q : Nat × (Int → Int), ((q.1 : Int) ≤ n) → AW X 0 0 45 [some (.ref 0), some (jv x), none, some (iv n), some (jv (lcgK x q.1)), none, some (iv q.1)] [] (mdW (0) sz S ac B I m Fi Co Br Wt mk (q.2) (siK S x q.1) tx di ke ik ea sd rt lf wy sp ou) := by
        refine wfl (fun q : Nat × (Int → Int) => 61 - q.1) _ _ ?_
        rintro ⟨k, gy⟩ hk ih
        dsimp only at hk ih ⊢
        have hs := sh33_rg (lcgK x (k + 1))
        have s63 : ∀ P : St, SV P → P = siK S x k → (k : Int) < n → AW X 0 0 63 [some (.ref 0), some (jv x), none, some (iv n), some (jv (lcgK x (k + 1))), none, some (iv k)] [] (mdW (0) sz S ac B I m Fi Co Br Wt mk (gy) (P) tx di ke ik ea sd rt lf wy sp ou) := by
          intro P hP hPe hkn
          refine a_aload_n (pc := 63) ok dX7_simulate_63 rfl ?_
          refine a_lload (pc := 64) ok dX7_simulate_64 rfl ?_
          refine a_bipush (pc := 66) ok dX7_simulate_66 (by decide) ?_
          refine a_lushr33 (pc := 68) ok dX7_simulate_68 ?_
          refine a_l2i (pc := 69) ok dX7_simulate_69 ?_
          refine a_callV (pc := 70) ok [0, 1, 2, 3, 4, 5, 6, 7, 8, 9, 10, 11, 12, 13, 14, 15] dX7_simulate_70 mv7_351 miX7_turn (c_mturn hP (by omega)) ⟨by decide, by decide, rfl, rfl, Nat.zero_le _, Nat.zero_le _⟩ rfl rfl (Nat.le_of_ble_eq_true rfl) rfl (by decide) rfl rfl (fun v M' h => by obtain ⟨_, _, h⟩ := h; rw [h]; rfl) ?_
          rintro _ M' ⟨rfl, gy', rfl⟩
          refine AW.cast (st2 := []) (M2 := (mdW (0) sz S ac B I m Fi Co Br Wt mk (gy') (tnF P (sh33 (lcgK x (k + 1)))) tx di ke ik ea sd rt lf wy sp ou)) ?_ rfl rfl rfl
          refine a_iinc (pc := 73) ok dX7_simulate_73 rfl rfl (by rw [hN]; decide) ?_
          refine a_goto (pc := 76) (tgt := 45) ok dX7_simulate_76 (by decide) ?_
          exact AW.cast (ih (k + 1, gy') (by dsimp only; omega) (by dsimp only; omega)) rfl rfl (by rw [hPe]; rfl)
        refine a_iload (pc := 45) ok dX7_simulate_45 rfl ?_
        refine a_iload_n (pc := 47) ok dX7_simulate_47 rfl ?_
        refine a_icmp_ge (pc := 48) (tgt := 79) ok dX7_simulate_48 (by decide) (by first | omega | (unfold rg; omega) | (simp only [rg] at *; omega) | exact bz_rg _ | grind [rg]) (by first | omega | (unfold rg; omega) | (simp only [rg] at *; omega) | exact bz_rg _ | grind [rg]) (fun c48 => ?_) (fun c48 => ?_)
        · exact s79 (siK S x k) gy _ _ (SV_siK hS x k) (by rw [show k = n.toNat by omega])
        · refine a_lload (pc := 51) ok dX7_simulate_51 rfl ?_
          refine a_ldc2 (pc := 53) (z := 6364136223846793005) (v := Int64.ofInt 6364136223846793005) ok dX7_simulate_53 (ug6 236 (by decide +kernel) rfl) rfl ?_
          refine a_lmul (pc := 56) ok dX7_simulate_56 ?_
          refine a_ldc2 (pc := 57) (z := 1442695040888963407) (v := Int64.ofInt 1442695040888963407) ok dX7_simulate_57 (ug6 237 (by decide +kernel) rfl) rfl ?_
          refine a_ladd (pc := 60) ok dX7_simulate_60 ?_
          refine a_lstore (pc := 61) ok dX7_simulate_61 rfl (by rw [hN]; decide) ?_
          exact AW.cast (s63 (siK S x k) (SV_siK hS x k) rfl (by omega)) rfl rfl rfl
      refine x_callVi (pc := 18) ok [0, 11, 1, 10, 12, 13, 14, 2, 3, 4, 5, 6, 7, 8, 9, 15] 1 dX7_simulate_18 mv7_192 miX7_refused (c_refused (by unfold rg; omega)) ⟨by decide, by decide, rfl, rfl, Nat.zero_le _, Nat.zero_le _⟩ rfl rfl (Nat.le_of_ble_eq_true rfl) rfl rfl (by decide) rfl rfl rfl ?_
      refine a_if_eq (pc := 21) (tgt := 26) ok dX7_simulate_21 (by decide) (by first | omega | (unfold rg; omega) | (simp only [rg] at *; omega) | exact bz_rg _ | grind [rg]) (fun c21 => ?_) (fun c21 => ?_)
      · refine AW.cast (M2 := (mdW (0) sz S ac B I m Fi Co Br Wt mk gy S2 tx di ke ik ea sd rt lf wy sp ou)) ?_ rfl rfl rfl
        refine a_aload_n (pc := 26) ok dX7_simulate_26 rfl ?_
        refine a_getf (pc := 27) ok dX7_simulate_27 fl7_13 rfl rfl ?_
        refine a_iconst (pc := 30) ok dX7_simulate_30 ?_
        refine a_aload_n (pc := 31) ok dX7_simulate_31 rfl ?_
        refine a_getf (pc := 32) ok dX7_simulate_32 fl7_16 rfl rfl ?_
        refine a_iconst (pc := 35) ok dX7_simulate_35 ?_
        refine a_callSv (pc := 36) ok [1, 10] dX7_simulate_36 mv7_246 miX7_copyState (c_copyRow) ⟨by decide, by decide, rfl, rfl, Nat.zero_le _, Nat.zero_le _⟩ rfl rfl (Nat.le_of_ble_eq_true rfl) rfl (by decide) rfl ?_
        refine AW.cast (M2 := (mdW (0) sz S ac B I m Fi Co Br Wt mk gy (S) tx di ke ik ea sd rt lf wy sp ou)) ?_ rfl rfl rfl
        refine a_lload_n (pc := 39) ok dX7_simulate_39 rfl ?_
        refine a_lstore (pc := 40) ok dX7_simulate_40 rfl (by rw [hN]; decide) ?_
        refine a_iconst (pc := 42) ok dX7_simulate_42 ?_
        refine a_istore (pc := 43) ok dX7_simulate_43 rfl (by rw [hN]; decide) ?_
        exact AW.cast (loop (0, gy) (by dsimp only; omega)) rfl rfl rfl
      · exact absurd rfl c21
    · rw [if_neg k0, ← hz] at ok
      refine x_callVi (pc := 18) ok [0, 11, 1, 10, 12, 13, 14, 2, 3, 4, 5, 6, 7, 8, 9, 15] 1 dX7_simulate_18 mv7_192 miX7_refused (c_refused (by unfold rg; omega)) ⟨by decide, by decide, rfl, rfl, Nat.zero_le _, Nat.zero_le _⟩ rfl rfl (Nat.le_of_ble_eq_true rfl) rfl rfl (by decide) rfl rfl rfl ?_
      refine a_if_eq (pc := 21) (tgt := 26) ok dX7_simulate_21 (by decide) (by exact bz_rg _) (fun c21 => ?_) (fun c21 => ?_)
      · exact absurd c21 (by rw [bz_pos (show 0 < z by omega)]; decide)
      · refine a_iconst (pc := 24) ok dX7_simulate_24 ?_
        exact a_iret (pc := 25) ok dX7_simulate_25 (⟨rfl, WM_mk hB hI⟩)
  refine a_aload_n (pc := 0) ok dX7_simulate_0 rfl ?_
  refine a_iload_n (pc := 1) ok dX7_simulate_1 rfl ?_
  refine a_i2l (pc := 2) ok dX7_simulate_2 (by first | omega | (unfold rg; omega) | (simp only [rg] at *; omega) | exact bz_rg _ | grind [rg]) ?_
  refine a_lconst (pc := 3) (z := 1) ok dX7_simulate_3 rfl ?_
  refine a_ldc2 (pc := 4) (z := 60) (v := Int64.ofInt 60) ok dX7_simulate_4 (ug7 53 (by decide +kernel) rfl) rfl ?_
  refine a_callSp (pc := 7) ok [] dX7_simulate_7 mv7_68 miX7_in (c_in (by unfold rgL; unfold rg at hn; omega) (by unfold rgL; omega) (by unfold rgL; omega)) ⟨by decide, by decide, rfl, rfl, Nat.zero_le _, Nat.zero_le _⟩ rfl rfl (Nat.le_of_ble_eq_true rfl) rfl (by decide) ?_
  refine a_if_eq (pc := 10) (tgt := 17) ok dX7_simulate_10 (by decide) (by exact bz_rg _) (fun c10 => ?_) (fun c10 => ?_)
  · refine a_iconst (pc := 17) ok dX7_simulate_17 ?_
    exact sj 1 (by unfold kIn; rw [if_neg (bz_0.mp c10)])
  · refine a_iconst (pc := 13) ok dX7_simulate_13 ?_
    refine a_goto (pc := 14) (tgt := 18) ok dX7_simulate_14 (by decide) ?_
    exact sj 0 (by unfold kIn; rw [if_pos (bz_y c10)])
end MQ3
