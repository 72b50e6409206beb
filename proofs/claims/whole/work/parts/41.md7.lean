/-! MODEL: greys taken over, blurred, spread, made noisy. -/
section MD9
variable {l : Launch} {rf sz c r : Int} {G T : Int → Int} {le : Int} {Hh : Int → Int} {li ac : Int} {B I : Int → Int} {m : Int} {Fi Co Br Wt mk gy : Int → Int} {sd rt lf wy sp ou : Int} {b : Int → Int}
theorem dX7_takeOver_0 : decode cX7_takeOver 0 = .ok (.iconst 0, 1) := by decide +kernel
theorem dX7_takeOver_1 : decode cX7_takeOver 1 = .ok (.istore_n 2, 1) := by decide +kernel
theorem dX7_takeOver_2 : decode cX7_takeOver 2 = .ok (.iconst 0, 1) := by decide +kernel
theorem dX7_takeOver_3 : decode cX7_takeOver 3 = .ok (.istore_n 3, 1) := by decide +kernel
theorem dX7_takeOver_4 : decode cX7_takeOver 4 = .ok (.iload_n 3, 1) := by decide +kernel
theorem dX7_takeOver_5 : decode cX7_takeOver 5 = .ok (.aload_n 1, 1) := by decide +kernel
theorem dX7_takeOver_6 : decode cX7_takeOver 6 = .ok (.invokestatic 74, 3) := by decide +kernel
theorem dX7_takeOver_9 : decode cX7_takeOver 9 = .ok (.if_icmp .ge 37, 3) := by decide +kernel
theorem dX7_takeOver_12 : decode cX7_takeOver 12 = .ok (.iload_n 2, 1) := by decide +kernel
theorem dX7_takeOver_13 : decode cX7_takeOver 13 = .ok (.aload_n 1, 1) := by decide +kernel
theorem dX7_takeOver_14 : decode cX7_takeOver 14 = .ok (.iload_n 3, 1) := by decide +kernel
theorem dX7_takeOver_15 : decode cX7_takeOver 15 = .ok (.aload_n 0, 1) := by decide +kernel
theorem dX7_takeOver_16 : decode cX7_takeOver 16 = .ok (.getfield 50, 3) := by decide +kernel
theorem dX7_takeOver_19 : decode cX7_takeOver 19 = .ok (.iload_n 3, 1) := by decide +kernel
theorem dX7_takeOver_20 : decode cX7_takeOver 20 = .ok (.iaload, 1) := by decide +kernel
theorem dX7_takeOver_21 : decode cX7_takeOver 21 = .ok (.invokestatic 158, 3) := by decide +kernel
theorem dX7_takeOver_24 : decode cX7_takeOver 24 = .ok (.aload_n 0, 1) := by decide +kernel
theorem dX7_takeOver_25 : decode cX7_takeOver 25 = .ok (.getfield 50, 3) := by decide +kernel
theorem dX7_takeOver_28 : decode cX7_takeOver 28 = .ok (.iload_n 3, 1) := by decide +kernel
theorem dX7_takeOver_29 : decode cX7_takeOver 29 = .ok (.iaload, 1) := by decide +kernel
theorem dX7_takeOver_30 : decode cX7_takeOver 30 = .ok (.if_icmp .ne 7, 3) := by decide +kernel
theorem dX7_takeOver_33 : decode cX7_takeOver 33 = .ok (.iconst 0, 1) := by decide +kernel
theorem dX7_takeOver_34 : decode cX7_takeOver 34 = .ok (.goto 4, 3) := by decide +kernel
theorem dX7_takeOver_37 : decode cX7_takeOver 37 = .ok (.iconst 1, 1) := by decide +kernel
theorem dX7_takeOver_38 : decode cX7_takeOver 38 = .ok (.iadd, 1) := by decide +kernel
theorem dX7_takeOver_39 : decode cX7_takeOver 39 = .ok (.istore_n 2, 1) := by decide +kernel
theorem dX7_takeOver_40 : decode cX7_takeOver 40 = .ok (.iinc 3 1, 3) := by decide +kernel
theorem dX7_takeOver_43 : decode cX7_takeOver 43 = .ok (.goto (-39), 3) := by decide +kernel
theorem dX7_takeOver_46 : decode cX7_takeOver 46 = .ok (.iload_n 2, 1) := by decide +kernel
theorem dX7_takeOver_47 : decode cX7_takeOver 47 = .ok (.ireturn, 1) := by decide +kernel
theorem c_takeOver {n : Int} (hd : dim c r) (hG : ∀ i, rg (G i)) (hg : ∀ k, cel c r k → rg (gy k)) : Cd l yX7_takeOver cX7_takeOver 4 (some .int) rmX7_takeOver [.ref 0, .ref 1] (mdM rf sz c r G T n le Hh li ac B I m Fi Co Br Wt mk gy sd rt lf wy sp ou) (some (iv (cntK (fun j => decide (gy j ≠ G j)) (c * r).toNat))) (mdM rf sz c r (mapK gy (c * r) G) T n le Hh li ac B I m Fi Co Br Wt mk gy sd rt lf wy sp ou) := by
  refine Ct.of miX7_takeOver (Nat.le_of_ble_eq_true rfl) ?_
  intro X hXl hN ok
  refine AW.cast (L2 := [some (.ref 0), some (.ref 1), none, none]) ?_ rfl rfl rfl
  have hc := dim_cells hd
  have loop : ∀ k : Nat, (k : Int) ≤ c * r → AW X 0 0 4 [some (.ref 0), some (.ref 1), some (iv (cntK (fun j => decide (gy j ≠ G j)) k)), some (iv k)] [] (mdM rf sz c r (mapK gy k G) T n le Hh li ac B I m Fi Co Br Wt mk gy sd rt lf wy sp ou) := by
    refine wfl (fun k : Nat => 145 - k) _ _ ?_
    intro k hk ih
    have hat : mapK gy k G k = G k := mapK_at
    have hup : up (mapK gy k G) k (gy k) = mapK gy ((k + 1 : Nat) : Int) G := mapK_up (by omega)
    have hGk := hG k
    have hgk : (k : Int) < c * r → rg (gy k) := fun h => hg k ⟨by omega, h⟩
    have e1 : gy k ≠ G k → cntK (fun j => decide (gy j ≠ G j)) k + 1 = cntK (fun j => decide (gy j ≠ G j)) (k + 1) := fun h => (cntK_t (p := fun j => decide (gy j ≠ G j)) (decide_eq_true h)).symm
    have e2 : gy k = G k → cntK (fun j => decide (gy j ≠ G j)) k + 0 = cntK (fun j => decide (gy j ≠ G j)) (k + 1) := fun h => by rw [Int.add_zero]; exact (cntK_f (p := fun j => decide (gy j ≠ G j)) (decide_eq_false (fun z => z h))).symm
    refine a_iload_n (pc := 4) ok dX7_takeOver_4 rfl ?_
    refine a_aload_n (pc := 5) ok dX7_takeOver_5 rfl ?_
    refine a_callSp (pc := 6) ok [1] dX7_takeOver_6 mv7_74 miX7_cells (c_cells) ⟨by decide, by decide, rfl, rfl, Nat.zero_le _, Nat.zero_le _⟩ rfl rfl (Nat.le_of_ble_eq_true rfl) rfl (by decide) ?_
    refine a_icmp_ge (pc := 9) (tgt := 46) ok dX7_takeOver_9 (by decide) (by first | omega | (unfold rg; omega) | (simp only [rg] at *; omega) | exact bz_rg _ | grind [rg]) (by first | omega | (unfold rg; omega) | (simp only [rg] at *; omega) | exact bz_rg _ | grind [rg]) (fun c9 => ?_) (fun c9 => ?_)
    · have ek : (k : Int) = c * r := by omega
      refine a_iload_n (pc := 46) ok dX7_takeOver_46 rfl ?_
      exact a_iret (pc := 47) ok dX7_takeOver_47 (⟨by rw [show (c * r).toNat = k by omega], by rw [ek]⟩)
    · refine a_iload_n (pc := 12) ok dX7_takeOver_12 rfl ?_
      refine a_aload_n (pc := 13) ok dX7_takeOver_13 rfl ?_
      refine a_iload_n (pc := 14) ok dX7_takeOver_14 rfl ?_
      refine a_aload_n (pc := 15) ok dX7_takeOver_15 rfl ?_
      refine a_getf (pc := 16) ok dX7_takeOver_16 fl7_50 rfl rfl ?_
      refine a_iload_n (pc := 19) ok dX7_takeOver_19 rfl ?_
      refine a_iald (pc := 20) ok dX7_takeOver_20 rfl (by first | decide | omega) (by first | omega | (unfold rg; omega) | (simp only [rg] at *; omega) | exact bz_rg _ | grind [rg]) ?_
      refine a_callSi (pc := 21) ok [1] dX7_takeOver_21 mv7_158 miX7_cellOn (c_cellOn (by omega)) ⟨by decide, by decide, rfl, rfl, Nat.zero_le _, Nat.zero_le _⟩ rfl rfl (Nat.le_of_ble_eq_true rfl) rfl (by decide) rfl ?_
      rw [hat, hup]
      refine a_aload_n (pc := 24) ok dX7_takeOver_24 rfl ?_
      refine a_getf (pc := 25) ok dX7_takeOver_25 fl7_50 rfl rfl ?_
      refine a_iload_n (pc := 28) ok dX7_takeOver_28 rfl ?_
      refine a_iald (pc := 29) ok dX7_takeOver_29 rfl (by first | decide | omega) (by first | omega | (unfold rg; omega) | (simp only [rg] at *; omega) | exact bz_rg _ | grind [rg]) ?_
      refine a_icmp_ne (pc := 30) (tgt := 37) ok dX7_takeOver_30 (by decide) (by first | exact hGk | exact hgk (by omega)) (by first | exact hGk | exact hgk (by omega)) (fun c30 => ?_) (fun c30 => ?_)
      · refine a_iconst (pc := 37) ok dX7_takeOver_37 ?_
        refine a_iadd (pc := 38) ok dX7_takeOver_38 ?_
        refine a_istore_n (pc := 39) ok dX7_takeOver_39 rfl (by rw [hN]; decide) ?_
        refine a_iinc (pc := 40) ok dX7_takeOver_40 rfl rfl (by rw [hN]; decide) ?_
        refine a_goto (pc := 43) (tgt := 4) ok dX7_takeOver_43 (by decide) ?_
        exact AW.cast (ih (k + 1) (by omega) (by omega)) (by rw [← e1 (by omega)]; rfl) rfl rfl
      · refine a_iconst (pc := 33) ok dX7_takeOver_33 ?_
        refine a_goto (pc := 34) (tgt := 38) ok dX7_takeOver_34 (by decide) ?_
        refine a_iadd (pc := 38) ok dX7_takeOver_38 ?_
        refine a_istore_n (pc := 39) ok dX7_takeOver_39 rfl (by rw [hN]; decide) ?_
        refine a_iinc (pc := 40) ok dX7_takeOver_40 rfl rfl (by rw [hN]; decide) ?_
        refine a_goto (pc := 43) (tgt := 4) ok dX7_takeOver_43 (by decide) ?_
        exact AW.cast (ih (k + 1) (by omega) (by omega)) (by rw [← e2 (by omega)]; rfl) rfl rfl
  refine a_iconst (pc := 0) ok dX7_takeOver_0 ?_
  refine a_istore_n (pc := 1) ok dX7_takeOver_1 rfl (by rw [hN]; decide) ?_
  refine a_iconst (pc := 2) ok dX7_takeOver_2 ?_
  refine a_istore_n (pc := 3) ok dX7_takeOver_3 rfl (by rw [hN]; decide) ?_
  exact AW.cast (loop 0 (by omega)) rfl rfl (congrArg (fun f => (mdM rf sz c r (f) T n le Hh li ac B I m Fi Co Br Wt mk gy sd rt lf wy sp ou)) mapK_0.symm)
theorem mapK_in {f : Int → Int} {k : Int} {j : Int} (h : 0 ≤ j ∧ j < k) : mapK f k G j = f j := if_pos h
theorem mapK_2 {f : Int → Int} (k : Int) : mapK (mapK f k gy) k G = mapK f k G := by
  funext j
  unfold mapK
  by_cases h : 0 ≤ j ∧ j < k
  · rw [if_pos h, if_pos h, if_pos h]
  · rw [if_neg h, if_neg h]
theorem cnt_mapK (hd : dim c r) {f : Int → Int} : cntK (fun j => decide (mapK f (c * r) gy j ≠ G j)) (c * r).toNat = cntK (fun j => decide (f j ≠ G j)) (c * r).toNat := by
  have hc := dim_cells hd
  exact cntK_congr _ fun j hj => by rw [mapK_in ⟨by omega, by omega⟩]
theorem c_takeOverF {n : Int} {f : Int → Int} (hd : dim c r) (hG : ∀ i, rg (G i)) (hf : ∀ k, cel c r k → rg (f k)) : Cd l yX7_takeOver cX7_takeOver 4 (some .int) rmX7_takeOver [.ref 0, .ref 1] (mdM rf sz c r G T n le Hh li ac B I m Fi Co Br Wt mk (mapK f (c * r) gy) sd rt lf wy sp ou) (some (iv (cntK (fun j => decide (f j ≠ G j)) (c * r).toNat))) (mdM rf sz c r (mapK f (c * r) G) T n le Hh li ac B I m Fi Co Br Wt mk (mapK f (c * r) gy) sd rt lf wy sp ou) := by
  have h := c_takeOver (l := l) (rf := rf) (sz := sz) (G := G) (T := T) (n := n) (le := le) (Hh := Hh) (li := li) (ac := ac) (B := B) (I := I) (m := m) (Fi := Fi) (Co := Co) (Br := Br) (Wt := Wt) (mk := mk) (gy := mapK f (c * r) gy) (sd := sd) (rt := rt) (lf := lf) (wy := wy) (sp := sp) (ou := ou) hd hG (fun k hk => by rw [mapK_in hk]; exact hf k hk)
  rw [cnt_mapK hd, mapK_2] at h
  exact h
/-- a grey and its neighbours, up to a way -/
def bsK (c r : Int) (G : Int → Int) (k : Int) (w : Nat) : Int := 4 * G k + sumK (fun w => if nb c r k w = -1 then 0 else G (nb c r k w)) w
def bnK (c r : Int) (k : Int) (w : Nat) : Int := 4 + sumK (fun w => if nb c r k w = -1 then 0 else 1) w
theorem bsK_4 (hd : dim c r) {k : Int} (hk : cel c r k) : bsK c r G k 4 = blS c r G k (k % c) (k / c) ∧ bnK c r k 4 = blN c r (k % c) (k / c) := by
  have h := dim_k hd hk
  have hq := dim_x hd (x := 0) (y := k / c) ⟨h.2.2.1, h.2.2.2.1⟩
  have hk1 := hk.1
  obtain ⟨d1, d2, d3, d4⟩ := id hd
  have n0 : nb c r k 0 = if k % c < c - 1 then k + 1 else -1 := by unfold nb; rw [if_pos rfl]
  have n1 : nb c r k 1 = if k / c < r - 1 then k + c else -1 := by unfold nb; rw [if_neg (by decide), if_pos rfl]
  have n2 : nb c r k 2 = if 0 < k % c then k - 1 else -1 := by unfold nb; rw [if_neg (by decide), if_neg (by decide), if_pos rfl]
  have n3 : nb c r k 3 = if 0 < k / c then k - c else -1 := by unfold nb; rw [if_neg (by decide), if_neg (by decide), if_neg (by decide)]
  have f0 : (if nb c r k 0 = -1 then 0 else G (nb c r k 0)) = (if k % c < c - 1 then G (k + 1) else 0) ∧ (if nb c r k 0 = -1 then (0 : Int) else 1) = (if k % c < c - 1 then 1 else 0) := by
    by_cases z : k % c < c - 1
    · rw [n0, if_pos z, if_pos z, if_pos z, if_neg (by omega), if_neg (by omega)]; exact ⟨rfl, rfl⟩
    · rw [n0, if_neg z, if_neg z, if_neg z, if_pos rfl, if_pos rfl]; exact ⟨rfl, rfl⟩
  have f1 : (if nb c r k 1 = -1 then 0 else G (nb c r k 1)) = (if k / c < r - 1 then G (k + c) else 0) ∧ (if nb c r k 1 = -1 then (0 : Int) else 1) = (if k / c < r - 1 then 1 else 0) := by
    by_cases z : k / c < r - 1
    · rw [n1, if_pos z, if_pos z, if_pos z, if_neg (by omega), if_neg (by omega)]; exact ⟨rfl, rfl⟩
    · rw [n1, if_neg z, if_neg z, if_neg z, if_pos rfl, if_pos rfl]; exact ⟨rfl, rfl⟩
  have f2 : (if nb c r k 2 = -1 then 0 else G (nb c r k 2)) = (if 0 < k % c then G (k - 1) else 0) ∧ (if nb c r k 2 = -1 then (0 : Int) else 1) = (if 0 < k % c then 1 else 0) := by
    by_cases z : 0 < k % c
    · rw [n2, if_pos z, if_pos z, if_pos z, if_neg (by omega), if_neg (by omega)]; exact ⟨rfl, rfl⟩
    · rw [n2, if_neg z, if_neg z, if_neg z, if_pos rfl, if_pos rfl]; exact ⟨rfl, rfl⟩
  have f3 : (if nb c r k 3 = -1 then 0 else G (nb c r k 3)) = (if 0 < k / c then G (k - c) else 0) ∧ (if nb c r k 3 = -1 then (0 : Int) else 1) = (if 0 < k / c then 1 else 0) := by
    by_cases z : 0 < k / c
    · have := hq.1 z
      rw [n3, if_pos z, if_pos z, if_pos z, if_neg (by omega), if_neg (by omega)]; exact ⟨rfl, rfl⟩
    · rw [n3, if_neg z, if_neg z, if_neg z, if_pos rfl, if_pos rfl]; exact ⟨rfl, rfl⟩
  have s0 : bsK c r G k 4 = 4 * G k + (0 + (if nb c r k 0 = -1 then 0 else G (nb c r k 0)) + (if nb c r k 1 = -1 then 0 else G (nb c r k 1)) + (if nb c r k 2 = -1 then 0 else G (nb c r k 2)) + (if nb c r k 3 = -1 then 0 else G (nb c r k 3))) := rfl
  have s1 : bnK c r k 4 = 4 + (0 + (if nb c r k 0 = -1 then 0 else 1) + (if nb c r k 1 = -1 then 0 else 1) + (if nb c r k 2 = -1 then 0 else 1) + (if nb c r k 3 = -1 then 0 else 1)) := rfl
  rw [s0, s1, f0.1, f0.2, f1.1, f1.2, f2.1, f2.2, f3.1, f3.2]
  unfold blS blN
  omega
theorem dX7_blurOn_0 : decode cX7_blurOn 0 = .ok (.iconst 0, 1) := by decide +kernel
theorem dX7_blurOn_1 : decode cX7_blurOn 1 = .ok (.istore_n 2, 1) := by decide +kernel
theorem dX7_blurOn_2 : decode cX7_blurOn 2 = .ok (.iload_n 2, 1) := by decide +kernel
theorem dX7_blurOn_3 : decode cX7_blurOn 3 = .ok (.aload_n 1, 1) := by decide +kernel
theorem dX7_blurOn_4 : decode cX7_blurOn 4 = .ok (.invokestatic 74, 3) := by decide +kernel
theorem dX7_blurOn_7 : decode cX7_blurOn 7 = .ok (.if_icmp .ge 91, 3) := by decide +kernel
theorem dX7_blurOn_10 : decode cX7_blurOn 10 = .ok (.iconst 4, 1) := by decide +kernel
theorem dX7_blurOn_11 : decode cX7_blurOn 11 = .ok (.aload_n 1, 1) := by decide +kernel
theorem dX7_blurOn_12 : decode cX7_blurOn 12 = .ok (.bipush 16, 2) := by decide +kernel
theorem dX7_blurOn_14 : decode cX7_blurOn 14 = .ok (.iload_n 2, 1) := by decide +kernel
theorem dX7_blurOn_15 : decode cX7_blurOn 15 = .ok (.iadd, 1) := by decide +kernel
theorem dX7_blurOn_16 : decode cX7_blurOn 16 = .ok (.iaload, 1) := by decide +kernel
theorem dX7_blurOn_17 : decode cX7_blurOn 17 = .ok (.imul, 1) := by decide +kernel
theorem dX7_blurOn_18 : decode cX7_blurOn 18 = .ok (.istore_n 3, 1) := by decide +kernel
theorem dX7_blurOn_19 : decode cX7_blurOn 19 = .ok (.iconst 4, 1) := by decide +kernel
theorem dX7_blurOn_20 : decode cX7_blurOn 20 = .ok (.istore 4, 2) := by decide +kernel
theorem dX7_blurOn_22 : decode cX7_blurOn 22 = .ok (.iconst 0, 1) := by decide +kernel
theorem dX7_blurOn_23 : decode cX7_blurOn 23 = .ok (.istore 5, 2) := by decide +kernel
theorem dX7_blurOn_25 : decode cX7_blurOn 25 = .ok (.iload 5, 2) := by decide +kernel
theorem dX7_blurOn_27 : decode cX7_blurOn 27 = .ok (.iconst 4, 1) := by decide +kernel
theorem dX7_blurOn_28 : decode cX7_blurOn 28 = .ok (.if_icmp .ge 54, 3) := by decide +kernel
theorem dX7_blurOn_31 : decode cX7_blurOn 31 = .ok (.aload_n 1, 1) := by decide +kernel
theorem dX7_blurOn_32 : decode cX7_blurOn 32 = .ok (.iload_n 2, 1) := by decide +kernel
theorem dX7_blurOn_33 : decode cX7_blurOn 33 = .ok (.iload 5, 2) := by decide +kernel
theorem dX7_blurOn_35 : decode cX7_blurOn 35 = .ok (.invokestatic 81, 3) := by decide +kernel
theorem dX7_blurOn_38 : decode cX7_blurOn 38 = .ok (.istore 6, 2) := by decide +kernel
theorem dX7_blurOn_40 : decode cX7_blurOn 40 = .ok (.iload_n 3, 1) := by decide +kernel
theorem dX7_blurOn_41 : decode cX7_blurOn 41 = .ok (.iload 6, 2) := by decide +kernel
theorem dX7_blurOn_43 : decode cX7_blurOn 43 = .ok (.iconst (-1), 1) := by decide +kernel
theorem dX7_blurOn_44 : decode cX7_blurOn 44 = .ok (.if_icmp .ne 7, 3) := by decide +kernel
theorem dX7_blurOn_47 : decode cX7_blurOn 47 = .ok (.iconst 0, 1) := by decide +kernel
theorem dX7_blurOn_48 : decode cX7_blurOn 48 = .ok (.goto 10, 3) := by decide +kernel
theorem dX7_blurOn_51 : decode cX7_blurOn 51 = .ok (.aload_n 1, 1) := by decide +kernel
theorem dX7_blurOn_52 : decode cX7_blurOn 52 = .ok (.bipush 16, 2) := by decide +kernel
theorem dX7_blurOn_54 : decode cX7_blurOn 54 = .ok (.iload 6, 2) := by decide +kernel
theorem dX7_blurOn_56 : decode cX7_blurOn 56 = .ok (.iadd, 1) := by decide +kernel
theorem dX7_blurOn_57 : decode cX7_blurOn 57 = .ok (.iaload, 1) := by decide +kernel
theorem dX7_blurOn_58 : decode cX7_blurOn 58 = .ok (.iadd, 1) := by decide +kernel
theorem dX7_blurOn_59 : decode cX7_blurOn 59 = .ok (.istore_n 3, 1) := by decide +kernel
theorem dX7_blurOn_60 : decode cX7_blurOn 60 = .ok (.iload 4, 2) := by decide +kernel
theorem dX7_blurOn_62 : decode cX7_blurOn 62 = .ok (.iload 6, 2) := by decide +kernel
theorem dX7_blurOn_64 : decode cX7_blurOn 64 = .ok (.iconst (-1), 1) := by decide +kernel
theorem dX7_blurOn_65 : decode cX7_blurOn 65 = .ok (.if_icmp .ne 7, 3) := by decide +kernel
theorem dX7_blurOn_68 : decode cX7_blurOn 68 = .ok (.iconst 0, 1) := by decide +kernel
theorem dX7_blurOn_69 : decode cX7_blurOn 69 = .ok (.goto 4, 3) := by decide +kernel
theorem dX7_blurOn_72 : decode cX7_blurOn 72 = .ok (.iconst 1, 1) := by decide +kernel
theorem dX7_blurOn_73 : decode cX7_blurOn 73 = .ok (.iadd, 1) := by decide +kernel
theorem dX7_blurOn_74 : decode cX7_blurOn 74 = .ok (.istore 4, 2) := by decide +kernel
theorem dX7_blurOn_76 : decode cX7_blurOn 76 = .ok (.iinc 5 1, 3) := by decide +kernel
theorem dX7_blurOn_79 : decode cX7_blurOn 79 = .ok (.goto (-54), 3) := by decide +kernel
theorem dX7_blurOn_82 : decode cX7_blurOn 82 = .ok (.aload_n 0, 1) := by decide +kernel
theorem dX7_blurOn_83 : decode cX7_blurOn 83 = .ok (.getfield 50, 3) := by decide +kernel
theorem dX7_blurOn_86 : decode cX7_blurOn 86 = .ok (.iload_n 2, 1) := by decide +kernel
theorem dX7_blurOn_87 : decode cX7_blurOn 87 = .ok (.iload_n 3, 1) := by decide +kernel
theorem dX7_blurOn_88 : decode cX7_blurOn 88 = .ok (.iload 4, 2) := by decide +kernel
theorem dX7_blurOn_90 : decode cX7_blurOn 90 = .ok (.idiv, 1) := by decide +kernel
theorem dX7_blurOn_91 : decode cX7_blurOn 91 = .ok (.iastore, 1) := by decide +kernel
theorem dX7_blurOn_92 : decode cX7_blurOn 92 = .ok (.iinc 2 1, 3) := by decide +kernel
theorem dX7_blurOn_95 : decode cX7_blurOn 95 = .ok (.goto (-93), 3) := by decide +kernel
theorem dX7_blurOn_98 : decode cX7_blurOn 98 = .ok (.aload_n 0, 1) := by decide +kernel
theorem dX7_blurOn_99 : decode cX7_blurOn 99 = .ok (.aload_n 1, 1) := by decide +kernel
theorem dX7_blurOn_100 : decode cX7_blurOn 100 = .ok (.invokevirtual 174, 3) := by decide +kernel
theorem dX7_blurOn_103 : decode cX7_blurOn 103 = .ok (.ireturn, 1) := by decide +kernel
theorem c_blurOn {n : Int} (hd : dim c r) (hG : ∀ i, 0 ≤ G i ∧ G i ≤ 99) : Cd l yX7_blurOn cX7_blurOn 7 (some .int) rmX7_blurOn [.ref 0, .ref 1] (mdM rf sz c r G T n le Hh li ac B I m Fi Co Br Wt mk gy sd rt lf wy sp ou) (some (iv (cntK (fun j => decide (blF c r G j ≠ G j)) (c * r).toNat))) (mdM rf sz c r (mapK (blF c r G) (c * r) G) T n le Hh li ac B I m Fi Co Br Wt mk (mapK (blF c r G) (c * r) gy) sd rt lf wy sp ou) := by
  refine Ct.of miX7_blurOn (Nat.le_of_ble_eq_true rfl) ?_
  intro X hXl hN ok
  refine AW.cast (L2 := [some (.ref 0), some (.ref 1), none, none, none, none, none]) ?_ rfl rfl rfl
  have hc := dim_cells hd
  have hGr : ∀ i, rg (G i) := fun i => by have := hG i; unfold rg; omega
  have loop : ∀ k : Nat, (k : Int) ≤ c * r → AW X 0 0 2 [some (.ref 0), some (.ref 1), some (iv k), none, none, none, none] [] (mdM rf sz c r G T n le Hh li ac B I m Fi Co Br Wt mk (mapK (blF c r G) k gy) sd rt lf wy sp ou) := by
    refine wfl (fun k : Nat => 145 - k) _ _ ?_
    intro k hk ih
    by_cases hk2 : (k : Int) < c * r
    · have hck : cel c r k := ⟨by omega, hk2⟩
      have h4 := bsK_4 (G := G) hd hck
      have hbl := blF_rg hG (c := c) (r := r) k (k % c) (k / c)
      have hup : up (mapK (blF c r G) k gy) k (blF c r G k) = mapK (blF c r G) ((k + 1 : Nat) : Int) gy := mapK_up (by omega)
      have inner : ∀ w : Nat, w ≤ 4 → ∀ u : Option Value, AW X 0 0 25 [some (.ref 0), some (.ref 1), some (iv k), some (iv (bsK c r G k w)), some (iv (bnK c r k w)), some (iv w), u] [] (mdM rf sz c r G T n le Hh li ac B I m Fi Co Br Wt mk (mapK (blF c r G) k gy) sd rt lf wy sp ou) := by
        refine wfl (fun w : Nat => 5 - w) _ _ ?_
        intro w hw ih2 u
        have hnr : -1 ≤ nb c r k w ∧ nb c r k w < c * r := nb_rg (w := w) hd hck
        have e1 : nb c r k w = -1 → bsK c r G k (w + 1) = bsK c r G k w + 0 ∧ bnK c r k (w + 1) = bnK c r k w + 0 := fun h => by unfold bsK bnK; simp only [sumK]; rw [if_pos h, if_pos h]; omega
        have e2 : nb c r k w ≠ -1 → bsK c r G k (w + 1) = bsK c r G k w + G (nb c r k w) ∧ bnK c r k (w + 1) = bnK c r k w + 1 := fun h => by unfold bsK bnK; simp only [sumK]; rw [if_neg h, if_neg h]; omega
        refine a_iload (pc := 25) ok dX7_blurOn_25 rfl ?_
        refine a_iconst (pc := 27) ok dX7_blurOn_27 ?_
        refine a_icmp_ge (pc := 28) (tgt := 82) ok dX7_blurOn_28 (by decide) (by first | omega | (unfold rg; omega) | (simp only [rg] at *; omega) | exact bz_rg _ | grind [rg]) (by first | omega | (unfold rg; omega) | (simp only [rg] at *; omega) | exact bz_rg _ | grind [rg]) (fun c28 => ?_) (fun c28 => ?_)
        · have ew : w = 4 := by omega
          rw [ew, h4.1, h4.2]
          refine a_aload_n (pc := 82) ok dX7_blurOn_82 rfl ?_
          refine a_getf (pc := 83) ok dX7_blurOn_83 fl7_50 rfl rfl ?_
          refine a_iload_n (pc := 86) ok dX7_blurOn_86 rfl ?_
          refine a_iload_n (pc := 87) ok dX7_blurOn_87 rfl ?_
          refine a_iload (pc := 88) ok dX7_blurOn_88 rfl ?_
          refine a_idiv (pc := 90) ok dX7_blurOn_90 (by first | omega | (unfold rg; omega) | (simp only [rg] at *; omega) | exact bz_rg _ | grind [rg]) (by first | omega | (unfold rg; omega) | (simp only [rg] at *; omega) | exact bz_rg _ | grind [rg]) ?_
          refine AW.cast (st2 := [iv (blF c r G k), iv k, .ref 9]) ?_ rfl rfl rfl
          refine a_iast (pc := 91) ok dX7_blurOn_91 rfl (by first | decide | omega) (by first | omega | (unfold rg; omega) | (simp only [rg] at *; omega) | exact bz_rg _ | grind [rg]) ?_
          refine a_iinc (pc := 92) ok dX7_blurOn_92 rfl rfl (by rw [hN]; decide) ?_
          refine a_goto (pc := 95) (tgt := 2) ok dX7_blurOn_95 (by decide) ?_
          exact AW.forget (AW.cast (ih (k + 1) (by omega) (by omega)) rfl rfl (congrArg (fun f => (mdM rf sz c r G T n le Hh li ac B I m Fi Co Br Wt mk (f) sd rt lf wy sp ou)) hup)) (by repeat' (first | exact trivial | refine ⟨rfl, ?_⟩))
        · refine a_aload_n (pc := 31) ok dX7_blurOn_31 rfl ?_
          refine a_iload_n (pc := 32) ok dX7_blurOn_32 rfl ?_
          refine a_iload (pc := 33) ok dX7_blurOn_33 rfl ?_
          refine a_callSp (pc := 35) ok [1] dX7_blurOn_35 mv7_81 miX7_next (c_next hd hck (by omega)) ⟨by decide, by decide, rfl, rfl, Nat.zero_le _, Nat.zero_le _⟩ rfl rfl (Nat.le_of_ble_eq_true rfl) rfl (by decide) ?_
          refine a_istore (pc := 38) ok dX7_blurOn_38 rfl (by rw [hN]; decide) ?_
          refine a_iload_n (pc := 40) ok dX7_blurOn_40 rfl ?_
          refine a_iload (pc := 41) ok dX7_blurOn_41 rfl ?_
          refine a_iconst (pc := 43) ok dX7_blurOn_43 ?_
          refine a_icmp_ne (pc := 44) (tgt := 51) ok dX7_blurOn_44 (by decide) (by first | omega | (unfold rg; omega) | (simp only [rg] at *; omega) | exact bz_rg _ | grind [rg]) (by first | omega | (unfold rg; omega) | (simp only [rg] at *; omega) | exact bz_rg _ | grind [rg]) (fun c44 => ?_) (fun c44 => ?_)
          · refine a_aload_n (pc := 51) ok dX7_blurOn_51 rfl ?_
            refine a_bipush (pc := 52) ok dX7_blurOn_52 (by decide) ?_
            refine a_iload (pc := 54) ok dX7_blurOn_54 rfl ?_
            refine a_iadd (pc := 56) ok dX7_blurOn_56 ?_
            refine a_rldG (pc := 57) ok dX7_blurOn_57 rfl rfl (by first | omega | (unfold rg; omega) | (simp only [rg] at *; omega) | exact bz_rg _ | grind [rg]) ?_
            refine a_iadd (pc := 58) ok dX7_blurOn_58 ?_
            refine a_istore_n (pc := 59) ok dX7_blurOn_59 rfl (by rw [hN]; decide) ?_
            refine a_iload (pc := 60) ok dX7_blurOn_60 rfl ?_
            refine a_iload (pc := 62) ok dX7_blurOn_62 rfl ?_
            refine a_iconst (pc := 64) ok dX7_blurOn_64 ?_
            refine a_icmp_ne (pc := 65) (tgt := 72) ok dX7_blurOn_65 (by decide) (by first | omega | (unfold rg; omega) | (simp only [rg] at *; omega) | exact bz_rg _ | grind [rg]) (by first | omega | (unfold rg; omega) | (simp only [rg] at *; omega) | exact bz_rg _ | grind [rg]) (fun c65 => ?_) (fun c65 => ?_)
            · refine a_iconst (pc := 72) ok dX7_blurOn_72 ?_
              refine a_iadd (pc := 73) ok dX7_blurOn_73 ?_
              refine a_istore (pc := 74) ok dX7_blurOn_74 rfl (by rw [hN]; decide) ?_
              refine a_iinc (pc := 76) ok dX7_blurOn_76 rfl rfl (by rw [hN]; decide) ?_
              refine a_goto (pc := 79) (tgt := 25) ok dX7_blurOn_79 (by decide) ?_
              exact AW.cast (ih2 (w + 1) (by omega) (by omega) _) (by rw [(e2 (by omega)).1, (e2 (by omega)).2]; rfl) rfl rfl
            · omega
          · refine a_iconst (pc := 47) ok dX7_blurOn_47 ?_
            refine a_goto (pc := 48) (tgt := 58) ok dX7_blurOn_48 (by decide) ?_
            refine a_iadd (pc := 58) ok dX7_blurOn_58 ?_
            refine a_istore_n (pc := 59) ok dX7_blurOn_59 rfl (by rw [hN]; decide) ?_
            refine a_iload (pc := 60) ok dX7_blurOn_60 rfl ?_
            refine a_iload (pc := 62) ok dX7_blurOn_62 rfl ?_
            refine a_iconst (pc := 64) ok dX7_blurOn_64 ?_
            refine a_icmp_ne (pc := 65) (tgt := 72) ok dX7_blurOn_65 (by decide) (by first | omega | (unfold rg; omega) | (simp only [rg] at *; omega) | exact bz_rg _ | grind [rg]) (by first | omega | (unfold rg; omega) | (simp only [rg] at *; omega) | exact bz_rg _ | grind [rg]) (fun c65 => ?_) (fun c65 => ?_)
            · omega
            · refine a_iconst (pc := 68) ok dX7_blurOn_68 ?_
              refine a_goto (pc := 69) (tgt := 73) ok dX7_blurOn_69 (by decide) ?_
              refine a_iadd (pc := 73) ok dX7_blurOn_73 ?_
              refine a_istore (pc := 74) ok dX7_blurOn_74 rfl (by rw [hN]; decide) ?_
              refine a_iinc (pc := 76) ok dX7_blurOn_76 rfl rfl (by rw [hN]; decide) ?_
              refine a_goto (pc := 79) (tgt := 25) ok dX7_blurOn_79 (by decide) ?_
              exact AW.cast (ih2 (w + 1) (by omega) (by omega) _) (by rw [(e1 (by omega)).1, (e1 (by omega)).2]; rfl) rfl rfl
      refine a_iload_n (pc := 2) ok dX7_blurOn_2 rfl ?_
      refine a_aload_n (pc := 3) ok dX7_blurOn_3 rfl ?_
      refine a_callSp (pc := 4) ok [1] dX7_blurOn_4 mv7_74 miX7_cells (c_cells) ⟨by decide, by decide, rfl, rfl, Nat.zero_le _, Nat.zero_le _⟩ rfl rfl (Nat.le_of_ble_eq_true rfl) rfl (by decide) ?_
      refine a_icmp_ge (pc := 7) (tgt := 98) ok dX7_blurOn_7 (by decide) (by first | omega | (unfold rg; omega) | (simp only [rg] at *; omega) | exact bz_rg _ | grind [rg]) (by first | omega | (unfold rg; omega) | (simp only [rg] at *; omega) | exact bz_rg _ | grind [rg]) (fun c7 => ?_) (fun c7 => ?_)
      · exfalso; first | omega | grind
      · refine a_iconst (pc := 10) ok dX7_blurOn_10 ?_
        refine a_aload_n (pc := 11) ok dX7_blurOn_11 rfl ?_
        refine a_bipush (pc := 12) ok dX7_blurOn_12 (by decide) ?_
        refine a_iload_n (pc := 14) ok dX7_blurOn_14 rfl ?_
        refine a_iadd (pc := 15) ok dX7_blurOn_15 ?_
        refine a_rldG (pc := 16) ok dX7_blurOn_16 rfl rfl (by first | omega | (unfold rg; omega) | (simp only [rg] at *; omega) | exact bz_rg _ | grind [rg]) ?_
        refine a_imul (pc := 17) ok dX7_blurOn_17 ?_
        refine a_istore_n (pc := 18) ok dX7_blurOn_18 rfl (by rw [hN]; decide) ?_
        refine a_iconst (pc := 19) ok dX7_blurOn_19 ?_
        refine a_istore (pc := 20) ok dX7_blurOn_20 rfl (by rw [hN]; decide) ?_
        refine a_iconst (pc := 22) ok dX7_blurOn_22 ?_
        refine a_istore (pc := 23) ok dX7_blurOn_23 rfl (by rw [hN]; decide) ?_
        exact AW.cast (inner 0 (by omega) none) (by rw [show bsK c r G k 0 = 4 * G k from Int.add_zero _, show bnK c r k 0 = 4 from rfl]; rfl) rfl rfl
    · have ek : (k : Int) = c * r := by omega
      refine a_iload_n (pc := 2) ok dX7_blurOn_2 rfl ?_
      refine a_aload_n (pc := 3) ok dX7_blurOn_3 rfl ?_
      refine a_callSp (pc := 4) ok [1] dX7_blurOn_4 mv7_74 miX7_cells (c_cells) ⟨by decide, by decide, rfl, rfl, Nat.zero_le _, Nat.zero_le _⟩ rfl rfl (Nat.le_of_ble_eq_true rfl) rfl (by decide) ?_
      refine a_icmp_ge (pc := 7) (tgt := 98) ok dX7_blurOn_7 (by decide) (by first | omega | (unfold rg; omega) | (simp only [rg] at *; omega) | exact bz_rg _ | grind [rg]) (by first | omega | (unfold rg; omega) | (simp only [rg] at *; omega) | exact bz_rg _ | grind [rg]) (fun c7 => ?_) (fun c7 => ?_)
      · rw [ek]
        refine a_aload_n (pc := 98) ok dX7_blurOn_98 rfl ?_
        refine a_aload_n (pc := 99) ok dX7_blurOn_99 rfl ?_
        refine x_callVi (pc := 100) ok [0, 1, 2, 3, 4, 5, 6, 7, 8, 9, 10, 11, 12, 13, 14, 15, 16] 10 dX7_blurOn_100 mv7_174 miX7_takeOver (c_takeOverF hd hGr (fun j hj => by have := blF_99 hG (c := c) (r := r) j; unfold rg; omega)) ⟨by decide, by decide, rfl, rfl, Nat.zero_le _, Nat.zero_le _⟩ rfl rfl (Nat.le_of_ble_eq_true rfl) rfl rfl (by decide) rfl rfl rfl ?_
        exact a_iret (pc := 103) ok dX7_blurOn_103 (⟨rfl, rfl⟩)
      · exfalso; first | omega | grind
  refine a_iconst (pc := 0) ok dX7_blurOn_0 ?_
  refine a_istore_n (pc := 1) ok dX7_blurOn_1 rfl (by rw [hN]; decide) ?_
  exact AW.cast (loop 0 (by omega)) rfl rfl (congrArg (fun f => (mdM rf sz c r G T n le Hh li ac B I m Fi Co Br Wt mk (f) sd rt lf wy sp ou)) mapK_0.symm)
theorem dX7_spreadOn_0 : decode cX7_spreadOn 0 = .ok (.iconst 0, 1) := by decide +kernel
theorem dX7_spreadOn_1 : decode cX7_spreadOn 1 = .ok (.istore_n 3, 1) := by decide +kernel
theorem dX7_spreadOn_2 : decode cX7_spreadOn 2 = .ok (.iload_n 3, 1) := by decide +kernel
theorem dX7_spreadOn_3 : decode cX7_spreadOn 3 = .ok (.aload_n 1, 1) := by decide +kernel
theorem dX7_spreadOn_4 : decode cX7_spreadOn 4 = .ok (.invokestatic 74, 3) := by decide +kernel
theorem dX7_spreadOn_7 : decode cX7_spreadOn 7 = .ok (.if_icmp .ge 61, 3) := by decide +kernel
theorem dX7_spreadOn_10 : decode cX7_spreadOn 10 = .ok (.aload_n 1, 1) := by decide +kernel
theorem dX7_spreadOn_11 : decode cX7_spreadOn 11 = .ok (.bipush 16, 2) := by decide +kernel
theorem dX7_spreadOn_13 : decode cX7_spreadOn 13 = .ok (.iload_n 3, 1) := by decide +kernel
theorem dX7_spreadOn_14 : decode cX7_spreadOn 14 = .ok (.iadd, 1) := by decide +kernel
theorem dX7_spreadOn_15 : decode cX7_spreadOn 15 = .ok (.iaload, 1) := by decide +kernel
theorem dX7_spreadOn_16 : decode cX7_spreadOn 16 = .ok (.istore 4, 2) := by decide +kernel
theorem dX7_spreadOn_18 : decode cX7_spreadOn 18 = .ok (.aload_n 0, 1) := by decide +kernel
theorem dX7_spreadOn_19 : decode cX7_spreadOn 19 = .ok (.getfield 50, 3) := by decide +kernel
theorem dX7_spreadOn_22 : decode cX7_spreadOn 22 = .ok (.iload_n 3, 1) := by decide +kernel
theorem dX7_spreadOn_23 : decode cX7_spreadOn 23 = .ok (.iload 4, 2) := by decide +kernel
theorem dX7_spreadOn_25 : decode cX7_spreadOn 25 = .ok (.iload_n 2, 1) := by decide +kernel
theorem dX7_spreadOn_26 : decode cX7_spreadOn 26 = .ok (.if_icmp .ge 7, 3) := by decide +kernel
theorem dX7_spreadOn_29 : decode cX7_spreadOn 29 = .ok (.iconst 0, 1) := by decide +kernel
theorem dX7_spreadOn_30 : decode cX7_spreadOn 30 = .ok (.goto 31, 3) := by decide +kernel
theorem dX7_spreadOn_33 : decode cX7_spreadOn 33 = .ok (.iload 4, 2) := by decide +kernel
theorem dX7_spreadOn_35 : decode cX7_spreadOn 35 = .ok (.bipush 99, 2) := by decide +kernel
theorem dX7_spreadOn_37 : decode cX7_spreadOn 37 = .ok (.iload_n 2, 1) := by decide +kernel
theorem dX7_spreadOn_38 : decode cX7_spreadOn 38 = .ok (.isub, 1) := by decide +kernel
theorem dX7_spreadOn_39 : decode cX7_spreadOn 39 = .ok (.if_icmp .le 8, 3) := by decide +kernel
theorem dX7_spreadOn_42 : decode cX7_spreadOn 42 = .ok (.bipush 99, 2) := by decide +kernel
theorem dX7_spreadOn_44 : decode cX7_spreadOn 44 = .ok (.goto 17, 3) := by decide +kernel
theorem dX7_spreadOn_47 : decode cX7_spreadOn 47 = .ok (.iload 4, 2) := by decide +kernel
theorem dX7_spreadOn_49 : decode cX7_spreadOn 49 = .ok (.iload_n 2, 1) := by decide +kernel
theorem dX7_spreadOn_50 : decode cX7_spreadOn 50 = .ok (.isub, 1) := by decide +kernel
theorem dX7_spreadOn_51 : decode cX7_spreadOn 51 = .ok (.bipush 99, 2) := by decide +kernel
theorem dX7_spreadOn_53 : decode cX7_spreadOn 53 = .ok (.imul, 1) := by decide +kernel
theorem dX7_spreadOn_54 : decode cX7_spreadOn 54 = .ok (.bipush 99, 2) := by decide +kernel
theorem dX7_spreadOn_56 : decode cX7_spreadOn 56 = .ok (.iconst 2, 1) := by decide +kernel
theorem dX7_spreadOn_57 : decode cX7_spreadOn 57 = .ok (.iload_n 2, 1) := by decide +kernel
theorem dX7_spreadOn_58 : decode cX7_spreadOn 58 = .ok (.imul, 1) := by decide +kernel
theorem dX7_spreadOn_59 : decode cX7_spreadOn 59 = .ok (.isub, 1) := by decide +kernel
theorem dX7_spreadOn_60 : decode cX7_spreadOn 60 = .ok (.idiv, 1) := by decide +kernel
theorem dX7_spreadOn_61 : decode cX7_spreadOn 61 = .ok (.iastore, 1) := by decide +kernel
theorem dX7_spreadOn_62 : decode cX7_spreadOn 62 = .ok (.iinc 3 1, 3) := by decide +kernel
theorem dX7_spreadOn_65 : decode cX7_spreadOn 65 = .ok (.goto (-63), 3) := by decide +kernel
theorem dX7_spreadOn_68 : decode cX7_spreadOn 68 = .ok (.aload_n 0, 1) := by decide +kernel
theorem dX7_spreadOn_69 : decode cX7_spreadOn 69 = .ok (.aload_n 1, 1) := by decide +kernel
theorem dX7_spreadOn_70 : decode cX7_spreadOn 70 = .ok (.invokevirtual 174, 3) := by decide +kernel
theorem dX7_spreadOn_73 : decode cX7_spreadOn 73 = .ok (.ireturn, 1) := by decide +kernel
theorem c_spreadOn {n v : Int} (hd : dim c r) (hG : ∀ i, 0 ≤ G i ∧ G i ≤ 99) (hv : 1 ≤ v ∧ v ≤ 49) : Cd l yX7_spreadOn cX7_spreadOn 5 (some .int) rmX7_spreadOn [.ref 0, .ref 1, iv v] (mdM rf sz c r G T n le Hh li ac B I m Fi Co Br Wt mk gy sd rt lf wy sp ou) (some (iv (cntK (fun j => decide (spF v (G j) ≠ G j)) (c * r).toNat))) (mdM rf sz c r (mapK (fun j => spF v (G j)) (c * r) G) T n le Hh li ac B I m Fi Co Br Wt mk (mapK (fun j => spF v (G j)) (c * r) gy) sd rt lf wy sp ou) := by
  refine Ct.of miX7_spreadOn (Nat.le_of_ble_eq_true rfl) ?_
  intro X hXl hN ok
  refine AW.cast (L2 := [some (.ref 0), some (.ref 1), some (iv v), none, none]) ?_ rfl rfl rfl
  have hc := dim_cells hd
  have hGr : ∀ i, rg (G i) := fun i => by have := hG i; unfold rg; omega
  have loop : ∀ k : Nat, (k : Int) ≤ c * r → ∀ u : Option Value, AW X 0 0 2 [some (.ref 0), some (.ref 1), some (iv v), some (iv k), u] [] (mdM rf sz c r G T n le Hh li ac B I m Fi Co Br Wt mk (mapK (fun j => spF v (G j)) k gy) sd rt lf wy sp ou) := by
    refine wfl (fun k : Nat => 145 - k) _ _ ?_
    intro k hk ih u
    have hGk := hG k
    have hup : up (mapK (fun j => spF v (G j)) k gy) k (spF v (G k)) = mapK (fun j => spF v (G j)) ((k + 1 : Nat) : Int) gy := mapK_up (f := fun j => spF v (G j)) (by omega)
    have fin : ∀ z : Int, z = spF v (G k) → (k : Int) < c * r → AW X 0 0 61 [some (.ref 0), some (.ref 1), some (iv v), some (iv k), some (iv (G k))] [iv z, iv k, .ref 9] (mdM rf sz c r G T n le Hh li ac B I m Fi Co Br Wt mk (mapK (fun j => spF v (G j)) k gy) sd rt lf wy sp ou) := by
      intro z ez hk2
      subst ez
      refine a_iast (pc := 61) ok dX7_spreadOn_61 rfl (by first | decide | omega) (by first | omega | (unfold rg; omega) | (simp only [rg] at *; omega) | exact bz_rg _ | grind [rg]) ?_
      refine a_iinc (pc := 62) ok dX7_spreadOn_62 rfl rfl (by rw [hN]; decide) ?_
      refine a_goto (pc := 65) (tgt := 2) ok dX7_spreadOn_65 (by decide) ?_
      exact AW.cast (ih (k + 1) (by omega) (by omega) _) rfl rfl (congrArg (fun f => (mdM rf sz c r G T n le Hh li ac B I m Fi Co Br Wt mk (f) sd rt lf wy sp ou)) hup)
    refine a_iload_n (pc := 2) ok dX7_spreadOn_2 rfl ?_
    refine a_aload_n (pc := 3) ok dX7_spreadOn_3 rfl ?_
    refine a_callSp (pc := 4) ok [1] dX7_spreadOn_4 mv7_74 miX7_cells (c_cells) ⟨by decide, by decide, rfl, rfl, Nat.zero_le _, Nat.zero_le _⟩ rfl rfl (Nat.le_of_ble_eq_true rfl) rfl (by decide) ?_
    refine a_icmp_ge (pc := 7) (tgt := 68) ok dX7_spreadOn_7 (by decide) (by first | omega | (unfold rg; omega) | (simp only [rg] at *; omega) | exact bz_rg _ | grind [rg]) (by first | omega | (unfold rg; omega) | (simp only [rg] at *; omega) | exact bz_rg _ | grind [rg]) (fun c7 => ?_) (fun c7 => ?_)
    · have ek : (k : Int) = c * r := by omega
      rw [ek]
      refine a_aload_n (pc := 68) ok dX7_spreadOn_68 rfl ?_
      refine a_aload_n (pc := 69) ok dX7_spreadOn_69 rfl ?_
      refine x_callVi (pc := 70) ok [0, 1, 2, 3, 4, 5, 6, 7, 8, 9, 10, 11, 12, 13, 14, 15, 16] 10 dX7_spreadOn_70 mv7_174 miX7_takeOver (c_takeOverF hd hGr (fun j hj => by have := spF_rg (v := v) (g := G j) hv; unfold rg; omega)) ⟨by decide, by decide, rfl, rfl, Nat.zero_le _, Nat.zero_le _⟩ rfl rfl (Nat.le_of_ble_eq_true rfl) rfl rfl (by decide) rfl rfl rfl ?_
      exact a_iret (pc := 73) ok dX7_spreadOn_73 (⟨rfl, rfl⟩)
    · refine a_aload_n (pc := 10) ok dX7_spreadOn_10 rfl ?_
      refine a_bipush (pc := 11) ok dX7_spreadOn_11 (by decide) ?_
      refine a_iload_n (pc := 13) ok dX7_spreadOn_13 rfl ?_
      refine a_iadd (pc := 14) ok dX7_spreadOn_14 ?_
      refine a_rldG (pc := 15) ok dX7_spreadOn_15 rfl rfl (by first | omega | (unfold rg; omega) | (simp only [rg] at *; omega) | exact bz_rg _ | grind [rg]) ?_
      refine a_istore (pc := 16) ok dX7_spreadOn_16 rfl (by rw [hN]; decide) ?_
      refine a_aload_n (pc := 18) ok dX7_spreadOn_18 rfl ?_
      refine a_getf (pc := 19) ok dX7_spreadOn_19 fl7_50 rfl rfl ?_
      refine a_iload_n (pc := 22) ok dX7_spreadOn_22 rfl ?_
      refine a_iload (pc := 23) ok dX7_spreadOn_23 rfl ?_
      refine a_iload_n (pc := 25) ok dX7_spreadOn_25 rfl ?_
      refine a_icmp_ge (pc := 26) (tgt := 33) ok dX7_spreadOn_26 (by decide) (by first | omega | (unfold rg; omega) | (simp only [rg] at *; omega) | exact bz_rg _ | grind [rg]) (by first | omega | (unfold rg; omega) | (simp only [rg] at *; omega) | exact bz_rg _ | grind [rg]) (fun c26 => ?_) (fun c26 => ?_)
      · refine a_iload (pc := 33) ok dX7_spreadOn_33 rfl ?_
        refine a_bipush (pc := 35) ok dX7_spreadOn_35 (by decide) ?_
        refine a_iload_n (pc := 37) ok dX7_spreadOn_37 rfl ?_
        refine a_isub (pc := 38) ok dX7_spreadOn_38 ?_
        refine a_icmp_le (pc := 39) (tgt := 47) ok dX7_spreadOn_39 (by decide) (by first | omega | (unfold rg; omega) | (simp only [rg] at *; omega) | exact bz_rg _ | grind [rg]) (by first | omega | (unfold rg; omega) | (simp only [rg] at *; omega) | exact bz_rg _ | grind [rg]) (fun c39 => ?_) (fun c39 => ?_)
        · refine a_iload (pc := 47) ok dX7_spreadOn_47 rfl ?_
          refine a_iload_n (pc := 49) ok dX7_spreadOn_49 rfl ?_
          refine a_isub (pc := 50) ok dX7_spreadOn_50 ?_
          refine a_bipush (pc := 51) ok dX7_spreadOn_51 (by decide) ?_
          refine a_imul (pc := 53) ok dX7_spreadOn_53 ?_
          refine a_bipush (pc := 54) ok dX7_spreadOn_54 (by decide) ?_
          refine a_iconst (pc := 56) ok dX7_spreadOn_56 ?_
          refine a_iload_n (pc := 57) ok dX7_spreadOn_57 rfl ?_
          refine a_imul (pc := 58) ok dX7_spreadOn_58 ?_
          refine a_isub (pc := 59) ok dX7_spreadOn_59 ?_
          refine a_idiv (pc := 60) ok dX7_spreadOn_60 (by first | omega | exact ⟨Int.mul_nonneg (by omega) (by omega), by omega⟩) (by first | omega | exact ⟨Int.mul_nonneg (by omega) (by omega), by omega⟩) ?_
          exact fin _ (by unfold spF; rw [if_neg (by omega), if_neg (by omega)]) (by omega)
        · refine a_bipush (pc := 42) ok dX7_spreadOn_42 (by decide) ?_
          refine a_goto (pc := 44) (tgt := 61) ok dX7_spreadOn_44 (by decide) ?_
          exact fin 99 (by unfold spF; rw [if_neg (by omega), if_pos (by omega)]) (by omega)
      · refine a_iconst (pc := 29) ok dX7_spreadOn_29 ?_
        refine a_goto (pc := 30) (tgt := 61) ok dX7_spreadOn_30 (by decide) ?_
        exact fin 0 (by unfold spF; rw [if_pos (by omega)]) (by omega)
  refine a_iconst (pc := 0) ok dX7_spreadOn_0 ?_
  refine a_istore_n (pc := 1) ok dX7_spreadOn_1 rfl (by rw [hN]; decide) ?_
  exact AW.cast (loop 0 (by omega) none) rfl rfl (congrArg (fun f => (mdM rf sz c r G T n le Hh li ac B I m Fi Co Br Wt mk (f) sd rt lf wy sp ou)) mapK_0.symm)
theorem dX7_noiseOn_0 : decode cX7_noiseOn 0 = .ok (.lload_n 2, 1) := by decide +kernel
theorem dX7_noiseOn_1 : decode cX7_noiseOn 1 = .ok (.lstore 5, 2) := by decide +kernel
theorem dX7_noiseOn_3 : decode cX7_noiseOn 3 = .ok (.iconst 0, 1) := by decide +kernel
theorem dX7_noiseOn_4 : decode cX7_noiseOn 4 = .ok (.istore 7, 2) := by decide +kernel
theorem dX7_noiseOn_6 : decode cX7_noiseOn 6 = .ok (.iload 7, 2) := by decide +kernel
theorem dX7_noiseOn_8 : decode cX7_noiseOn 8 = .ok (.aload_n 1, 1) := by decide +kernel
theorem dX7_noiseOn_9 : decode cX7_noiseOn 9 = .ok (.invokestatic 74, 3) := by decide +kernel
theorem dX7_noiseOn_12 : decode cX7_noiseOn 12 = .ok (.if_icmp .ge 55, 3) := by decide +kernel
theorem dX7_noiseOn_15 : decode cX7_noiseOn 15 = .ok (.lload 5, 2) := by decide +kernel
theorem dX7_noiseOn_17 : decode cX7_noiseOn 17 = .ok (.ldc2_w 180, 3) := by decide +kernel
theorem dX7_noiseOn_20 : decode cX7_noiseOn 20 = .ok (.lmul, 1) := by decide +kernel
theorem dX7_noiseOn_21 : decode cX7_noiseOn 21 = .ok (.ldc2_w 182, 3) := by decide +kernel
theorem dX7_noiseOn_24 : decode cX7_noiseOn 24 = .ok (.ladd, 1) := by decide +kernel
theorem dX7_noiseOn_25 : decode cX7_noiseOn 25 = .ok (.lstore 5, 2) := by decide +kernel
theorem dX7_noiseOn_27 : decode cX7_noiseOn 27 = .ok (.aload_n 0, 1) := by decide +kernel
theorem dX7_noiseOn_28 : decode cX7_noiseOn 28 = .ok (.getfield 50, 3) := by decide +kernel
theorem dX7_noiseOn_31 : decode cX7_noiseOn 31 = .ok (.iload 7, 2) := by decide +kernel
theorem dX7_noiseOn_33 : decode cX7_noiseOn 33 = .ok (.aload_n 1, 1) := by decide +kernel
theorem dX7_noiseOn_34 : decode cX7_noiseOn 34 = .ok (.bipush 16, 2) := by decide +kernel
theorem dX7_noiseOn_36 : decode cX7_noiseOn 36 = .ok (.iload 7, 2) := by decide +kernel
theorem dX7_noiseOn_38 : decode cX7_noiseOn 38 = .ok (.iadd, 1) := by decide +kernel
theorem dX7_noiseOn_39 : decode cX7_noiseOn 39 = .ok (.iaload, 1) := by decide +kernel
theorem dX7_noiseOn_40 : decode cX7_noiseOn 40 = .ok (.lload 5, 2) := by decide +kernel
theorem dX7_noiseOn_42 : decode cX7_noiseOn 42 = .ok (.bipush 33, 2) := by decide +kernel
theorem dX7_noiseOn_44 : decode cX7_noiseOn 44 = .ok (.lushr, 1) := by decide +kernel
theorem dX7_noiseOn_45 : decode cX7_noiseOn 45 = .ok (.l2i, 1) := by decide +kernel
theorem dX7_noiseOn_46 : decode cX7_noiseOn 46 = .ok (.iconst 2, 1) := by decide +kernel
theorem dX7_noiseOn_47 : decode cX7_noiseOn 47 = .ok (.iload 4, 2) := by decide +kernel
theorem dX7_noiseOn_49 : decode cX7_noiseOn 49 = .ok (.imul, 1) := by decide +kernel
theorem dX7_noiseOn_50 : decode cX7_noiseOn 50 = .ok (.iconst 1, 1) := by decide +kernel
theorem dX7_noiseOn_51 : decode cX7_noiseOn 51 = .ok (.iadd, 1) := by decide +kernel
theorem dX7_noiseOn_52 : decode cX7_noiseOn 52 = .ok (.irem, 1) := by decide +kernel
theorem dX7_noiseOn_53 : decode cX7_noiseOn 53 = .ok (.iadd, 1) := by decide +kernel
theorem dX7_noiseOn_54 : decode cX7_noiseOn 54 = .ok (.iload 4, 2) := by decide +kernel
theorem dX7_noiseOn_56 : decode cX7_noiseOn 56 = .ok (.isub, 1) := by decide +kernel
theorem dX7_noiseOn_57 : decode cX7_noiseOn 57 = .ok (.invokestatic 184, 3) := by decide +kernel
theorem dX7_noiseOn_60 : decode cX7_noiseOn 60 = .ok (.iastore, 1) := by decide +kernel
theorem dX7_noiseOn_61 : decode cX7_noiseOn 61 = .ok (.iinc 7 1, 3) := by decide +kernel
theorem dX7_noiseOn_64 : decode cX7_noiseOn 64 = .ok (.goto (-58), 3) := by decide +kernel
theorem dX7_noiseOn_67 : decode cX7_noiseOn 67 = .ok (.aload_n 0, 1) := by decide +kernel
theorem dX7_noiseOn_68 : decode cX7_noiseOn 68 = .ok (.aload_n 1, 1) := by decide +kernel
theorem dX7_noiseOn_69 : decode cX7_noiseOn 69 = .ok (.invokevirtual 174, 3) := by decide +kernel
theorem dX7_noiseOn_72 : decode cX7_noiseOn 72 = .ok (.ireturn, 1) := by decide +kernel
theorem c_noiseOn {n v x : Int} (hd : dim c r) (hG : ∀ i, 0 ≤ G i ∧ G i ≤ 99) (hv : 1 ≤ v ∧ v ≤ 50) : Cd l yX7_noiseOn cX7_noiseOn 8 (some .int) rmX7_noiseOn [.ref 0, .ref 1, jv x, iv v] (mdM rf sz c r G T n le Hh li ac B I m Fi Co Br Wt mk gy sd rt lf wy sp ou) (some (iv (cntK (fun j => decide (noF G x v j ≠ G j)) (c * r).toNat))) (mdM rf sz c r (mapK (noF G x v) (c * r) G) T n le Hh li ac B I m Fi Co Br Wt mk (mapK (noF G x v) (c * r) gy) sd rt lf wy sp ou) := by
  refine Ct.of miX7_noiseOn (Nat.le_of_ble_eq_true rfl) ?_
  intro X hXl hN ok
  refine AW.cast (L2 := [some (.ref 0), some (.ref 1), some (jv x), none, some (iv v), none, none, none]) ?_ rfl rfl rfl
  have hc := dim_cells hd
  have hGr : ∀ i, rg (G i) := fun i => by have := hG i; unfold rg; omega
  have hno2 : ∀ j, 0 ≤ noF G x v j ∧ noF G x v j ≤ 99 := fun j => by unfold noF; omega
  have loop : ∀ k : Nat, (k : Int) ≤ c * r → AW X 0 0 6 [some (.ref 0), some (.ref 1), some (jv x), none, some (iv v), some (jv (lcgK x k)), none, some (iv k)] [] (mdM rf sz c r G T n le Hh li ac B I m Fi Co Br Wt mk (mapK (noF G x v) k gy) sd rt lf wy sp ou) := by
    refine wfl (fun k : Nat => 145 - k) _ _ ?_
    intro k hk ih
    have hGk := hG k
    have hs := sh33_rg (lcgK x (k + 1))
    have hm : 0 ≤ sh33 (lcgK x (k + 1)) % (2 * v + 1) ∧ sh33 (lcgK x (k + 1)) % (2 * v + 1) < 2 * v + 1 := ⟨Int.emod_nonneg _ (by omega), Int.emod_lt_of_pos _ (by omega)⟩
    have hno : noF G x v k = max 0 (min 99 (G k + sh33 (lcgK x (k + 1)) % (2 * v + 1) - v)) := by simp only [noF, Int.toNat_natCast]
    have hup : up (mapK (noF G x v) k gy) k (noF G x v k) = mapK (noF G x v) ((k + 1 : Nat) : Int) gy := mapK_up (by omega)
    refine a_iload (pc := 6) ok dX7_noiseOn_6 rfl ?_
    refine a_aload_n (pc := 8) ok dX7_noiseOn_8 rfl ?_
    refine a_callSp (pc := 9) ok [1] dX7_noiseOn_9 mv7_74 miX7_cells (c_cells) ⟨by decide, by decide, rfl, rfl, Nat.zero_le _, Nat.zero_le _⟩ rfl rfl (Nat.le_of_ble_eq_true rfl) rfl (by decide) ?_
    refine a_icmp_ge (pc := 12) (tgt := 67) ok dX7_noiseOn_12 (by decide) (by first | omega | (unfold rg; omega) | (simp only [rg] at *; omega) | exact bz_rg _ | grind [rg]) (by first | omega | (unfold rg; omega) | (simp only [rg] at *; omega) | exact bz_rg _ | grind [rg]) (fun c12 => ?_) (fun c12 => ?_)
    · have ek : (k : Int) = c * r := by omega
      rw [ek]
      refine a_aload_n (pc := 67) ok dX7_noiseOn_67 rfl ?_
      refine a_aload_n (pc := 68) ok dX7_noiseOn_68 rfl ?_
      refine x_callVi (pc := 69) ok [0, 1, 2, 3, 4, 5, 6, 7, 8, 9, 10, 11, 12, 13, 14, 15, 16] 10 dX7_noiseOn_69 mv7_174 miX7_takeOver (c_takeOverF hd hGr (fun j hj => by have := hno2 j; unfold rg; omega)) ⟨by decide, by decide, rfl, rfl, Nat.zero_le _, Nat.zero_le _⟩ rfl rfl (Nat.le_of_ble_eq_true rfl) rfl rfl (by decide) rfl rfl rfl ?_
      exact a_iret (pc := 72) ok dX7_noiseOn_72 (⟨rfl, rfl⟩)
    · refine a_lload (pc := 15) ok dX7_noiseOn_15 rfl ?_
      refine a_ldc2 (pc := 17) (z := 6364136223846793005) (v := Int64.ofInt 6364136223846793005) ok dX7_noiseOn_17 (ug6 236 (by decide +kernel) rfl) rfl ?_
      refine a_lmul (pc := 20) ok dX7_noiseOn_20 ?_
      refine a_ldc2 (pc := 21) (z := 1442695040888963407) (v := Int64.ofInt 1442695040888963407) ok dX7_noiseOn_21 (ug6 237 (by decide +kernel) rfl) rfl ?_
      refine a_ladd (pc := 24) ok dX7_noiseOn_24 ?_
      refine AW.cast (st2 := [jv (lcgK x (k + 1))]) ?_ rfl rfl rfl
      refine a_lstore (pc := 25) ok dX7_noiseOn_25 rfl (by rw [hN]; decide) ?_
      refine a_aload_n (pc := 27) ok dX7_noiseOn_27 rfl ?_
      refine a_getf (pc := 28) ok dX7_noiseOn_28 fl7_50 rfl rfl ?_
      refine a_iload (pc := 31) ok dX7_noiseOn_31 rfl ?_
      refine a_aload_n (pc := 33) ok dX7_noiseOn_33 rfl ?_
      refine a_bipush (pc := 34) ok dX7_noiseOn_34 (by decide) ?_
      refine a_iload (pc := 36) ok dX7_noiseOn_36 rfl ?_
      refine a_iadd (pc := 38) ok dX7_noiseOn_38 ?_
      refine a_rldG (pc := 39) ok dX7_noiseOn_39 rfl rfl (by first | omega | (unfold rg; omega) | (simp only [rg] at *; omega) | exact bz_rg _ | grind [rg]) ?_
      refine a_lload (pc := 40) ok dX7_noiseOn_40 rfl ?_
      refine a_bipush (pc := 42) ok dX7_noiseOn_42 (by decide) ?_
      refine a_lushr33 (pc := 44) ok dX7_noiseOn_44 ?_
      refine a_l2i (pc := 45) ok dX7_noiseOn_45 ?_
      refine a_iconst (pc := 46) ok dX7_noiseOn_46 ?_
      refine a_iload (pc := 47) ok dX7_noiseOn_47 rfl ?_
      refine a_imul (pc := 49) ok dX7_noiseOn_49 ?_
      refine a_iconst (pc := 50) ok dX7_noiseOn_50 ?_
      refine a_iadd (pc := 51) ok dX7_noiseOn_51 ?_
      refine a_irem (pc := 52) ok dX7_noiseOn_52 (by first | omega | (unfold rg; omega) | (simp only [rg] at *; omega) | exact bz_rg _ | grind [rg]) (by first | omega | (unfold rg; omega) | (simp only [rg] at *; omega) | exact bz_rg _ | grind [rg]) ?_
      refine a_iadd (pc := 53) ok dX7_noiseOn_53 ?_
      refine a_iload (pc := 54) ok dX7_noiseOn_54 rfl ?_
      refine a_isub (pc := 56) ok dX7_noiseOn_56 ?_
      refine a_callSp (pc := 57) ok [] dX7_noiseOn_57 mv7_184 miX7_held (c_held (by unfold rg; omega)) ⟨by decide, by decide, rfl, rfl, Nat.zero_le _, Nat.zero_le _⟩ rfl rfl (Nat.le_of_ble_eq_true rfl) rfl (by decide) ?_
      refine AW.cast (st2 := [iv (noF G x v k), iv k, .ref 9]) ?_ rfl (by rw [hno]) rfl
      refine a_iast (pc := 60) ok dX7_noiseOn_60 rfl (by first | decide | omega) (by first | omega | (unfold rg; omega) | (simp only [rg] at *; omega) | exact bz_rg _ | grind [rg]) ?_
      refine a_iinc (pc := 61) ok dX7_noiseOn_61 rfl rfl (by rw [hN]; decide) ?_
      refine a_goto (pc := 64) (tgt := 6) ok dX7_noiseOn_64 (by decide) ?_
      exact AW.cast (ih (k + 1) (by omega) (by omega)) rfl rfl (congrArg (fun f => (mdM rf sz c r G T n le Hh li ac B I m Fi Co Br Wt mk (f) sd rt lf wy sp ou)) hup)
  refine a_lload_n (pc := 0) ok dX7_noiseOn_0 rfl ?_
  refine a_lstore (pc := 1) ok dX7_noiseOn_1 rfl (by rw [hN]; decide) ?_
  refine a_iconst (pc := 3) ok dX7_noiseOn_3 ?_
  refine a_istore (pc := 4) ok dX7_noiseOn_4 rfl (by rw [hN]; decide) ?_
  exact AW.cast (loop 0 (by omega)) rfl rfl (congrArg (fun f => (mdM rf sz c r G T n le Hh li ac B I m Fi Co Br Wt mk (f) sd rt lf wy sp ou)) mapK_0.symm)
end MD9
