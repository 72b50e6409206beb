/-! THE LAW: its loop. Printed by wip/whole/gen/mk93.py. -/
theorem xad_self (X : Cx) : xad X (adOf X) = X := by
  obtain ⟨⟨p, l, e, R⟩, ⟨s, m, args, below⟩, ⟨meth, c, nL⟩, ⟨D, cT, ad⟩, A, Q⟩ := X; rfl
theorem FIN_X {X : Cx} {Lc : List (Option Value)} {M : List va_E} (h : FIN X) : AW X 601024 7293034 2252 Lc [iv 1] M := by have q := h (adOf X) Lc M; rw [xad_self] at q; exact q
theorem and_rg (a b : Int) : rg (Int32.ofInt a &&& Int32.ofInt b).toInt := ⟨Int32.le_toInt _, Int32.toInt_lt _⟩
theorem lawLoop {X : Cx} {b L : Nat} {xs : Nat → Int32} (ok : OKL X) (ex : EX X) (hN : nLof X = 7) (sc : SCR X b L xs) (hL : L ≤ 3072) (hl : X.1.2.1.stackTraces = false) (fin : FIN X) : ∀ d j : Nat, (L : Int) < 6 * (j : Int) + 6 + 6 * (d : Int) → j ≤ 512 → ∀ M, INV M → AW X (120 + j) (10325 + 6 * j) 23 [some (.ref 4095), some (.ref 0), some (.ref 103), some (.ref 119), some (iv (6 * (j : Int))), none, none] [] M := by
  intro d
  induction d with
  | zero =>
    intro j hd hj M hM
    refine a_iload (pc := 23) ok dL_law_23 rfl ?_
    refine a_aload_n (pc := 25) ok dL_law_25 rfl ?_
    refine a_slen (pc := 26) ok sc dL_law_26 ?_
    refine a_bipush (pc := 27) ok dL_law_27 (by decide) ?_
    refine a_isub (pc := 29) ok dL_law_29 ?_
    refine a_icmp_gt (pc := 30) (tgt := 2251) ok dL_law_30 (by decide) (by unfold rg; omega) (by unfold rg; omega) (fun c30 => ?_) (fun c30 => ?_)
    · refine AW.widen (kc2 := 601024) (ks2 := 7293034) (by omega) (by omega) ?_
      refine a_iconst (pc := 2251) ok dL_law_2251 ?_
      exact FIN_X fin
    · exfalso; omega
  | succ d ih =>
    intro j hd hj M hM
    have k : (L : Int) ≥ 6 * (j : Int) + 6 → ∀ M, INV M → AW X (120 + j + 1) (10325 + 6 * j + 6) 2245 [some (.ref 4095), some (.ref 0), some (.ref 103), some (.ref 119), some (iv (6 * (j : Int))), none, none] [] M := by
      intro hj2 M hM
      refine a_iinc (pc := 2245) ok dL_law_2245 rfl rfl (by rw [hN]; decide) ?_
      refine a_goto (pc := 2248) (tgt := 23) ok dL_law_2248 (by decide) ?_
      have q := ih (j + 1) (by omega) (by omega) M hM
      rw [show 120 + (j + 1) = 120 + j + 1 by omega, show 10325 + 6 * (j + 1) = 10325 + 6 * j + 6 by omega] at q
      refine AW.cast (L2 := [some (.ref 4095), some (.ref 0), some (.ref 103), some (.ref 119), some (iv (6 * ((j + 1 : Nat) : Int))), none, none]) q ?_ rfl rfl
      rw [show 6 * ((j + 1 : Nat) : Int) = 6 * (j : Int) + 6 by omega]; rfl
    have hInv := hM
    obtain ⟨kn, nk, sz, tx, S, cnt, nx, σ, sv, c0, r0, m0, ct, B, F, Z, Br, Q, Fo, No, Ho, Mo, In, Sn, Qn, S2, c1, r1, m1, ct1, B1, F1, Z1, Br1, Q1, Fo1, No1, sd, rt, lf, wy, gb, P0, P1, rf, S3, S4, ac, Bm, Im, mm, Fi, Co, Bq, Wt, mk, gy, di, ke, ik, ea, sd2, rt2, lf2, wy2, sp, ou, fo, rfl, hcn, hr, hB, hI, t, hm, hk9, ht9⟩ := hM
    refine a_iload (pc := 23) ok dL_law_23 rfl ?_
    refine a_aload_n (pc := 25) ok dL_law_25 rfl ?_
    refine a_slen (pc := 26) ok sc dL_law_26 ?_
    refine a_bipush (pc := 27) ok dL_law_27 (by decide) ?_
    refine a_isub (pc := 29) ok dL_law_29 ?_
    refine a_icmp_gt (pc := 30) (tgt := 2251) ok dL_law_30 (by decide) (by unfold rg; omega) (by unfold rg; omega) (fun c30 => ?_) (fun c30 => ?_)
    · refine AW.widen (kc2 := 601024) (ks2 := 7293034) (by omega) (by omega) ?_
      refine a_iconst (pc := 2251) ok dL_law_2251 ?_
      exact FIN_X fin
    · have hj2 : (L : Int) ≥ 6 * (j : Int) + 6 := by omega
      have pre : PRE X b L xs (6 * (j : Int)) (120 + j) (10325 + 6 * j) := ⟨ex, hN, sc, by omega, hL, hl, by omega, by omega⟩
      refine a_aload_n (pc := 33) ok dL_law_33 rfl ?_
      refine a_iload (pc := 34) ok dL_law_34 rfl ?_
      refine a_sld (pc := 36) ok sc dL_law_36 (by omega) hL ?_
      refine a_bipush (pc := 37) ok dL_law_37 (by decide) ?_
      refine a_iand (pc := 39) ok dL_law_39 ?_
      refine a_tab (pc := 40) (dt := 2245) ok [192, 248, 261, 274, 318, 374, 454, 510, 578, 646, 714, 782, 850, 863, 931, 1011, 1115, 1199, 1255, 1311, 1379, 1435, 1448, 1461, 1517, 1617, 1661, 1729, 1785, 1841, 1933, 2033, 2133, 2189] dL_law_40 (by decide) (by decide) (by decide) (by exact and_rg _ _) (fun j40 hj40 c40 => ?_) (fun c40 => ?_)
      · rcases (show j40 = 0 ∨ j40 = 1 ∨ j40 = 2 ∨ j40 = 3 ∨ j40 = 4 ∨ j40 = 5 ∨ j40 = 6 ∨ j40 = 7 ∨ j40 = 8 ∨ j40 = 9 ∨ j40 = 10 ∨ j40 = 11 ∨ j40 = 12 ∨ j40 = 13 ∨ j40 = 14 ∨ j40 = 15 ∨ j40 = 16 ∨ j40 = 17 ∨ j40 = 18 ∨ j40 = 19 ∨ j40 = 20 ∨ j40 = 21 ∨ j40 = 22 ∨ j40 = 23 ∨ j40 = 24 ∨ j40 = 25 ∨ j40 = 26 ∨ j40 = 27 ∨ j40 = 28 ∨ j40 = 29 ∨ j40 = 30 ∨ j40 = 31 ∨ j40 = 32 ∨ j40 = 33 by simp only [List.length_cons, List.length_nil] at hj40; omega) with rfl | rfl | rfl | rfl | rfl | rfl | rfl | rfl | rfl | rfl | rfl | rfl | rfl | rfl | rfl | rfl | rfl | rfl | rfl | rfl | rfl | rfl | rfl | rfl | rfl | rfl | rfl | rfl | rfl | rfl | rfl | rfl | rfl | rfl
        · exact cs_append ok pre hcn hr hB hI t hm hk9 ht9 (k hj2)
        · exact cs_clearText ok pre hcn hr hB hI t hm hk9 ht9 (k hj2)
        · exact cs_errorPosition ok pre hcn hr hB hI t hm hk9 ht9 (k hj2)
        · exact cs_load ok pre hcn hr hB hI t hm hk9 ht9 (k hj2)
        · exact cs_about ok pre hcn hr hB hI t hm hk9 ht9 (k hj2)
        · exact cs_cellOf ok pre hcn hr hB hI t hm hk9 ht9 (k hj2)
        · exact cs_thresholdAt ok pre hcn hr hB hI t hm hk9 ht9 (k hj2)
        · exact cs_island ok pre hcn hr hB hI t hm hk9 ht9 (k hj2)
        · exact cs_border ok pre hcn hr hB hI t hm hk9 ht9 (k hj2)
        · exact cs_outline ok pre hcn hr hB hI t hm hk9 ht9 (k hj2)
        · exact cs_outlineWay ok pre hcn hr hB hI t hm hk9 ht9 (k hj2)
        · exact cs_band ok pre hcn hr hB hI t hm hk9 ht9 (k hj2)
        · exact cs_ink ok pre hcn hr hB hI t hm hk9 ht9 (k hj2)
        · exact cs_plate ok pre hcn hr hB hI t hm hk9 ht9 (k hj2)
        · exact cs_cell ok pre hcn hr hB hI t hm hk9 ht9 (k hj2)
        · exact cs_box ok pre hcn hr hB hI t hm hk9 ht9 (k hj2)
        · exact cs_threshold ok pre hcn hr hB hI t hm hk9 ht9 (k hj2)
        · exact cs_share ok pre hcn hr hB hI t hm hk9 ht9 (k hj2)
        · exact cs_least ok pre hcn hr hB hI t hm hk9 ht9 (k hj2)
        · exact cs_hatch ok pre hcn hr hB hI t hm hk9 ht9 (k hj2)
        · exact cs_line ok pre hcn hr hB hI t hm hk9 ht9 (k hj2)
        · exact cs_blur ok pre hcn hr hB hI t hm hk9 ht9 (k hj2)
        · exact cs_invert ok pre hcn hr hB hI t hm hk9 ht9 (k hj2)
        · exact cs_spread ok pre hcn hr hB hI t hm hk9 ht9 (k hj2)
        · exact cs_noise ok pre hcn hr hB hI t hm hk9 ht9 (k hj2)
        · exact cs_undo ok pre hcn hr hB hI t hm hk9 ht9 (k hj2)
        · exact cs_ifLeast ok pre hcn hr hB hI t hm hk9 ht9 (k hj2)
        · exact cs_leastFor ok pre hcn hr hB hI t hm hk9 ht9 (k hj2)
        · exact cs_bestMove ok pre hcn hr hB hI t hm hk9 ht9 (k hj2)
        · exact cs_ifCell ok pre hcn hr hB hI t hm hk9 ht9 (k hj2)
        · exact cs_runScript ok pre hcn hr hB hI t hm hk9 ht9 (k hj2)
        · exact cs_simulate ok pre hcn hr hB hI t hm hk9 ht9 (k hj2)
        · exact cs_save ok pre hcn hr hB hI t hm hk9 ht9 (k hj2)
        · exact cs_restore ok pre hcn hr hB hI t hm hk9 ht9 (k hj2)
      · exact AW.widen (Nat.le_succ _) (Nat.le_add_right _ _) (k hj2 _ hInv)
