/-! CONSTRUCTORS: the memory. -/
section CT3
variable {l : Launch}
/-- the memory's states made so far -/
def ss : Nat → List va_E
  | 0 => []
  | i + 1 => ss i ++ stS (2 + 4 * i) S00
theorem ss_len : ∀ i : Nat, (ss i).length = 4 * i
  | 0 => rfl
  | i + 1 => by
    show (ss i ++ stS (2 + 4 * i) S00).length = _
    rw [List.length_append, ss_len i]
    show 4 * i + 4 = 4 * (i + 1)
    omega
def rgI (i : Nat) : Nat → Option Nat := fun j => if j < i then some (0 + 2 + 4 * j) else none
abbrev Mi (i : Nat) : List va_E := ob 1 [.ref 1, iv 0, iv 0] :: qa 14 (rgI i) :: ss i
theorem Mi_len (i : Nat) : (Mi i).length = 2 + 4 * i := by
  show (ss i).length + 1 + 1 = _
  rw [ss_len]; omega
theorem rgI_up (i : Nat) : va_up (rgI i) i (some (2 + 4 * i)) = rgI (i + 1) := by
  funext j
  simp only [va_up, rgI]
  by_cases h : j = i
  · subst h
    rw [if_pos rfl, if_pos (by omega)]
  · rw [if_neg h]
    by_cases h2 : j < i
    · rw [if_pos h2, if_pos (by omega)]
    · rw [if_neg h2, if_neg (by omega)]
theorem ss_k : ∀ i : Nat, kcM (2 + 4 * i) (ss i)
  | 0 => True.intro
  | i + 1 => by
    have ih := kcM_mono (show 2 + 4 * i ≤ 2 + 4 * (i + 1) by omega) (ss_k i)
    have h3 : Nat.blt (2 + 4 * i + 3) (2 + 4 * (i + 1)) = true := Nat.blt_eq.mpr (by omega)
    have h2 : Nat.blt (2 + 4 * i + 2) (2 + 4 * (i + 1)) = true := Nat.blt_eq.mpr (by omega)
    have h1 : Nat.blt (2 + 4 * i + 1) (2 + 4 * (i + 1)) = true := Nat.blt_eq.mpr (by omega)
    refine kcM_app ih ⟨?_, True.intro, True.intro, True.intro, True.intro⟩
    show (true && (true && (Nat.blt (2 + 4 * i + 1) (2 + 4 * (i + 1)) && (Nat.blt (2 + 4 * i + 2) (2 + 4 * (i + 1)) && (true && (true && (Nat.blt (2 + 4 * i + 3) (2 + 4 * (i + 1)) && (true && true)))))))) = true
    rw [h1, h2, h3]; rfl
theorem Mi_k (i : Nat) : kcM (2 + 4 * i) (Mi i) := by
  have h1 : Nat.blt 1 (2 + 4 * i) = true := Nat.blt_eq.mpr (by omega)
  refine ⟨?_, ?_, ss_k i⟩
  · show (Nat.blt 1 (2 + 4 * i) && (true && (true && true))) = true
    rw [h1]; rfl
  · intro j r h
    simp only [rgI] at h
    by_cases hj : j < i
    · rw [if_pos hj] at h; cases h; omega
    · rw [if_neg hj] at h; cases h
theorem N4_re (b : Nat) : N4.map (re (List.range' b 4)) = stS b S00 := rfl
theorem dX1_init_0 : decode cX1_init 0 = .ok (.aload_n 0, 1) := by decide +kernel
theorem dX1_init_1 : decode cX1_init 1 = .ok (.invokespecial 3, 3) := by decide +kernel
theorem dX1_init_4 : decode cX1_init 4 = .ok (.aload_n 0, 1) := by decide +kernel
theorem dX1_init_5 : decode cX1_init 5 = .ok (.bipush 14, 2) := by decide +kernel
theorem dX1_init_7 : decode cX1_init 7 = .ok (.anewarray 9, 3) := by decide +kernel
theorem dX1_init_10 : decode cX1_init 10 = .ok (.putfield 11, 3) := by decide +kernel
theorem dX1_init_13 : decode cX1_init 13 = .ok (.aload_n 0, 1) := by decide +kernel
theorem dX1_init_14 : decode cX1_init 14 = .ok (.iconst 0, 1) := by decide +kernel
theorem dX1_init_15 : decode cX1_init 15 = .ok (.putfield 17, 3) := by decide +kernel
theorem dX1_init_18 : decode cX1_init 18 = .ok (.aload_n 0, 1) := by decide +kernel
theorem dX1_init_19 : decode cX1_init 19 = .ok (.iconst 0, 1) := by decide +kernel
theorem dX1_init_20 : decode cX1_init 20 = .ok (.putfield 21, 3) := by decide +kernel
theorem dX1_init_23 : decode cX1_init 23 = .ok (.iconst 0, 1) := by decide +kernel
theorem dX1_init_24 : decode cX1_init 24 = .ok (.istore_n 1, 1) := by decide +kernel
theorem dX1_init_25 : decode cX1_init 25 = .ok (.iload_n 1, 1) := by decide +kernel
theorem dX1_init_26 : decode cX1_init 26 = .ok (.bipush 14, 2) := by decide +kernel
theorem dX1_init_28 : decode cX1_init 28 = .ok (.if_icmp .ge 22, 3) := by decide +kernel
theorem dX1_init_31 : decode cX1_init 31 = .ok (.aload_n 0, 1) := by decide +kernel
theorem dX1_init_32 : decode cX1_init 32 = .ok (.getfield 11, 3) := by decide +kernel
theorem dX1_init_35 : decode cX1_init 35 = .ok (.iload_n 1, 1) := by decide +kernel
theorem dX1_init_36 : decode cX1_init 36 = .ok (.new 9, 3) := by decide +kernel
theorem dX1_init_39 : decode cX1_init 39 = .ok (.dup, 1) := by decide +kernel
theorem dX1_init_40 : decode cX1_init 40 = .ok (.invokespecial 24, 3) := by decide +kernel
theorem dX1_init_43 : decode cX1_init 43 = .ok (.aastore, 1) := by decide +kernel
theorem dX1_init_44 : decode cX1_init 44 = .ok (.iinc 1 1, 3) := by decide +kernel
theorem dX1_init_47 : decode cX1_init 47 = .ok (.goto (-22), 3) := by decide +kernel
theorem dX1_init_50 : decode cX1_init 50 = .ok (.return_, 1) := by decide +kernel
def rgX1_init : Room := { frames := 4, cells := 57, slots := 2296, locals := 88 }
abbrev N1 : List va_E := mmA 0 (ringP 0) 0 0 (fun _ => S00)
theorem memLoop : ∀ (d i : Nat), i + d = 14 → ∀ X : Cx, X.1.2.1 = l → nLof X = 2 → X.2.2.1.1.name = "<init>" → GK X cX1_init RX1 none rgX1_init (fun v M' => v = none ∧ M' = N1) 57 2296 (2 + 4 * i) → AW X (1 + 4 * i) (14 + 163 * i) 25 [some (.ref 0), some (iv i)] [] (Mi i) := by
  intro d
  induction d with
  | zero =>
    intro i hi X hXl hN hnm gk
    have hi : i = 14 := by omega
    subst hi
    have ok := gk.ok
    refine a_iload_n (pc := 25) ok dX1_init_25 rfl ?_
    refine a_bipush (pc := 26) ok dX1_init_26 (by decide) ?_
    refine a_icmp_ge (pc := 28) (tgt := 50) ok dX1_init_28 (by decide) (by unfold rg; omega) (by unfold rg; omega) (fun c28 => ?_) (fun c28 => ?_)
    · exact a_vret (pc := 50) ok dX1_init_50 ⟨rfl, rfl⟩
    · exfalso; omega
  | succ d ih =>
    intro i hi X hXl hN hnm gk
    have ok := gk.ok
    refine a_iload_n (pc := 25) ok dX1_init_25 rfl ?_
    refine a_bipush (pc := 26) ok dX1_init_26 (by decide) ?_
    refine a_icmp_ge (pc := 28) (tgt := 50) ok dX1_init_28 (by decide) (by unfold rg; omega) (by unfold rg; omega) (fun c28 => ?_) (fun c28 => ?_)
    · exfalso; omega
    · refine a_aload_n (pc := 31) ok dX1_init_31 rfl ?_
      refine a_getf (pc := 32) ok dX1_init_32 fl1_11 rfl rfl ?_
      refine a_iload_n (pc := 35) ok dX1_init_35 rfl ?_
      have h1 : Nat.blt 1 (Mi i).length = true := Nat.blt_eq.mpr (by rw [Mi_len]; omega)
      have h2 : Nat.blt 1 ((Mi i).length + 1) = true := Nat.blt_eq.mpr (by rw [Mi_len]; omega)
      have h3 : Nat.blt (Mi i).length ((Mi i).length + 1) = true := Nat.blt_eq.mpr (Nat.lt_succ_self _)
      have h4 : Nat.blt 0 (Mi i).length = true := Nat.blt_eq.mpr (by rw [Mi_len]; omega)
      have hk : kcM (Mi i).length (Mi i) := by rw [Mi_len]; exact Mi_k i
      have hLL : kcL (Mi i).length [some (Value.ref 0), some (iv i)] = true := by
        show ((Nat.blt 0 (Mi i).length || Nat.beq 0 4095) && (true && true)) = true
        rw [h4]; rfl
      refine a_new (pc := 36) (by rw [Mi_len]; exact gk) (by rw [Mi_len]; omega) dX1_init_36 nw1_9 ⟨by show 1 + 4 * i + 1 ≤ 57; omega, by show 14 + 163 * i + 8 ≤ 2296; omega⟩ hk hLL (by show (true && ((Nat.blt 1 (Mi i).length || Nat.beq 1 4095) && true)) = true; rw [h1]; rfl) ?_
      intro X hs gk
      replace hXl := hs.l.trans hXl
      replace hN := hs.n.trans hN
      replace hnm := hs.m.trans hnm
      have ok := gk.ok
      refine a_dup (pc := 39) ok dX1_init_39 rfl ?_
      refine a_callI (pc := 40) (M := Mi i) gk (by rw [Mi_len]; show 2 + 4 * i + 4 ≤ 4095; omega) dX1_init_40 (Or.inl (ug1 102 (by decide +kernel) rfl)) rfl (ug1 43 (by decide +kernel) rfl) miX4_init gX4 (Nat.le_of_ble_eq_true rfl) kN4 ⟨by decide, by decide, by show 1 + 4 * i + 1 + 3 ≤ 57; omega, by show 14 + 163 * i + 8 + 155 ≤ 2296; omega⟩ hk rfl hLL (by show ((Nat.blt (Mi i).length ((Mi i).length + 1) || Nat.beq (Mi i).length 4095) && (true && ((Nat.blt 1 ((Mi i).length + 1) || Nat.beq 1 4095) && true))) = true; rw [h2, h3]; rfl) (Nat.le_of_ble_eq_true rfl) ?_
      intro X hs gk
      replace hXl := hs.l.trans hXl
      replace hN := hs.n.trans hN
      replace hnm := hs.m.trans hnm
      have ok := gk.ok
      rw [Mi_len] at gk ⊢
      refine AW.cast (M2 := ob 1 [.ref 1, iv 0, iv 0] :: qa 14 (rgI i) :: ss (i + 1)) ?_ rfl rfl rfl
      refine a_aast (pc := 43) (n := 14) (f := rgI i) (fs := [iv 8, iv 8, .ref (2 + 4 * i + 1), .ref (2 + 4 * i + 2), iv 1, iv 1, .ref (2 + 4 * i + 3), iv 1]) ok dX1_init_43 rfl (by decide) (by omega) ?_ ?_
      · show (Mi i ++ stS (2 + 4 * i) S00)[2 + 4 * i]? = _
        rw [List.getElem?_append_right (by rw [Mi_len]; exact Nat.le_refl _), Mi_len, Nat.sub_self]
        rfl
      · refine AW.cast (M2 := Mi (i + 1)) ?_ rfl rfl (by
          show (ob 1 [.ref 1, iv 0, iv 0] :: qa 14 (va_up (rgI i) i (some (2 + 4 * i))) :: ss (i + 1) : List va_E) = _
          rw [rgI_up])
        refine a_iinc (pc := 44) ok dX1_init_44 rfl rfl (by rw [hN]; decide) ?_
        refine a_goto (pc := 47) (tgt := 25) ok dX1_init_47 (by decide) ?_
        have := ih (i + 1) (by omega) X hXl hN hnm (by rw [show 2 + 4 * (i + 1) = 2 + 4 * i + 4 by omega]; exact gk)
        rw [show 1 + 4 * (i + 1) = 1 + 4 * i + 1 + 3 by omega, show 14 + 163 * (i + 1) = 14 + 163 * i + 8 + 155 by omega] at this
        exact this
theorem ringP_k {p n : Nat} (h : p + 58 ≤ n) : ∀ i r, ringP p i = some r → r < n := by
  intro i r hr
  unfold ringP at hr
  by_cases hi : i < 14
  · rw [if_pos hi] at hr; cases hr; omega
  · rw [if_neg hi] at hr; cases hr
theorem kN1 : kcM 58 N1 := (by repeat' (first | exact True.intro | exact rfl | exact ringP_k (by decide) | refine ⟨?_, ?_⟩))
theorem rgI_0 : (fun _ => none : Nat → Option Nat) = rgI 0 := by funext j; simp [rgI]
theorem gX1 : CtG l yX1_init cX1_init 2 rgX1_init [.ref 0] [ob 1 bl1] N1 := by
  refine CtG.of miX1_init (Nat.le_of_ble_eq_true rfl) ?_
  intro X hXl hN hnm gk
  replace hnm : X.2.2.1.1.name = "<init>" := hnm
  have ok := gk.ok
  refine AW.cast (L2 := [some (.ref 0), none]) ?_ rfl rfl rfl
  refine a_aload_n (pc := 0) ok dX1_init_0 rfl ?_
  refine a_objI (pc := 1) ok dX1_init_1 (ug1 99 (by decide +kernel) rfl) ⟨by decide, by decide⟩ (Nat.le_of_ble_eq_true rfl) ?_
  refine a_aload_n (pc := 4) ok dX1_init_4 rfl ?_
  refine a_bipush (pc := 5) ok dX1_init_5 (by decide) ?_
  refine a_newq (pc := 7) (n := 14) gk (Nat.le_of_ble_eq_true rfl) dX1_init_7 (ug1 100 (by decide +kernel) rfl) (by decide) rfl (by decide) ⟨by decide, by decide⟩ (by repeat' (first | exact True.intro | exact rfl | refine ⟨?_, ?_⟩)) rfl rfl ?_
  intro X hs gk
  replace hXl := hs.l.trans hXl
  replace hN := hs.n.trans hN
  replace hnm := hs.m.trans hnm
  have ok := gk.ok
  refine a_putfF (pc := 10) ok dX1_init_10 fpF1_11 hnm rfl rfl rfl (Nat.le_of_ble_eq_true rfl) ?_
  refine a_aload_n (pc := 13) ok dX1_init_13 rfl ?_
  refine a_iconst (pc := 14) ok dX1_init_14 ?_
  refine a_putf (pc := 15) ok dX1_init_15 fp1_17 rfl (by first | rfl | decide) (by first | rfl | decide) (Nat.le_of_ble_eq_true rfl) ?_
  refine a_aload_n (pc := 18) ok dX1_init_18 rfl ?_
  refine a_iconst (pc := 19) ok dX1_init_19 ?_
  refine a_putf (pc := 20) ok dX1_init_20 fp1_21 rfl (by first | rfl | decide) (by first | rfl | decide) (Nat.le_of_ble_eq_true rfl) ?_
  refine a_iconst (pc := 23) ok dX1_init_23 ?_
  refine a_istore_n (pc := 24) ok dX1_init_24 rfl (by rw [hN]; decide) ?_
  refine AW.cast (M2 := Mi 0) ?_ rfl rfl (by show (ob 1 [.ref 1, iv 0, iv 0] :: qa 14 (fun _ => none) :: [] : List va_E) = _; rw [rgI_0]; rfl)
  exact memLoop 14 0 rfl X hXl hN hnm gk
theorem N1_7 : N1.map (re (List.range' 7 58)) = mmA 7 (ringP 7) 0 0 (fun _ => S00) := congrArg (fun f => mmA 7 f 0 0 (fun _ => S00)) (ring_eq 0 7 (List.range' 7 58) (by decide))
end CT3
