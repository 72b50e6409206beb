/-! CONSTRUCTORS: the engraver. Printed by wip/whole/gen/mk85.py. -/
section CT5
variable {l : Launch}
theorem none_k {n : Nat} : ∀ i r : Nat, (fun _ : Nat => (none : Option Nat)) i = some r → r < n := fun i r h => by cases h
theorem up_k {f : Nat → Option Nat} {k q n : Nat} (hf : ∀ i r, f i = some r → r < n) (hq : q < n) : ∀ i r, va_up f k (some q) i = some r → r < n := by
  intro i r h
  simp only [va_up] at h
  by_cases e : i = k
  · rw [if_pos e] at h; cases h; exact hq
  · rw [if_neg e] at h; exact hf i r h
theorem slot_up : va_up (va_up (fun _ => none) 0 (some 95)) 1 (some 99) = slotP 95 := by
  funext j
  simp only [va_up, slotP]
  match j with
  | 0 => rfl
  | 1 => rfl
  | j + 2 => rw [if_neg (by omega), if_neg (by omega), if_neg (by omega)]
theorem dX6_init_0 : decode cX6_init 0 = .ok (.aload_n 0, 1) := by decide +kernel
theorem dX6_init_1 : decode cX6_init 1 = .ok (.invokespecial 1, 3) := by decide +kernel
theorem dX6_init_4 : decode cX6_init 4 = .ok (.aload_n 0, 1) := by decide +kernel
theorem dX6_init_5 : decode cX6_init 5 = .ok (.new 7, 3) := by decide +kernel
theorem dX6_init_8 : decode cX6_init 8 = .ok (.dup, 1) := by decide +kernel
theorem dX6_init_9 : decode cX6_init 9 = .ok (.invokespecial 9, 3) := by decide +kernel
theorem dX6_init_12 : decode cX6_init 12 = .ok (.putfield 10, 3) := by decide +kernel
theorem dX6_init_15 : decode cX6_init 15 = .ok (.aload_n 0, 1) := by decide +kernel
theorem dX6_init_16 : decode cX6_init 16 = .ok (.new 16, 3) := by decide +kernel
theorem dX6_init_19 : decode cX6_init 19 = .ok (.dup, 1) := by decide +kernel
theorem dX6_init_20 : decode cX6_init 20 = .ok (.invokespecial 18, 3) := by decide +kernel
theorem dX6_init_23 : decode cX6_init 23 = .ok (.putfield 19, 3) := by decide +kernel
theorem dX6_init_26 : decode cX6_init 26 = .ok (.aload_n 0, 1) := by decide +kernel
theorem dX6_init_27 : decode cX6_init 27 = .ok (.new 23, 3) := by decide +kernel
theorem dX6_init_30 : decode cX6_init 30 = .ok (.dup, 1) := by decide +kernel
theorem dX6_init_31 : decode cX6_init 31 = .ok (.invokespecial 25, 3) := by decide +kernel
theorem dX6_init_34 : decode cX6_init 34 = .ok (.putfield 26, 3) := by decide +kernel
theorem dX6_init_37 : decode cX6_init 37 = .ok (.aload_n 0, 1) := by decide +kernel
theorem dX6_init_38 : decode cX6_init 38 = .ok (.iconst 2, 1) := by decide +kernel
theorem dX6_init_39 : decode cX6_init 39 = .ok (.anewarray 16, 3) := by decide +kernel
theorem dX6_init_42 : decode cX6_init 42 = .ok (.putfield 30, 3) := by decide +kernel
theorem dX6_init_45 : decode cX6_init 45 = .ok (.aload_n 0, 1) := by decide +kernel
theorem dX6_init_46 : decode cX6_init 46 = .ok (.iconst 2, 1) := by decide +kernel
theorem dX6_init_47 : decode cX6_init 47 = .ok (.newarray .boolean, 2) := by decide +kernel
theorem dX6_init_49 : decode cX6_init 49 = .ok (.putfield 34, 3) := by decide +kernel
theorem dX6_init_52 : decode cX6_init 52 = .ok (.aload_n 0, 1) := by decide +kernel
theorem dX6_init_53 : decode cX6_init 53 = .ok (.new 38, 3) := by decide +kernel
theorem dX6_init_56 : decode cX6_init 56 = .ok (.dup, 1) := by decide +kernel
theorem dX6_init_57 : decode cX6_init 57 = .ok (.invokespecial 40, 3) := by decide +kernel
theorem dX6_init_60 : decode cX6_init 60 = .ok (.putfield 41, 3) := by decide +kernel
theorem dX6_init_63 : decode cX6_init 63 = .ok (.aload_n 0, 1) := by decide +kernel
theorem dX6_init_64 : decode cX6_init 64 = .ok (.new 45, 3) := by decide +kernel
theorem dX6_init_67 : decode cX6_init 67 = .ok (.dup, 1) := by decide +kernel
theorem dX6_init_68 : decode cX6_init 68 = .ok (.invokespecial 47, 3) := by decide +kernel
theorem dX6_init_71 : decode cX6_init 71 = .ok (.putfield 48, 3) := by decide +kernel
theorem dX6_init_74 : decode cX6_init 74 = .ok (.aload_n 0, 1) := by decide +kernel
theorem dX6_init_75 : decode cX6_init 75 = .ok (.iconst 0, 1) := by decide +kernel
theorem dX6_init_76 : decode cX6_init 76 = .ok (.putfield 52, 3) := by decide +kernel
theorem dX6_init_79 : decode cX6_init 79 = .ok (.aload_n 0, 1) := by decide +kernel
theorem dX6_init_80 : decode cX6_init 80 = .ok (.iconst 0, 1) := by decide +kernel
theorem dX6_init_81 : decode cX6_init 81 = .ok (.putfield 56, 3) := by decide +kernel
theorem dX6_init_84 : decode cX6_init 84 = .ok (.aload_n 0, 1) := by decide +kernel
theorem dX6_init_85 : decode cX6_init 85 = .ok (.new 16, 3) := by decide +kernel
theorem dX6_init_88 : decode cX6_init 88 = .ok (.dup, 1) := by decide +kernel
theorem dX6_init_89 : decode cX6_init 89 = .ok (.invokespecial 18, 3) := by decide +kernel
theorem dX6_init_92 : decode cX6_init 92 = .ok (.putfield 59, 3) := by decide +kernel
theorem dX6_init_95 : decode cX6_init 95 = .ok (.aload_n 0, 1) := by decide +kernel
theorem dX6_init_96 : decode cX6_init 96 = .ok (.new 38, 3) := by decide +kernel
theorem dX6_init_99 : decode cX6_init 99 = .ok (.dup, 1) := by decide +kernel
theorem dX6_init_100 : decode cX6_init 100 = .ok (.invokespecial 40, 3) := by decide +kernel
theorem dX6_init_103 : decode cX6_init 103 = .ok (.putfield 62, 3) := by decide +kernel
theorem dX6_init_106 : decode cX6_init 106 = .ok (.aload_n 0, 1) := by decide +kernel
theorem dX6_init_107 : decode cX6_init 107 = .ok (.new 65, 3) := by decide +kernel
theorem dX6_init_110 : decode cX6_init 110 = .ok (.dup, 1) := by decide +kernel
theorem dX6_init_111 : decode cX6_init 111 = .ok (.invokespecial 67, 3) := by decide +kernel
theorem dX6_init_114 : decode cX6_init 114 = .ok (.putfield 68, 3) := by decide +kernel
theorem dX6_init_117 : decode cX6_init 117 = .ok (.aload_n 0, 1) := by decide +kernel
theorem dX6_init_118 : decode cX6_init 118 = .ok (.sipush 144, 3) := by decide +kernel
theorem dX6_init_121 : decode cX6_init 121 = .ok (.newarray .int, 2) := by decide +kernel
theorem dX6_init_123 : decode cX6_init 123 = .ok (.putfield 72, 3) := by decide +kernel
theorem dX6_init_126 : decode cX6_init 126 = .ok (.iconst 0, 1) := by decide +kernel
theorem dX6_init_127 : decode cX6_init 127 = .ok (.istore_n 1, 1) := by decide +kernel
theorem dX6_init_128 : decode cX6_init 128 = .ok (.iload_n 1, 1) := by decide +kernel
theorem dX6_init_129 : decode cX6_init 129 = .ok (.iconst 2, 1) := by decide +kernel
theorem dX6_init_130 : decode cX6_init 130 = .ok (.if_icmp .ge 22, 3) := by decide +kernel
theorem dX6_init_133 : decode cX6_init 133 = .ok (.aload_n 0, 1) := by decide +kernel
theorem dX6_init_134 : decode cX6_init 134 = .ok (.getfield 30, 3) := by decide +kernel
theorem dX6_init_137 : decode cX6_init 137 = .ok (.iload_n 1, 1) := by decide +kernel
theorem dX6_init_138 : decode cX6_init 138 = .ok (.new 16, 3) := by decide +kernel
theorem dX6_init_141 : decode cX6_init 141 = .ok (.dup, 1) := by decide +kernel
theorem dX6_init_142 : decode cX6_init 142 = .ok (.invokespecial 18, 3) := by decide +kernel
theorem dX6_init_145 : decode cX6_init 145 = .ok (.aastore, 1) := by decide +kernel
theorem dX6_init_146 : decode cX6_init 146 = .ok (.iinc 1 1, 3) := by decide +kernel
theorem dX6_init_149 : decode cX6_init 149 = .ok (.goto (-21), 3) := by decide +kernel
theorem dX6_init_152 : decode cX6_init 152 = .ok (.return_, 1) := by decide +kernel
def rgX6_init : Room := { frames := 5, cells := 102, slots := 5988, locals := 109 }
abbrev N6 : List va_E := ob 6 [.ref 1, .ref 3, .ref 7, .ref 65, .ref 66, .ref 67, .ref 75, iv 0, iv 0, .ref 81, .ref 85, .ref 93, .ref 94] :: (txA 1 0 zz ++ (stS 3 S00 ++ (mmA 7 (ringP 7) 0 0 (fun _ => S00) ++ ([qa 2 (slotP 95)] ++ ([za 2 zz] ++ (isA 67 1 1 1 0 zz zz zz zz zz zz zz ++ (nsA 75 zz zz zz zz zz ++ (stS 81 S00 ++ (isA 85 1 1 1 0 zz zz zz zz zz zz zz ++ ([ob 3 [iv 0, iv 0, iv 0, iv (-1)]] ++ ([ia 144 zz] ++ (stS 95 S00 ++ (stS 99 S00)))))))))))))
theorem slotP_k {p n : Nat} (h : p + 5 ≤ n) : ∀ i r, slotP p i = some r → r < n := by
  intro i r hr
  unfold slotP at hr
  by_cases hi : i < 2
  · rw [if_pos hi] at hr; cases hr; omega
  · rw [if_neg hi] at hr; cases hr
theorem kN6 : kcM 103 N6 := (by repeat' (first | exact True.intro | exact rfl | exact ringP_k (by decide) | exact slotP_k (by decide) | refine ⟨?_, ?_⟩))
theorem e_2 {X : Cx} (hXl : X.1.2.1 = l) (hN : nLof X = 2) (hnm : X.2.2.1.1.name = "<init>") (gk : GK X cX6_init RX6 none rgX6_init (fun v M' => v = none ∧ M' = N6) 102 5988 103) : AW X 102 5988 128 [some (.ref 0), some (iv 2)] [] (ob 6 [.ref 1, .ref 3, .ref 7, .ref 65, .ref 66, .ref 67, .ref 75, iv 0, iv 0, .ref 81, .ref 85, .ref 93, .ref 94] :: (txA 1 0 zz ++ (stS 3 S00 ++ (mmA 7 (ringP 7) 0 0 (fun _ => S00) ++ ([qa 2 (slotP 95)] ++ ([za 2 zz] ++ (isA 67 1 1 1 0 zz zz zz zz zz zz zz ++ (nsA 75 zz zz zz zz zz ++ (stS 81 S00 ++ (isA 85 1 1 1 0 zz zz zz zz zz zz zz ++ ([ob 3 [iv 0, iv 0, iv 0, iv (-1)]] ++ ([ia 144 zz] ++ (stS 95 S00 ++ (stS 99 S00)))))))))))))) := by
  have ok := gk.ok
  refine a_iload_n (pc := 128) ok dX6_init_128 rfl ?_
  refine a_iconst (pc := 129) ok dX6_init_129 ?_
  refine a_icmp_ge (pc := 130) (tgt := 152) ok dX6_init_130 (by decide) (by first | omega | (unfold rg; omega) | (simp only [rg] at *; omega) | exact bz_rg _ | grind [rg]) (by first | omega | (unfold rg; omega) | (simp only [rg] at *; omega) | exact bz_rg _ | grind [rg]) (fun c130 => ?_) (fun c130 => ?_)
  · exact a_vret (pc := 152) ok dX6_init_152 (⟨rfl, rfl⟩)
  · exfalso; first | omega | grind
theorem e_1 {X : Cx} (hXl : X.1.2.1 = l) (hN : nLof X = 2) (hnm : X.2.2.1.1.name = "<init>") (gk : GK X cX6_init RX6 none rgX6_init (fun v M' => v = none ∧ M' = N6) 102 5988 99) : AW X 98 5825 128 [some (.ref 0), some (iv 1)] [] (ob 6 [.ref 1, .ref 3, .ref 7, .ref 65, .ref 66, .ref 67, .ref 75, iv 0, iv 0, .ref 81, .ref 85, .ref 93, .ref 94] :: (txA 1 0 zz ++ (stS 3 S00 ++ (mmA 7 (ringP 7) 0 0 (fun _ => S00) ++ ([qa 2 (va_up (fun _ => none) 0 (some 95))] ++ ([za 2 zz] ++ (isA 67 1 1 1 0 zz zz zz zz zz zz zz ++ (nsA 75 zz zz zz zz zz ++ (stS 81 S00 ++ (isA 85 1 1 1 0 zz zz zz zz zz zz zz ++ ([ob 3 [iv 0, iv 0, iv 0, iv (-1)]] ++ ([ia 144 zz] ++ (stS 95 S00))))))))))))) := by
  have ok := gk.ok
  refine a_iload_n (pc := 128) ok dX6_init_128 rfl ?_
  refine a_iconst (pc := 129) ok dX6_init_129 ?_
  refine a_icmp_ge (pc := 130) (tgt := 152) ok dX6_init_130 (by decide) (by first | omega | (unfold rg; omega) | (simp only [rg] at *; omega) | exact bz_rg _ | grind [rg]) (by first | omega | (unfold rg; omega) | (simp only [rg] at *; omega) | exact bz_rg _ | grind [rg]) (fun c130 => ?_) (fun c130 => ?_)
  · exfalso; first | omega | grind
  · refine a_aload_n (pc := 133) ok dX6_init_133 rfl ?_
    refine a_getf (pc := 134) ok dX6_init_134 fl6_30 rfl rfl ?_
    refine a_iload_n (pc := 137) ok dX6_init_137 rfl ?_
    refine a_new (pc := 138) gk (Nat.le_of_ble_eq_true rfl) dX6_init_138 nw6_16 ⟨by decide, by decide⟩ (by repeat' (first | exact True.intro | exact rfl | exact none_k | exact ringP_k (by decide) | exact up_k none_k (by decide) | refine ⟨?_, ?_⟩)) rfl rfl ?_
    intro X hs gk
    replace hXl := hs.l.trans hXl
    replace hN := hs.n.trans hN
    replace hnm := hs.m.trans hnm
    have ok := gk.ok
    refine a_dup (pc := 141) ok dX6_init_141 rfl ?_
    refine a_callI (pc := 142) (M := _) gk (Nat.le_of_ble_eq_true rfl) dX6_init_142 (Or.inl (ug1 42 (by decide +kernel) rfl)) rfl (ug1 43 (by decide +kernel) rfl) miX4_init (gX4) (Nat.le_of_ble_eq_true rfl) kN4 ⟨by decide, by decide, by decide, by decide⟩ (by repeat' (first | exact True.intro | exact rfl | exact none_k | exact ringP_k (by decide) | exact up_k none_k (by decide) | refine ⟨?_, ?_⟩)) rfl rfl rfl (Nat.le_of_ble_eq_true rfl) ?_
    intro X hs gk
    replace hXl := hs.l.trans hXl
    replace hN := hs.n.trans hN
    replace hnm := hs.m.trans hnm
    have ok := gk.ok
    refine AW.cast (M2 := ob 6 [.ref 1, .ref 3, .ref 7, .ref 65, .ref 66, .ref 67, .ref 75, iv 0, iv 0, .ref 81, .ref 85, .ref 93, .ref 94] :: (txA 1 0 zz ++ (stS 3 S00 ++ (mmA 7 (ringP 7) 0 0 (fun _ => S00) ++ ([qa 2 (va_up (fun _ => none) 0 (some 95))] ++ ([za 2 zz] ++ (isA 67 1 1 1 0 zz zz zz zz zz zz zz ++ (nsA 75 zz zz zz zz zz ++ (stS 81 S00 ++ (isA 85 1 1 1 0 zz zz zz zz zz zz zz ++ ([ob 3 [iv 0, iv 0, iv 0, iv (-1)]] ++ ([ia 144 zz] ++ (stS 95 S00 ++ (stS 99 S00)))))))))))))) ?_ rfl rfl rfl
    refine a_aast (pc := 145) ok dX6_init_145 rfl (by decide) (by first | omega | (unfold rg; omega) | (simp only [rg] at *; omega) | exact bz_rg _ | grind [rg]) rfl ?_
    refine a_iinc (pc := 146) ok dX6_init_146 rfl rfl (by rw [hN]; decide) ?_
    refine a_goto (pc := 149) (tgt := 128) ok dX6_init_149 (by decide) ?_
    refine AW.cast (M2 := ob 6 [.ref 1, .ref 3, .ref 7, .ref 65, .ref 66, .ref 67, .ref 75, iv 0, iv 0, .ref 81, .ref 85, .ref 93, .ref 94] :: (txA 1 0 zz ++ (stS 3 S00 ++ (mmA 7 (ringP 7) 0 0 (fun _ => S00) ++ ([qa 2 (slotP 95)] ++ ([za 2 zz] ++ (isA 67 1 1 1 0 zz zz zz zz zz zz zz ++ (nsA 75 zz zz zz zz zz ++ (stS 81 S00 ++ (isA 85 1 1 1 0 zz zz zz zz zz zz zz ++ ([ob 3 [iv 0, iv 0, iv 0, iv (-1)]] ++ ([ia 144 zz] ++ (stS 95 S00 ++ (stS 99 S00)))))))))))))) ?_ rfl rfl (by show (ob 6 [.ref 1, .ref 3, .ref 7, .ref 65, .ref 66, .ref 67, .ref 75, iv 0, iv 0, .ref 81, .ref 85, .ref 93, .ref 94] :: (txA 1 0 zz ++ (stS 3 S00 ++ (mmA 7 (ringP 7) 0 0 (fun _ => S00) ++ ([qa 2 (va_up (va_up (fun _ => none) 0 (some 95)) 1 (some 99))] ++ ([za 2 zz] ++ (isA 67 1 1 1 0 zz zz zz zz zz zz zz ++ (nsA 75 zz zz zz zz zz ++ (stS 81 S00 ++ (isA 85 1 1 1 0 zz zz zz zz zz zz zz ++ ([ob 3 [iv 0, iv 0, iv 0, iv (-1)]] ++ ([ia 144 zz] ++ (stS 95 S00 ++ (stS 99 S00))))))))))))) : List va_E) = _; rw [slot_up])
    exact e_2 hXl hN hnm gk
theorem e_0 {X : Cx} (hXl : X.1.2.1 = l) (hN : nLof X = 2) (hnm : X.2.2.1.1.name = "<init>") (gk : GK X cX6_init RX6 none rgX6_init (fun v M' => v = none ∧ M' = N6) 102 5988 95) : AW X 94 5662 128 [some (.ref 0), some (iv 0)] [] (ob 6 [.ref 1, .ref 3, .ref 7, .ref 65, .ref 66, .ref 67, .ref 75, iv 0, iv 0, .ref 81, .ref 85, .ref 93, .ref 94] :: (txA 1 0 zz ++ (stS 3 S00 ++ (mmA 7 (ringP 7) 0 0 (fun _ => S00) ++ ([qa 2 (fun _ => none)] ++ ([za 2 zz] ++ (isA 67 1 1 1 0 zz zz zz zz zz zz zz ++ (nsA 75 zz zz zz zz zz ++ (stS 81 S00 ++ (isA 85 1 1 1 0 zz zz zz zz zz zz zz ++ ([ob 3 [iv 0, iv 0, iv 0, iv (-1)]] ++ ([ia 144 zz])))))))))))) := by
  have ok := gk.ok
  refine a_iload_n (pc := 128) ok dX6_init_128 rfl ?_
  refine a_iconst (pc := 129) ok dX6_init_129 ?_
  refine a_icmp_ge (pc := 130) (tgt := 152) ok dX6_init_130 (by decide) (by first | omega | (unfold rg; omega) | (simp only [rg] at *; omega) | exact bz_rg _ | grind [rg]) (by first | omega | (unfold rg; omega) | (simp only [rg] at *; omega) | exact bz_rg _ | grind [rg]) (fun c130 => ?_) (fun c130 => ?_)
  · exfalso; first | omega | grind
  · refine a_aload_n (pc := 133) ok dX6_init_133 rfl ?_
    refine a_getf (pc := 134) ok dX6_init_134 fl6_30 rfl rfl ?_
    refine a_iload_n (pc := 137) ok dX6_init_137 rfl ?_
    refine a_new (pc := 138) gk (Nat.le_of_ble_eq_true rfl) dX6_init_138 nw6_16 ⟨by decide, by decide⟩ (by repeat' (first | exact True.intro | exact rfl | exact none_k | exact ringP_k (by decide) | exact up_k none_k (by decide) | refine ⟨?_, ?_⟩)) rfl rfl ?_
    intro X hs gk
    replace hXl := hs.l.trans hXl
    replace hN := hs.n.trans hN
    replace hnm := hs.m.trans hnm
    have ok := gk.ok
    refine a_dup (pc := 141) ok dX6_init_141 rfl ?_
    refine a_callI (pc := 142) (M := _) gk (Nat.le_of_ble_eq_true rfl) dX6_init_142 (Or.inl (ug1 42 (by decide +kernel) rfl)) rfl (ug1 43 (by decide +kernel) rfl) miX4_init (gX4) (Nat.le_of_ble_eq_true rfl) kN4 ⟨by decide, by decide, by decide, by decide⟩ (by repeat' (first | exact True.intro | exact rfl | exact none_k | exact ringP_k (by decide) | exact up_k none_k (by decide) | refine ⟨?_, ?_⟩)) rfl rfl rfl (Nat.le_of_ble_eq_true rfl) ?_
    intro X hs gk
    replace hXl := hs.l.trans hXl
    replace hN := hs.n.trans hN
    replace hnm := hs.m.trans hnm
    have ok := gk.ok
    refine AW.cast (M2 := ob 6 [.ref 1, .ref 3, .ref 7, .ref 65, .ref 66, .ref 67, .ref 75, iv 0, iv 0, .ref 81, .ref 85, .ref 93, .ref 94] :: (txA 1 0 zz ++ (stS 3 S00 ++ (mmA 7 (ringP 7) 0 0 (fun _ => S00) ++ ([qa 2 (fun _ => none)] ++ ([za 2 zz] ++ (isA 67 1 1 1 0 zz zz zz zz zz zz zz ++ (nsA 75 zz zz zz zz zz ++ (stS 81 S00 ++ (isA 85 1 1 1 0 zz zz zz zz zz zz zz ++ ([ob 3 [iv 0, iv 0, iv 0, iv (-1)]] ++ ([ia 144 zz] ++ (stS 95 S00))))))))))))) ?_ rfl rfl rfl
    refine a_aast (pc := 145) ok dX6_init_145 rfl (by decide) (by first | omega | (unfold rg; omega) | (simp only [rg] at *; omega) | exact bz_rg _ | grind [rg]) rfl ?_
    refine a_iinc (pc := 146) ok dX6_init_146 rfl rfl (by rw [hN]; decide) ?_
    refine a_goto (pc := 149) (tgt := 128) ok dX6_init_149 (by decide) ?_
    exact e_1 hXl hN hnm gk
theorem gX6 : CtG l yX6_init cX6_init 2 rgX6_init [.ref 0] [ob 6 bl6] N6 := by
  refine CtG.of miX6_init (Nat.le_of_ble_eq_true rfl) ?_
  intro X hXl hN hnm gk
  replace hnm : X.2.2.1.1.name = "<init>" := hnm
  have ok := gk.ok
  refine AW.cast (L2 := [some (.ref 0), none]) ?_ rfl rfl rfl
  refine a_aload_n (pc := 0) ok dX6_init_0 rfl ?_
  refine a_objI (pc := 1) ok dX6_init_1 (ug1 22 (by decide +kernel) rfl) ⟨by decide, by decide⟩ (Nat.le_of_ble_eq_true rfl) ?_
  refine a_aload_n (pc := 4) ok dX6_init_4 rfl ?_
  refine a_new (pc := 5) gk (Nat.le_of_ble_eq_true rfl) dX6_init_5 nw6_7 ⟨by decide, by decide⟩ (by repeat' (first | exact True.intro | exact rfl | exact none_k | exact ringP_k (by decide) | exact up_k none_k (by decide) | refine ⟨?_, ?_⟩)) rfl rfl ?_
  intro X hs gk
  replace hXl := hs.l.trans hXl
  replace hN := hs.n.trans hN
  replace hnm := hs.m.trans hnm
  have ok := gk.ok
  refine a_dup (pc := 8) ok dX6_init_8 rfl ?_
  refine a_callI (pc := 9) (M := _) gk (Nat.le_of_ble_eq_true rfl) dX6_init_9 (Or.inr ⟨"BandEngraver", nw1 27 (by decide +kernel) rfl⟩) rfl (ug1 28 (by decide +kernel) rfl) miX5_init (gX5) (Nat.le_of_ble_eq_true rfl) kN5 ⟨by decide, by decide, by decide, by decide⟩ (by repeat' (first | exact True.intro | exact rfl | exact none_k | exact ringP_k (by decide) | exact up_k none_k (by decide) | refine ⟨?_, ?_⟩)) rfl rfl rfl (Nat.le_of_ble_eq_true rfl) ?_
  intro X hs gk
  replace hXl := hs.l.trans hXl
  replace hN := hs.n.trans hN
  replace hnm := hs.m.trans hnm
  have ok := gk.ok
  refine a_putfF (pc := 12) ok dX6_init_12 fpF6_10 hnm rfl rfl rfl (Nat.le_of_ble_eq_true rfl) ?_
  refine AW.cast (M2 := ob 6 [.ref 1, .null, .null, .null, .null, .null, .null, iv 0, iv 0, .null, .null, .null, .null] :: (txA 1 0 zz)) ?_ rfl rfl rfl
  refine a_aload_n (pc := 15) ok dX6_init_15 rfl ?_
  refine a_new (pc := 16) gk (Nat.le_of_ble_eq_true rfl) dX6_init_16 nw6_16 ⟨by decide, by decide⟩ (by repeat' (first | exact True.intro | exact rfl | exact none_k | exact ringP_k (by decide) | exact up_k none_k (by decide) | refine ⟨?_, ?_⟩)) rfl rfl ?_
  intro X hs gk
  replace hXl := hs.l.trans hXl
  replace hN := hs.n.trans hN
  replace hnm := hs.m.trans hnm
  have ok := gk.ok
  refine a_dup (pc := 19) ok dX6_init_19 rfl ?_
  refine a_callI (pc := 20) (M := _) gk (Nat.le_of_ble_eq_true rfl) dX6_init_20 (Or.inl (ug1 42 (by decide +kernel) rfl)) rfl (ug1 43 (by decide +kernel) rfl) miX4_init (gX4) (Nat.le_of_ble_eq_true rfl) kN4 ⟨by decide, by decide, by decide, by decide⟩ (by repeat' (first | exact True.intro | exact rfl | exact none_k | exact ringP_k (by decide) | exact up_k none_k (by decide) | refine ⟨?_, ?_⟩)) rfl rfl rfl (Nat.le_of_ble_eq_true rfl) ?_
  intro X hs gk
  replace hXl := hs.l.trans hXl
  replace hN := hs.n.trans hN
  replace hnm := hs.m.trans hnm
  have ok := gk.ok
  refine a_putfF (pc := 23) ok dX6_init_23 fpF6_19 hnm rfl rfl rfl (Nat.le_of_ble_eq_true rfl) ?_
  refine AW.cast (M2 := ob 6 [.ref 1, .ref 3, .null, .null, .null, .null, .null, iv 0, iv 0, .null, .null, .null, .null] :: (txA 1 0 zz ++ (stS 3 S00))) ?_ rfl rfl rfl
  refine a_aload_n (pc := 26) ok dX6_init_26 rfl ?_
  refine a_new (pc := 27) gk (Nat.le_of_ble_eq_true rfl) dX6_init_27 nw6_23 ⟨by decide, by decide⟩ (by repeat' (first | exact True.intro | exact rfl | exact none_k | exact ringP_k (by decide) | exact up_k none_k (by decide) | refine ⟨?_, ?_⟩)) rfl rfl ?_
  intro X hs gk
  replace hXl := hs.l.trans hXl
  replace hN := hs.n.trans hN
  replace hnm := hs.m.trans hnm
  have ok := gk.ok
  refine a_dup (pc := 30) ok dX6_init_30 rfl ?_
  refine a_callI (pc := 31) (M := _) gk (Nat.le_of_ble_eq_true rfl) dX6_init_31 (Or.inl (ug1 96 (by decide +kernel) rfl)) rfl (ug1 97 (by decide +kernel) rfl) miX1_init (gX1) (Nat.le_of_ble_eq_true rfl) kN1 ⟨by decide, by decide, by decide, by decide⟩ (by repeat' (first | exact True.intro | exact rfl | exact none_k | exact ringP_k (by decide) | exact up_k none_k (by decide) | refine ⟨?_, ?_⟩)) rfl rfl rfl (Nat.le_of_ble_eq_true rfl) ?_
  intro X hs gk
  replace hXl := hs.l.trans hXl
  replace hN := hs.n.trans hN
  replace hnm := hs.m.trans hnm
  have ok := gk.ok
  refine AW.cast (M2 := ob 6 [.ref 1, .ref 3, .null, .null, .null, .null, .null, iv 0, iv 0, .null, .null, .null, .null] :: (txA 1 0 zz ++ (stS 3 S00 ++ (mmA 7 (ringP 7) 0 0 (fun _ => S00))))) ?_ rfl rfl (by show (ob 6 [.ref 1, .ref 3, .null, .null, .null, .null, .null, iv 0, iv 0, .null, .null, .null, .null] :: (txA 1 0 zz ++ (stS 3 S00)) ++ N1.map (re (List.range' 7 58)) : List va_E) = _; rw [N1_7]; rfl)
  refine a_putfF (pc := 34) ok dX6_init_34 fpF6_26 hnm rfl rfl rfl (Nat.le_of_ble_eq_true rfl) ?_
  refine AW.cast (M2 := ob 6 [.ref 1, .ref 3, .ref 7, .null, .null, .null, .null, iv 0, iv 0, .null, .null, .null, .null] :: (txA 1 0 zz ++ (stS 3 S00 ++ (mmA 7 (ringP 7) 0 0 (fun _ => S00))))) ?_ rfl rfl rfl
  refine a_aload_n (pc := 37) ok dX6_init_37 rfl ?_
  refine a_iconst (pc := 38) ok dX6_init_38 ?_
  refine a_newq (pc := 39) (n := 2) gk (Nat.le_of_ble_eq_true rfl) dX6_init_39 (ug1 40 (by decide +kernel) rfl) (by decide) rfl (by decide) ⟨by decide, by decide⟩ (by repeat' (first | exact True.intro | exact rfl | exact none_k | exact ringP_k (by decide) | exact up_k none_k (by decide) | refine ⟨?_, ?_⟩)) rfl rfl ?_
  intro X hs gk
  replace hXl := hs.l.trans hXl
  replace hN := hs.n.trans hN
  replace hnm := hs.m.trans hnm
  have ok := gk.ok
  refine a_putfF (pc := 42) ok dX6_init_42 fpF6_30 hnm rfl rfl rfl (Nat.le_of_ble_eq_true rfl) ?_
  refine AW.cast (M2 := ob 6 [.ref 1, .ref 3, .ref 7, .ref 65, .null, .null, .null, iv 0, iv 0, .null, .null, .null, .null] :: (txA 1 0 zz ++ (stS 3 S00 ++ (mmA 7 (ringP 7) 0 0 (fun _ => S00) ++ ([qa 2 (fun _ => none)]))))) ?_ rfl rfl rfl
  refine a_aload_n (pc := 45) ok dX6_init_45 rfl ?_
  refine a_iconst (pc := 46) ok dX6_init_46 ?_
  refine a_newa (pc := 47) (t := 1) (n := 2) (x := .inl (arr fun _ => 0)) gk (Nat.le_of_ble_eq_true rfl) dX6_init_47 ac_boolean (fun _ => rfl) (fun _ => rfl) True.intro (fun _ => rfl) (by decide) rfl (by decide) ⟨by decide, by decide⟩ (by repeat' (first | exact True.intro | exact rfl | exact none_k | exact ringP_k (by decide) | exact up_k none_k (by decide) | refine ⟨?_, ?_⟩)) rfl rfl ?_
  intro X hs gk
  replace hXl := hs.l.trans hXl
  replace hN := hs.n.trans hN
  replace hnm := hs.m.trans hnm
  have ok := gk.ok
  refine a_putfF (pc := 49) ok dX6_init_49 fpF6_34 hnm rfl rfl rfl (Nat.le_of_ble_eq_true rfl) ?_
  refine AW.cast (M2 := ob 6 [.ref 1, .ref 3, .ref 7, .ref 65, .ref 66, .null, .null, iv 0, iv 0, .null, .null, .null, .null] :: (txA 1 0 zz ++ (stS 3 S00 ++ (mmA 7 (ringP 7) 0 0 (fun _ => S00) ++ ([qa 2 (fun _ => none)] ++ ([za 2 zz])))))) ?_ rfl rfl rfl
  refine a_aload_n (pc := 52) ok dX6_init_52 rfl ?_
  refine a_new (pc := 53) gk (Nat.le_of_ble_eq_true rfl) dX6_init_53 nw6_38 ⟨by decide, by decide⟩ (by repeat' (first | exact True.intro | exact rfl | exact none_k | exact ringP_k (by decide) | exact up_k none_k (by decide) | refine ⟨?_, ?_⟩)) rfl rfl ?_
  intro X hs gk
  replace hXl := hs.l.trans hXl
  replace hN := hs.n.trans hN
  replace hnm := hs.m.trans hnm
  have ok := gk.ok
  refine a_dup (pc := 56) ok dX6_init_56 rfl ?_
  refine a_callI (pc := 57) (M := _) gk (Nat.le_of_ble_eq_true rfl) dX6_init_57 (Or.inr ⟨"BandEngraver", nw1 116 (by decide +kernel) rfl⟩) rfl (ug1 117 (by decide +kernel) rfl) miX0_init (gX0) (Nat.le_of_ble_eq_true rfl) kN0 ⟨by decide, by decide, by decide, by decide⟩ (by repeat' (first | exact True.intro | exact rfl | exact none_k | exact ringP_k (by decide) | exact up_k none_k (by decide) | refine ⟨?_, ?_⟩)) rfl rfl rfl (Nat.le_of_ble_eq_true rfl) ?_
  intro X hs gk
  replace hXl := hs.l.trans hXl
  replace hN := hs.n.trans hN
  replace hnm := hs.m.trans hnm
  have ok := gk.ok
  refine a_putfF (pc := 60) ok dX6_init_60 fpF6_41 hnm rfl rfl rfl (Nat.le_of_ble_eq_true rfl) ?_
  refine AW.cast (M2 := ob 6 [.ref 1, .ref 3, .ref 7, .ref 65, .ref 66, .ref 67, .null, iv 0, iv 0, .null, .null, .null, .null] :: (txA 1 0 zz ++ (stS 3 S00 ++ (mmA 7 (ringP 7) 0 0 (fun _ => S00) ++ ([qa 2 (fun _ => none)] ++ ([za 2 zz] ++ (isA 67 1 1 1 0 zz zz zz zz zz zz zz))))))) ?_ rfl rfl rfl
  refine a_aload_n (pc := 63) ok dX6_init_63 rfl ?_
  refine a_new (pc := 64) gk (Nat.le_of_ble_eq_true rfl) dX6_init_64 nw6_45 ⟨by decide, by decide⟩ (by repeat' (first | exact True.intro | exact rfl | exact none_k | exact ringP_k (by decide) | exact up_k none_k (by decide) | refine ⟨?_, ?_⟩)) rfl rfl ?_
  intro X hs gk
  replace hXl := hs.l.trans hXl
  replace hN := hs.n.trans hN
  replace hnm := hs.m.trans hnm
  have ok := gk.ok
  refine a_dup (pc := 67) ok dX6_init_67 rfl ?_
  refine a_callI (pc := 68) (M := _) gk (Nat.le_of_ble_eq_true rfl) dX6_init_68 (Or.inr ⟨"BandEngraver", nw1 162 (by decide +kernel) rfl⟩) rfl (ug1 163 (by decide +kernel) rfl) miX2_init (gX2) (Nat.le_of_ble_eq_true rfl) kN2 ⟨by decide, by decide, by decide, by decide⟩ (by repeat' (first | exact True.intro | exact rfl | exact none_k | exact ringP_k (by decide) | exact up_k none_k (by decide) | refine ⟨?_, ?_⟩)) rfl rfl rfl (Nat.le_of_ble_eq_true rfl) ?_
  intro X hs gk
  replace hXl := hs.l.trans hXl
  replace hN := hs.n.trans hN
  replace hnm := hs.m.trans hnm
  have ok := gk.ok
  refine a_putfF (pc := 71) ok dX6_init_71 fpF6_48 hnm rfl rfl rfl (Nat.le_of_ble_eq_true rfl) ?_
  refine AW.cast (M2 := ob 6 [.ref 1, .ref 3, .ref 7, .ref 65, .ref 66, .ref 67, .ref 75, iv 0, iv 0, .null, .null, .null, .null] :: (txA 1 0 zz ++ (stS 3 S00 ++ (mmA 7 (ringP 7) 0 0 (fun _ => S00) ++ ([qa 2 (fun _ => none)] ++ ([za 2 zz] ++ (isA 67 1 1 1 0 zz zz zz zz zz zz zz ++ (nsA 75 zz zz zz zz zz)))))))) ?_ rfl rfl rfl
  refine a_aload_n (pc := 74) ok dX6_init_74 rfl ?_
  refine a_iconst (pc := 75) ok dX6_init_75 ?_
  refine a_putf (pc := 76) ok dX6_init_76 fp6_52 rfl (by first | rfl | decide) (by first | rfl | decide) (Nat.le_of_ble_eq_true rfl) ?_
  refine a_aload_n (pc := 79) ok dX6_init_79 rfl ?_
  refine a_iconst (pc := 80) ok dX6_init_80 ?_
  refine a_putf (pc := 81) ok dX6_init_81 fp6_56 rfl (by first | rfl | decide) (by first | rfl | decide) (Nat.le_of_ble_eq_true rfl) ?_
  refine a_aload_n (pc := 84) ok dX6_init_84 rfl ?_
  refine a_new (pc := 85) gk (Nat.le_of_ble_eq_true rfl) dX6_init_85 nw6_16 ⟨by decide, by decide⟩ (by repeat' (first | exact True.intro | exact rfl | exact none_k | exact ringP_k (by decide) | exact up_k none_k (by decide) | refine ⟨?_, ?_⟩)) rfl rfl ?_
  intro X hs gk
  replace hXl := hs.l.trans hXl
  replace hN := hs.n.trans hN
  replace hnm := hs.m.trans hnm
  have ok := gk.ok
  refine a_dup (pc := 88) ok dX6_init_88 rfl ?_
  refine a_callI (pc := 89) (M := _) gk (Nat.le_of_ble_eq_true rfl) dX6_init_89 (Or.inl (ug1 42 (by decide +kernel) rfl)) rfl (ug1 43 (by decide +kernel) rfl) miX4_init (gX4) (Nat.le_of_ble_eq_true rfl) kN4 ⟨by decide, by decide, by decide, by decide⟩ (by repeat' (first | exact True.intro | exact rfl | exact none_k | exact ringP_k (by decide) | exact up_k none_k (by decide) | refine ⟨?_, ?_⟩)) rfl rfl rfl (Nat.le_of_ble_eq_true rfl) ?_
  intro X hs gk
  replace hXl := hs.l.trans hXl
  replace hN := hs.n.trans hN
  replace hnm := hs.m.trans hnm
  have ok := gk.ok
  refine a_putfF (pc := 92) ok dX6_init_92 fpF6_59 hnm rfl rfl rfl (Nat.le_of_ble_eq_true rfl) ?_
  refine AW.cast (M2 := ob 6 [.ref 1, .ref 3, .ref 7, .ref 65, .ref 66, .ref 67, .ref 75, iv 0, iv 0, .ref 81, .null, .null, .null] :: (txA 1 0 zz ++ (stS 3 S00 ++ (mmA 7 (ringP 7) 0 0 (fun _ => S00) ++ ([qa 2 (fun _ => none)] ++ ([za 2 zz] ++ (isA 67 1 1 1 0 zz zz zz zz zz zz zz ++ (nsA 75 zz zz zz zz zz ++ (stS 81 S00))))))))) ?_ rfl rfl rfl
  refine a_aload_n (pc := 95) ok dX6_init_95 rfl ?_
  refine a_new (pc := 96) gk (Nat.le_of_ble_eq_true rfl) dX6_init_96 nw6_38 ⟨by decide, by decide⟩ (by repeat' (first | exact True.intro | exact rfl | exact none_k | exact ringP_k (by decide) | exact up_k none_k (by decide) | refine ⟨?_, ?_⟩)) rfl rfl ?_
  intro X hs gk
  replace hXl := hs.l.trans hXl
  replace hN := hs.n.trans hN
  replace hnm := hs.m.trans hnm
  have ok := gk.ok
  refine a_dup (pc := 99) ok dX6_init_99 rfl ?_
  refine a_callI (pc := 100) (M := _) gk (Nat.le_of_ble_eq_true rfl) dX6_init_100 (Or.inr ⟨"BandEngraver", nw1 116 (by decide +kernel) rfl⟩) rfl (ug1 117 (by decide +kernel) rfl) miX0_init (gX0) (Nat.le_of_ble_eq_true rfl) kN0 ⟨by decide, by decide, by decide, by decide⟩ (by repeat' (first | exact True.intro | exact rfl | exact none_k | exact ringP_k (by decide) | exact up_k none_k (by decide) | refine ⟨?_, ?_⟩)) rfl rfl rfl (Nat.le_of_ble_eq_true rfl) ?_
  intro X hs gk
  replace hXl := hs.l.trans hXl
  replace hN := hs.n.trans hN
  replace hnm := hs.m.trans hnm
  have ok := gk.ok
  refine a_putfF (pc := 103) ok dX6_init_103 fpF6_62 hnm rfl rfl rfl (Nat.le_of_ble_eq_true rfl) ?_
  refine AW.cast (M2 := ob 6 [.ref 1, .ref 3, .ref 7, .ref 65, .ref 66, .ref 67, .ref 75, iv 0, iv 0, .ref 81, .ref 85, .null, .null] :: (txA 1 0 zz ++ (stS 3 S00 ++ (mmA 7 (ringP 7) 0 0 (fun _ => S00) ++ ([qa 2 (fun _ => none)] ++ ([za 2 zz] ++ (isA 67 1 1 1 0 zz zz zz zz zz zz zz ++ (nsA 75 zz zz zz zz zz ++ (stS 81 S00 ++ (isA 85 1 1 1 0 zz zz zz zz zz zz zz)))))))))) ?_ rfl rfl rfl
  refine a_aload_n (pc := 106) ok dX6_init_106 rfl ?_
  refine a_new (pc := 107) gk (Nat.le_of_ble_eq_true rfl) dX6_init_107 nw6_65 ⟨by decide, by decide⟩ (by repeat' (first | exact True.intro | exact rfl | exact none_k | exact ringP_k (by decide) | exact up_k none_k (by decide) | refine ⟨?_, ?_⟩)) rfl rfl ?_
  intro X hs gk
  replace hXl := hs.l.trans hXl
  replace hN := hs.n.trans hN
  replace hnm := hs.m.trans hnm
  have ok := gk.ok
  refine a_dup (pc := 110) ok dX6_init_110 rfl ?_
  refine a_callI (pc := 111) (M := _) gk (Nat.le_of_ble_eq_true rfl) dX6_init_111 (Or.inr ⟨"BandEngraver", nw1 187 (by decide +kernel) rfl⟩) rfl (ug1 188 (by decide +kernel) rfl) miX3_init (gX3) (Nat.le_of_ble_eq_true rfl) kN3 ⟨by decide, by decide, by decide, by decide⟩ (by repeat' (first | exact True.intro | exact rfl | exact none_k | exact ringP_k (by decide) | exact up_k none_k (by decide) | refine ⟨?_, ?_⟩)) rfl rfl rfl (Nat.le_of_ble_eq_true rfl) ?_
  intro X hs gk
  replace hXl := hs.l.trans hXl
  replace hN := hs.n.trans hN
  replace hnm := hs.m.trans hnm
  have ok := gk.ok
  refine a_putfF (pc := 114) ok dX6_init_114 fpF6_68 hnm rfl rfl rfl (Nat.le_of_ble_eq_true rfl) ?_
  refine AW.cast (M2 := ob 6 [.ref 1, .ref 3, .ref 7, .ref 65, .ref 66, .ref 67, .ref 75, iv 0, iv 0, .ref 81, .ref 85, .ref 93, .null] :: (txA 1 0 zz ++ (stS 3 S00 ++ (mmA 7 (ringP 7) 0 0 (fun _ => S00) ++ ([qa 2 (fun _ => none)] ++ ([za 2 zz] ++ (isA 67 1 1 1 0 zz zz zz zz zz zz zz ++ (nsA 75 zz zz zz zz zz ++ (stS 81 S00 ++ (isA 85 1 1 1 0 zz zz zz zz zz zz zz ++ ([ob 3 [iv 0, iv 0, iv 0, iv (-1)]]))))))))))) ?_ rfl rfl rfl
  refine a_aload_n (pc := 117) ok dX6_init_117 rfl ?_
  refine a_sipush (pc := 118) ok dX6_init_118 (by decide) ?_
  refine a_newa (pc := 121) (t := 0) (n := 144) (x := .inl (arr fun _ => 0)) gk (Nat.le_of_ble_eq_true rfl) dX6_init_121 ac_int (fun _ => rfl) (fun _ => rfl) True.intro (fun _ => rfl) (by decide) rfl (by decide) ⟨by decide, by decide⟩ (by repeat' (first | exact True.intro | exact rfl | exact none_k | exact ringP_k (by decide) | exact up_k none_k (by decide) | refine ⟨?_, ?_⟩)) rfl rfl ?_
  intro X hs gk
  replace hXl := hs.l.trans hXl
  replace hN := hs.n.trans hN
  replace hnm := hs.m.trans hnm
  have ok := gk.ok
  refine a_putfF (pc := 123) ok dX6_init_123 fpF6_72 hnm rfl rfl rfl (Nat.le_of_ble_eq_true rfl) ?_
  refine AW.cast (M2 := ob 6 [.ref 1, .ref 3, .ref 7, .ref 65, .ref 66, .ref 67, .ref 75, iv 0, iv 0, .ref 81, .ref 85, .ref 93, .ref 94] :: (txA 1 0 zz ++ (stS 3 S00 ++ (mmA 7 (ringP 7) 0 0 (fun _ => S00) ++ ([qa 2 (fun _ => none)] ++ ([za 2 zz] ++ (isA 67 1 1 1 0 zz zz zz zz zz zz zz ++ (nsA 75 zz zz zz zz zz ++ (stS 81 S00 ++ (isA 85 1 1 1 0 zz zz zz zz zz zz zz ++ ([ob 3 [iv 0, iv 0, iv 0, iv (-1)]] ++ ([ia 144 zz])))))))))))) ?_ rfl rfl rfl
  refine a_iconst (pc := 126) ok dX6_init_126 ?_
  refine a_istore_n (pc := 127) ok dX6_init_127 rfl (by rw [hN]; decide) ?_
  exact e_0 hXl hN hnm gk
end CT5
