/-! MODEL's text: numbers read digit by digit. -/
section TM1
variable {l : Launch} {rf sz : Int} {S : St} {ac : Int} {B I : Int → Int} {m : Int} {Fi Co Br Wt mk gy : Int → Int} {sd rt lf wy sp ou : Int} {tx : Int → Int}
/-- the Model with its text at 10 -/
abbrev mtM (rf sz : Int) (S : St) (ac : Int) (B I : Int → Int) (m : Int) (Fi Co Br Wt mk gy : Int → Int) (sd rt lf wy sp ou : Int) (tx : Int → Int) : List va_E :=
  [ob 7 [iv rf, .ref 10, iv sz, .ref 11, .ref 12, .ref 13, iv ac, .ref 14, .ref 15, .ref 2, .ref 3, iv m, .ref 4, .ref 5, .ref 6, .ref 7, .ref 8, .ref 9, .ref 16, iv sd, iv rt, iv lf, iv wy, iv sp, iv ou], ia 160 (rowS S), ia 144 B, ia 144 I, ia 144 Fi, ia 144 Co, ia 144 Br, ia 144 Wt, ia 144 mk, ia 144 gy, ia 120 tx]
/-- a digit, a second one; the number; where the reader is then -/
abbrev f1 (t : Int → Int) (n p lo hi : Int) : Prop := p < n ∧ (0 ≤ t p - 48 ∧ t p - 48 ≤ 9) ∧ (t p - 48) * 10 ≤ hi ∧ lo ≤ (t p - 48) * 10 + 9
abbrev f2 (t : Int → Int) (n p lo hi : Int) : Prop := p + 1 < n ∧ (0 ≤ t (p + 1) - 48 ∧ t (p + 1) - 48 ≤ 9) ∧ (t p - 48) * 10 + (t (p + 1) - 48) ≤ hi ∧ lo ≤ (t p - 48) * 10 + (t (p + 1) - 48)
def fV (t : Int → Int) (n p lo hi : Int) : Int := if f1 t n p lo hi ∧ f2 t n p lo hi then (t p - 48) * 10 + (t (p + 1) - 48) else -1
def fP (t : Int → Int) (n p lo hi : Int) : Int := if f1 t n p lo hi then (if f2 t n p lo hi then p + 2 else p + 1) else p
/-- numbers behind a sign k at p: the last one, and where the reader is -/
def fq (t : Int → Int) (n k p : Int) : Nat → Int × Int
  | 0 => (0, p + 1)
  | i + 1 => if (fq t n k p i).1 = -1 then fq t n k p i else (fV t n (fq t n k p i).2 (loO k) (hiO k i), fP t n (fq t n k p i).2 (loO k) (hiO k i))
section
variable {t : Int → Int} {n k p : Int}
theorem dBad_s (i : Nat) : dBad t n k p (i + 1) = if dBad t n k p i = -1 then (if tr (¬ dOk t n k p (2 * i : Nat)) = true then ((2 * i : Nat) : Int) else if tr (¬ dOk t n k p (2 * i + 1 : Nat)) = true then ((2 * i + 1 : Nat) : Int) else -1) else dBad t n k p i := by
  unfold dBad
  rw [show 2 * (i + 1) = (2 * i + 1) + 1 by omega]
  simp only [fstK]
  by_cases h : fstK (fun j => tr (¬ dOk t n k p j)) (2 * i) = -1
  · rw [if_pos h, if_pos h]
    by_cases h2 : tr (¬ dOk t n k p (2 * i : Nat)) = true
    · rw [if_pos h2, if_neg (by omega)]; rw [if_pos h2]
    · rw [if_neg h2, if_pos rfl]; rw [if_neg h2]
  · rw [if_neg h, if_neg h]; rw [if_neg h]
theorem fq_spec (hn : n ≤ 120) (hp : 0 ≤ p) : ∀ i : Nat, (dBad t n k p i = -1 → (fq t n k p i).2 = p + 1 + 2 * i ∧ 0 ≤ (fq t n k p i).1 ∧ (∀ j : Nat, j < i → loO k ≤ nmA t n (p + 1 + 2 * j) ∧ nmA t n (p + 1 + 2 * j) ≤ hiO k j) ∧ ∀ j : Nat, j < i → (fq t n k p (j + 1)).1 = nmA t n (p + 1 + 2 * j)) ∧ (dBad t n k p i ≠ -1 → (fq t n k p i).1 = -1 ∧ (fq t n k p i).2 = p + 1 + dBad t n k p i)
  | 0 => ⟨fun _ => ⟨by show p + 1 = p + 1 + 2 * ((0 : Nat) : Int); omega, Int.le_refl _, fun j hj => by omega, fun j hj => by omega⟩, fun h => absurd rfl h⟩
  | i + 1 => by
    obtain ⟨h1, h2⟩ := fq_spec hn hp i
    have hs := dBad_s (t := t) (n := n) (k := k) (p := p) i
    have hl := loO_rg k
    have hh := hiO_rg k i
    by_cases hb : dBad t n k p i = -1
    · obtain ⟨a1, a2, a3, a4⟩ := h1 hb
      rw [if_pos hb] at hs
      have e0 : fq t n k p (i + 1) = (fV t n (p + 1 + 2 * i) (loO k) (hiO k i), fP t n (p + 1 + 2 * i) (loO k) (hiO k i)) := by
        simp only [fq]; rw [if_neg (by omega), a1]
      have o1 : dOk t n k p (2 * i : Nat) ↔ f1 t n (p + 1 + 2 * i) (loO k) (hiO k i) := by
        unfold dOk f1
        have z1 : ((2 * i : Nat) : Int) % 2 = 0 := by omega
        have z2 : ((2 * i : Nat) : Int) / 2 = i := by omega
        have z3 : p + 1 + ((2 * i : Nat) : Int) = p + 1 + 2 * i := by omega
        rw [if_pos z1, z2, z3]
        omega
      have o2 : f1 t n (p + 1 + 2 * i) (loO k) (hiO k i) → (dOk t n k p (2 * i + 1 : Nat) ↔ f2 t n (p + 1 + 2 * i) (loO k) (hiO k i)) := fun hf => by
        unfold dOk f2
        have z1 : ¬ ((2 * i + 1 : Nat) : Int) % 2 = 0 := by omega
        have z2 : ((2 * i + 1 : Nat) : Int) / 2 = i := by omega
        have z3 : p + 1 + ((2 * i + 1 : Nat) : Int) = p + 1 + 2 * i + 1 := by omega
        have z4 : p + ((2 * i + 1 : Nat) : Int) = p + 1 + 2 * i := by omega
        rw [if_neg z1, z2, z3, z4]
        constructor
        · rintro ⟨q1, q2, q3, q4⟩
          unfold nmA at q3 q4
          have s1 : sg t n (p + 1 + 2 * i) = t (p + 1 + 2 * i) := if_pos (by omega)
          have s2 : sg t n (p + 1 + 2 * i + 1) = t (p + 1 + 2 * i + 1) := if_pos (by omega)
          rw [s1, s2] at q3 q4
          exact ⟨q1, q2, by omega, by omega⟩
        · rintro ⟨q1, q2, q3, q4⟩
          unfold nmA
          have s1 : sg t n (p + 1 + 2 * i) = t (p + 1 + 2 * i) := if_pos (by omega)
          have s2 : sg t n (p + 1 + 2 * i + 1) = t (p + 1 + 2 * i + 1) := if_pos (by omega)
          rw [s1, s2]
          exact ⟨q1, q2, by omega, by omega⟩
      by_cases c1 : f1 t n (p + 1 + 2 * i) (loO k) (hiO k i)
      · rw [tr_f.mpr (fun z => z (o1.mpr c1)), if_neg (by decide)] at hs
        by_cases c2 : f2 t n (p + 1 + 2 * i) (loO k) (hiO k i)
        · rw [tr_f.mpr (fun z => z ((o2 c1).mpr c2)), if_neg (by decide)] at hs
          have eV : fV t n (p + 1 + 2 * i) (loO k) (hiO k i) = nmA t n (p + 1 + 2 * i) := by
            unfold fV nmA
            have s1 : sg t n (p + 1 + 2 * i) = t (p + 1 + 2 * i) := if_pos (by have := c1.1; omega)
            have s2 : sg t n (p + 1 + 2 * i + 1) = t (p + 1 + 2 * i + 1) := if_pos (by have := c2.1; omega)
            rw [if_pos ⟨c1, c2⟩, s1, s2]; omega
          have eV2 : fV t n (p + 1 + 2 * i) (loO k) (hiO k i) = (t (p + 1 + 2 * i) - 48) * 10 + (t (p + 1 + 2 * i + 1) - 48) := if_pos ⟨c1, c2⟩
          have hr : loO k ≤ nmA t n (p + 1 + 2 * i) ∧ nmA t n (p + 1 + 2 * i) ≤ hiO k i := by rw [← eV, eV2]; exact ⟨c2.2.2.2, c2.2.2.1⟩
          refine ⟨fun _ => ⟨?_, ?_, fun j hj => ?_, fun j hj => ?_⟩, fun z => absurd hs z⟩
          · rw [e0]; show fP _ _ _ _ _ = _; unfold fP; rw [if_pos c1, if_pos c2]; omega
          · rw [e0]; show 0 ≤ fV _ _ _ _ _; rw [eV]; omega
          · rcases (show j < i ∨ j = i by omega) with z | z
            · exact a3 j z
            · rw [z]; exact hr
          · rcases (show j < i ∨ j = i by omega) with z | z
            · exact a4 j z
            · rw [z, e0]; exact eV
        · rw [tr_t.mpr (fun z => c2 ((o2 c1).mp z)), if_pos rfl] at hs
          refine ⟨fun z => by omega, fun _ => ⟨?_, ?_⟩⟩
          · rw [e0]; exact if_neg (fun z => c2 z.2)
          · rw [e0, hs]; show fP _ _ _ _ _ = _; unfold fP; rw [if_pos c1, if_neg c2]; omega
      · rw [tr_t.mpr (fun z => c1 (o1.mp z)), if_pos rfl] at hs
        refine ⟨fun z => by omega, fun _ => ⟨?_, ?_⟩⟩
        · rw [e0]; exact if_neg (fun z => c1 z.1)
        · rw [e0, hs]; show fP _ _ _ _ _ = _; unfold fP; rw [if_neg c1]; omega
    · obtain ⟨a1, a2⟩ := h2 hb
      rw [if_neg hb] at hs
      have e0 : fq t n k p (i + 1) = fq t n k p i := by simp only [fq]; rw [if_pos a1]
      rw [e0, hs]
      exact ⟨fun z => absurd z hb, fun _ => ⟨a1, a2⟩⟩
end
theorem dX7_figures_0 : decode cX7_figures 0 = .ok (.iconst 0, 1) := by decide +kernel
theorem dX7_figures_1 : decode cX7_figures 1 = .ok (.istore 4, 2) := by decide +kernel
theorem dX7_figures_3 : decode cX7_figures 3 = .ok (.bipush 10, 2) := by decide +kernel
theorem dX7_figures_5 : decode cX7_figures 5 = .ok (.istore 5, 2) := by decide +kernel
theorem dX7_figures_7 : decode cX7_figures 7 = .ok (.iload 5, 2) := by decide +kernel
theorem dX7_figures_9 : decode cX7_figures 9 = .ok (.ifCond .le 103, 3) := by decide +kernel
theorem dX7_figures_12 : decode cX7_figures 12 = .ok (.iload_n 1, 1) := by decide +kernel
theorem dX7_figures_13 : decode cX7_figures 13 = .ok (.iconst (-1), 1) := by decide +kernel
theorem dX7_figures_14 : decode cX7_figures 14 = .ok (.if_icmp .eq 98, 3) := by decide +kernel
theorem dX7_figures_17 : decode cX7_figures 17 = .ok (.aload_n 0, 1) := by decide +kernel
theorem dX7_figures_18 : decode cX7_figures 18 = .ok (.getfield 196, 3) := by decide +kernel
theorem dX7_figures_21 : decode cX7_figures 21 = .ok (.aload_n 0, 1) := by decide +kernel
theorem dX7_figures_22 : decode cX7_figures 22 = .ok (.getfield 189, 3) := by decide +kernel
theorem dX7_figures_25 : decode cX7_figures 25 = .ok (.if_icmp .ge 18, 3) := by decide +kernel
theorem dX7_figures_28 : decode cX7_figures 28 = .ok (.aload_n 0, 1) := by decide +kernel
theorem dX7_figures_29 : decode cX7_figures 29 = .ok (.getfield 7, 3) := by decide +kernel
theorem dX7_figures_32 : decode cX7_figures 32 = .ok (.aload_n 0, 1) := by decide +kernel
theorem dX7_figures_33 : decode cX7_figures 33 = .ok (.getfield 196, 3) := by decide +kernel
theorem dX7_figures_36 : decode cX7_figures 36 = .ok (.iaload, 1) := by decide +kernel
theorem dX7_figures_37 : decode cX7_figures 37 = .ok (.bipush 48, 2) := by decide +kernel
theorem dX7_figures_39 : decode cX7_figures 39 = .ok (.isub, 1) := by decide +kernel
theorem dX7_figures_40 : decode cX7_figures 40 = .ok (.goto 4, 3) := by decide +kernel
theorem dX7_figures_43 : decode cX7_figures 43 = .ok (.iconst (-1), 1) := by decide +kernel
theorem dX7_figures_44 : decode cX7_figures 44 = .ok (.istore 6, 2) := by decide +kernel
theorem dX7_figures_46 : decode cX7_figures 46 = .ok (.iload 4, 2) := by decide +kernel
theorem dX7_figures_48 : decode cX7_figures 48 = .ok (.iload 6, 2) := by decide +kernel
theorem dX7_figures_50 : decode cX7_figures 50 = .ok (.iload 5, 2) := by decide +kernel
theorem dX7_figures_52 : decode cX7_figures 52 = .ok (.imul, 1) := by decide +kernel
theorem dX7_figures_53 : decode cX7_figures 53 = .ok (.iadd, 1) := by decide +kernel
theorem dX7_figures_54 : decode cX7_figures 54 = .ok (.istore 7, 2) := by decide +kernel
theorem dX7_figures_56 : decode cX7_figures 56 = .ok (.iload 6, 2) := by decide +kernel
theorem dX7_figures_58 : decode cX7_figures 58 = .ok (.i2l, 1) := by decide +kernel
theorem dX7_figures_59 : decode cX7_figures 59 = .ok (.lconst 0, 1) := by decide +kernel
theorem dX7_figures_60 : decode cX7_figures 60 = .ok (.ldc2_w 199, 3) := by decide +kernel
theorem dX7_figures_63 : decode cX7_figures 63 = .ok (.invokestatic 68, 3) := by decide +kernel
theorem dX7_figures_66 : decode cX7_figures 66 = .ok (.ifCond .eq 20, 3) := by decide +kernel
theorem dX7_figures_69 : decode cX7_figures 69 = .ok (.iload 7, 2) := by decide +kernel
theorem dX7_figures_71 : decode cX7_figures 71 = .ok (.iload_n 3, 1) := by decide +kernel
theorem dX7_figures_72 : decode cX7_figures 72 = .ok (.if_icmp .gt 14, 3) := by decide +kernel
theorem dX7_figures_75 : decode cX7_figures 75 = .ok (.iload 7, 2) := by decide +kernel
theorem dX7_figures_77 : decode cX7_figures 77 = .ok (.iload 5, 2) := by decide +kernel
theorem dX7_figures_79 : decode cX7_figures 79 = .ok (.iadd, 1) := by decide +kernel
theorem dX7_figures_80 : decode cX7_figures 80 = .ok (.iconst 1, 1) := by decide +kernel
theorem dX7_figures_81 : decode cX7_figures 81 = .ok (.isub, 1) := by decide +kernel
theorem dX7_figures_82 : decode cX7_figures 82 = .ok (.iload_n 2, 1) := by decide +kernel
theorem dX7_figures_83 : decode cX7_figures 83 = .ok (.if_icmp .ge 5, 3) := by decide +kernel
theorem dX7_figures_86 : decode cX7_figures 86 = .ok (.iconst (-1), 1) := by decide +kernel
theorem dX7_figures_87 : decode cX7_figures 87 = .ok (.ireturn, 1) := by decide +kernel
theorem dX7_figures_88 : decode cX7_figures 88 = .ok (.iload 7, 2) := by decide +kernel
theorem dX7_figures_90 : decode cX7_figures 90 = .ok (.istore 4, 2) := by decide +kernel
theorem dX7_figures_92 : decode cX7_figures 92 = .ok (.aload_n 0, 1) := by decide +kernel
theorem dX7_figures_93 : decode cX7_figures 93 = .ok (.dup, 1) := by decide +kernel
theorem dX7_figures_94 : decode cX7_figures 94 = .ok (.getfield 196, 3) := by decide +kernel
theorem dX7_figures_97 : decode cX7_figures 97 = .ok (.iconst 1, 1) := by decide +kernel
theorem dX7_figures_98 : decode cX7_figures 98 = .ok (.iadd, 1) := by decide +kernel
theorem dX7_figures_99 : decode cX7_figures 99 = .ok (.putfield 196, 3) := by decide +kernel
theorem dX7_figures_102 : decode cX7_figures 102 = .ok (.iload 5, 2) := by decide +kernel
theorem dX7_figures_104 : decode cX7_figures 104 = .ok (.bipush 10, 2) := by decide +kernel
theorem dX7_figures_106 : decode cX7_figures 106 = .ok (.idiv, 1) := by decide +kernel
theorem dX7_figures_107 : decode cX7_figures 107 = .ok (.istore 5, 2) := by decide +kernel
theorem dX7_figures_109 : decode cX7_figures 109 = .ok (.goto (-102), 3) := by decide +kernel
theorem dX7_figures_112 : decode cX7_figures 112 = .ok (.iload_n 1, 1) := by decide +kernel
theorem dX7_figures_113 : decode cX7_figures 113 = .ok (.iconst (-1), 1) := by decide +kernel
theorem dX7_figures_114 : decode cX7_figures 114 = .ok (.if_icmp .ne 7, 3) := by decide +kernel
theorem dX7_figures_117 : decode cX7_figures 117 = .ok (.iconst (-1), 1) := by decide +kernel
theorem dX7_figures_118 : decode cX7_figures 118 = .ok (.goto 5, 3) := by decide +kernel
theorem dX7_figures_121 : decode cX7_figures 121 = .ok (.iload 4, 2) := by decide +kernel
theorem dX7_figures_123 : decode cX7_figures 123 = .ok (.ireturn, 1) := by decide +kernel
theorem c_figures {k p a lo hi : Int} {i : Nat} (hn : 0 ≤ sz ∧ sz ≤ 120) (ht : ∀ j, 0 ≤ tx j ∧ tx j ≤ 255) (hsp : 0 ≤ sp ∧ sp ≤ 300) (hq : fq tx sz k p i = (a, sp)) (hlo : lo = loO k) (hhi : hi = hiO k i) (ha : rg a) : Cd l yX7_figures cX7_figures 8 (some .int) rmX7_figures [.ref 0, iv a, iv lo, iv hi] (mtM rf sz S ac B I m Fi Co Br Wt mk gy sd rt lf wy sp ou tx) (some (iv (fq tx sz k p (i + 1)).1)) (mtM rf sz S ac B I m Fi Co Br Wt mk gy sd rt lf wy ((fq tx sz k p (i + 1)).2) ou tx) := by
  refine Ct.of miX7_figures (Nat.le_of_ble_eq_true rfl) ?_
  intro X hXl hN ok
  refine AW.cast (L2 := [some (.ref 0), some (iv a), some (iv lo), some (iv hi), none, none, none, none]) ?_ rfl rfl rfl
  have hl := loO_rg k
  have hh := hiO_rg k i
  have ht0 := ht sp
  have ht1 := ht (sp + 1)
  by_cases h0 : a = -1
  · have e0 : fq tx sz k p (i + 1) = (-1, sp) := by simp only [fq]; rw [hq, if_pos h0, h0]
    rw [e0] at ok
    refine a_iconst (pc := 0) ok dX7_figures_0 ?_
    refine a_istore (pc := 1) ok dX7_figures_1 rfl (by rw [hN]; decide) ?_
    refine a_bipush (pc := 3) ok dX7_figures_3 (by decide) ?_
    refine a_istore (pc := 5) ok dX7_figures_5 rfl (by rw [hN]; decide) ?_
    refine a_iload (pc := 7) ok dX7_figures_7 rfl ?_
    refine a_if_le (pc := 9) (tgt := 112) ok dX7_figures_9 (by decide) (by first | omega | (unfold rg; omega) | (simp only [rg] at *; omega) | exact bz_rg _ | grind [rg]) (fun c9 => ?_) (fun c9 => ?_)
    · omega
    · refine a_iload_n (pc := 12) ok dX7_figures_12 rfl ?_
      refine a_iconst (pc := 13) ok dX7_figures_13 ?_
      refine a_icmp_eq (pc := 14) (tgt := 112) ok dX7_figures_14 (by decide) (by first | omega | (unfold rg; omega) | (simp only [rg] at *; omega) | exact bz_rg _ | grind [rg]) (by first | omega | (unfold rg; omega) | (simp only [rg] at *; omega) | exact bz_rg _ | grind [rg]) (fun c14 => ?_) (fun c14 => ?_)
      · refine a_iload_n (pc := 112) ok dX7_figures_112 rfl ?_
        refine a_iconst (pc := 113) ok dX7_figures_113 ?_
        refine a_icmp_ne (pc := 114) (tgt := 121) ok dX7_figures_114 (by decide) (by first | omega | (unfold rg; omega) | (simp only [rg] at *; omega) | exact bz_rg _ | grind [rg]) (by first | omega | (unfold rg; omega) | (simp only [rg] at *; omega) | exact bz_rg _ | grind [rg]) (fun c114 => ?_) (fun c114 => ?_)
        · omega
        · refine a_iconst (pc := 117) ok dX7_figures_117 ?_
          refine a_goto (pc := 118) (tgt := 123) ok dX7_figures_118 (by decide) ?_
          exact a_iret (pc := 123) ok dX7_figures_123 (⟨rfl, rfl⟩)
      · omega
  · have e0 : fq tx sz k p (i + 1) = (fV tx sz sp lo hi, fP tx sz sp lo hi) := by simp only [fq]; rw [hq, if_neg h0, hlo, hhi]
    rw [e0] at ok
    have s2 : f1 tx sz sp lo hi → f2 tx sz sp lo hi → AW X 0 0 7 [some (.ref 0), some (iv a), some (iv lo), some (iv hi), some (iv ((tx sp - 48) * 10 + (tx (sp + 1) - 48))), some (iv 0), none, none] [] (mtM rf sz S ac B I m Fi Co Br Wt mk gy sd rt lf wy (sp + 1 + 1) ou tx) := by
      intro g1 g2
      have eV : fV tx sz sp lo hi = (tx sp - 48) * 10 + (tx (sp + 1) - 48) := if_pos ⟨g1, g2⟩
      have eP : fP tx sz sp lo hi = sp + 1 + 1 := by unfold fP; rw [if_pos g1, if_pos g2]; omega
      rw [eV, eP] at ok
      refine a_iload (pc := 7) ok dX7_figures_7 rfl ?_
      refine a_if_le (pc := 9) (tgt := 112) ok dX7_figures_9 (by decide) (by first | omega | (unfold rg; omega) | (simp only [rg] at *; omega) | exact bz_rg _ | grind [rg]) (fun c9 => ?_) (fun c9 => ?_)
      · refine a_iload_n (pc := 112) ok dX7_figures_112 rfl ?_
        refine a_iconst (pc := 113) ok dX7_figures_113 ?_
        refine a_icmp_ne (pc := 114) (tgt := 121) ok dX7_figures_114 (by decide) (by first | omega | (unfold rg; omega) | (simp only [rg] at *; omega) | exact bz_rg _ | grind [rg]) (by first | omega | (unfold rg; omega) | (simp only [rg] at *; omega) | exact bz_rg _ | grind [rg]) (fun c114 => ?_) (fun c114 => ?_)
        · refine a_iload (pc := 121) ok dX7_figures_121 rfl ?_
          exact a_iret (pc := 123) ok dX7_figures_123 (⟨rfl, rfl⟩)
        · omega
      · exfalso; first | omega | grind
    have s1 : f1 tx sz sp lo hi → AW X 0 0 7 [some (.ref 0), some (iv a), some (iv lo), some (iv hi), some (iv ((tx sp - 48) * 10)), some (iv 1), none, none] [] (mtM rf sz S ac B I m Fi Co Br Wt mk gy sd rt lf wy (sp + 1) ou tx) := by
      intro g1
      have e2 : ¬ f2 tx sz sp lo hi → fV tx sz sp lo hi = -1 ∧ fP tx sz sp lo hi = sp + 1 := fun z => ⟨if_neg (fun y => z y.2), by unfold fP; rw [if_pos g1, if_neg z]⟩
      have b1 : sp + 1 < sz → bz ((0 : Int) ≤ tx (sp + 1) - 48 ∧ tx (sp + 1) - 48 ≤ 9) = 0 → ¬ (0 ≤ tx (sp + 1) - 48 ∧ tx (sp + 1) - 48 ≤ 9) := fun _ z y => by rw [bz_pos y] at z; exact absurd z (by decide)
      have b2 : ¬ bz ((0 : Int) ≤ tx (sp + 1) - 48 ∧ tx (sp + 1) - 48 ≤ 9) = 0 → (0 ≤ tx (sp + 1) - 48 ∧ tx (sp + 1) - 48 ≤ 9) := fun z => Classical.byContradiction fun y => z (bz_neg y)
      have g11 := g1.2.1
      refine a_iload (pc := 7) ok dX7_figures_7 rfl ?_
      refine a_if_le (pc := 9) (tgt := 112) ok dX7_figures_9 (by decide) (by first | omega | (unfold rg; omega) | (simp only [rg] at *; omega) | exact bz_rg _ | grind [rg]) (fun c9 => ?_) (fun c9 => ?_)
      · omega
      · refine a_iload_n (pc := 12) ok dX7_figures_12 rfl ?_
        refine a_iconst (pc := 13) ok dX7_figures_13 ?_
        refine a_icmp_eq (pc := 14) (tgt := 112) ok dX7_figures_14 (by decide) (by first | omega | (unfold rg; omega) | (simp only [rg] at *; omega) | exact bz_rg _ | grind [rg]) (by first | omega | (unfold rg; omega) | (simp only [rg] at *; omega) | exact bz_rg _ | grind [rg]) (fun c14 => ?_) (fun c14 => ?_)
        · omega
        · refine a_aload_n (pc := 17) ok dX7_figures_17 rfl ?_
          refine a_getf (pc := 18) ok dX7_figures_18 fl7_196 rfl rfl ?_
          refine a_aload_n (pc := 21) ok dX7_figures_21 rfl ?_
          refine a_getf (pc := 22) ok dX7_figures_22 fl7_189 rfl rfl ?_
          refine a_icmp_ge (pc := 25) (tgt := 43) ok dX7_figures_25 (by decide) (by first | omega | (unfold rg; omega) | (simp only [rg] at *; omega) | exact bz_rg _ | grind [rg]) (by first | omega | (unfold rg; omega) | (simp only [rg] at *; omega) | exact bz_rg _ | grind [rg]) (fun c25 => ?_) (fun c25 => ?_)
          · refine a_iconst (pc := 43) ok dX7_figures_43 ?_
            refine a_istore (pc := 44) ok dX7_figures_44 rfl (by rw [hN]; decide) ?_
            refine a_iload (pc := 46) ok dX7_figures_46 rfl ?_
            refine a_iload (pc := 48) ok dX7_figures_48 rfl ?_
            refine a_iload (pc := 50) ok dX7_figures_50 rfl ?_
            refine a_imul (pc := 52) ok dX7_figures_52 ?_
            refine a_iadd (pc := 53) ok dX7_figures_53 ?_
            refine a_istore (pc := 54) ok dX7_figures_54 rfl (by rw [hN]; decide) ?_
            refine a_iload (pc := 56) ok dX7_figures_56 rfl ?_
            refine a_i2l (pc := 58) ok dX7_figures_58 (by first | omega | (unfold rg; omega) | (simp only [rg] at *; omega) | exact bz_rg _ | grind [rg]) ?_
            refine a_lconst (pc := 59) (z := 0) ok dX7_figures_59 rfl ?_
            refine a_ldc2 (pc := 60) (z := 9) (v := Int64.ofInt 9) ok dX7_figures_60 (ug5 178 (by decide +kernel) rfl) rfl ?_
            refine a_callSp (pc := 63) ok [] dX7_figures_63 mv7_68 miX7_in (c_in (by unfold rgL; omega) (by unfold rgL; omega) (by unfold rgL; omega)) ⟨by decide, by decide, rfl, rfl, Nat.zero_le _, Nat.zero_le _⟩ rfl rfl (Nat.le_of_ble_eq_true rfl) rfl (by decide) ?_
            refine a_if_eq (pc := 66) (tgt := 86) ok dX7_figures_66 (by decide) (by exact bz_rg _) (fun c66 => ?_) (fun c66 => ?_)
            · have e3 := e2 (fun z => by have := z.1; omega)
              rw [e3.1, e3.2] at ok
              refine a_iconst (pc := 86) ok dX7_figures_86 ?_
              exact a_iret (pc := 87) ok dX7_figures_87 (⟨rfl, rfl⟩)
            · exact absurd (bz_neg (by omega)) c66
          · refine a_aload_n (pc := 28) ok dX7_figures_28 rfl ?_
            refine a_getf (pc := 29) ok dX7_figures_29 fl7_7 rfl rfl ?_
            refine a_aload_n (pc := 32) ok dX7_figures_32 rfl ?_
            refine a_getf (pc := 33) ok dX7_figures_33 fl7_196 rfl rfl ?_
            refine a_iald (pc := 36) ok dX7_figures_36 rfl (by first | decide | omega) (by first | omega | (unfold rg; omega) | (simp only [rg] at *; omega) | exact bz_rg _ | grind [rg]) ?_
            refine a_bipush (pc := 37) ok dX7_figures_37 (by decide) ?_
            refine a_isub (pc := 39) ok dX7_figures_39 ?_
            refine a_goto (pc := 40) (tgt := 44) ok dX7_figures_40 (by decide) ?_
            refine a_istore (pc := 44) ok dX7_figures_44 rfl (by rw [hN]; decide) ?_
            refine a_iload (pc := 46) ok dX7_figures_46 rfl ?_
            refine a_iload (pc := 48) ok dX7_figures_48 rfl ?_
            refine a_iload (pc := 50) ok dX7_figures_50 rfl ?_
            refine a_imul (pc := 52) ok dX7_figures_52 ?_
            refine a_iadd (pc := 53) ok dX7_figures_53 ?_
            refine a_istore (pc := 54) ok dX7_figures_54 rfl (by rw [hN]; decide) ?_
            refine a_iload (pc := 56) ok dX7_figures_56 rfl ?_
            refine a_i2l (pc := 58) ok dX7_figures_58 (by first | omega | (unfold rg; omega) | (simp only [rg] at *; omega) | exact bz_rg _ | grind [rg]) ?_
            refine a_lconst (pc := 59) (z := 0) ok dX7_figures_59 rfl ?_
            refine a_ldc2 (pc := 60) (z := 9) (v := Int64.ofInt 9) ok dX7_figures_60 (ug5 178 (by decide +kernel) rfl) rfl ?_
            refine a_callSp (pc := 63) ok [] dX7_figures_63 mv7_68 miX7_in (c_in (by unfold rgL; omega) (by unfold rgL; omega) (by unfold rgL; omega)) ⟨by decide, by decide, rfl, rfl, Nat.zero_le _, Nat.zero_le _⟩ rfl rfl (Nat.le_of_ble_eq_true rfl) rfl (by decide) ?_
            refine a_if_eq (pc := 66) (tgt := 86) ok dX7_figures_66 (by decide) (by exact bz_rg _) (fun c66 => ?_) (fun c66 => ?_)
            · have e3 := e2 (fun z => b1 (by omega) c66 z.2.1)
              rw [e3.1, e3.2] at ok
              refine a_iconst (pc := 86) ok dX7_figures_86 ?_
              exact a_iret (pc := 87) ok dX7_figures_87 (⟨rfl, rfl⟩)
            · refine a_iload (pc := 69) ok dX7_figures_69 rfl ?_
              refine a_iload_n (pc := 71) ok dX7_figures_71 rfl ?_
              refine a_icmp_gt (pc := 72) (tgt := 86) ok dX7_figures_72 (by decide) (by first | omega | (unfold rg; omega) | (simp only [rg] at *; omega) | exact bz_rg _ | grind [rg]) (by first | omega | (unfold rg; omega) | (simp only [rg] at *; omega) | exact bz_rg _ | grind [rg]) (fun c72 => ?_) (fun c72 => ?_)
              · have e3 := e2 (fun z => by have := z.2.2.1; omega)
                rw [e3.1, e3.2] at ok
                refine a_iconst (pc := 86) ok dX7_figures_86 ?_
                exact a_iret (pc := 87) ok dX7_figures_87 (⟨rfl, rfl⟩)
              · refine a_iload (pc := 75) ok dX7_figures_75 rfl ?_
                refine a_iload (pc := 77) ok dX7_figures_77 rfl ?_
                refine a_iadd (pc := 79) ok dX7_figures_79 ?_
                refine a_iconst (pc := 80) ok dX7_figures_80 ?_
                refine a_isub (pc := 81) ok dX7_figures_81 ?_
                refine a_iload_n (pc := 82) ok dX7_figures_82 rfl ?_
                refine a_icmp_ge (pc := 83) (tgt := 88) ok dX7_figures_83 (by decide) (by first | omega | (unfold rg; omega) | (simp only [rg] at *; omega) | exact bz_rg _ | grind [rg]) (by first | omega | (unfold rg; omega) | (simp only [rg] at *; omega) | exact bz_rg _ | grind [rg]) (fun c83 => ?_) (fun c83 => ?_)
                · refine a_iload (pc := 88) ok dX7_figures_88 rfl ?_
                  refine a_istore (pc := 90) ok dX7_figures_90 rfl (by rw [hN]; decide) ?_
                  refine a_aload_n (pc := 92) ok dX7_figures_92 rfl ?_
                  refine a_dup (pc := 93) ok dX7_figures_93 rfl ?_
                  refine a_getf (pc := 94) ok dX7_figures_94 fl7_196 rfl rfl ?_
                  refine a_iconst (pc := 97) ok dX7_figures_97 ?_
                  refine a_iadd (pc := 98) ok dX7_figures_98 ?_
                  refine a_putf (pc := 99) ok dX7_figures_99 fp7_196 rfl (by first | rfl | decide) (by first | rfl | decide) (Nat.le_of_ble_eq_true rfl) ?_
                  refine a_iload (pc := 102) ok dX7_figures_102 rfl ?_
                  refine a_bipush (pc := 104) ok dX7_figures_104 (by decide) ?_
                  refine a_idiv (pc := 106) ok dX7_figures_106 (by first | omega | (unfold rg; omega) | (simp only [rg] at *; omega) | exact bz_rg _ | grind [rg]) (by first | omega | (unfold rg; omega) | (simp only [rg] at *; omega) | exact bz_rg _ | grind [rg]) ?_
                  refine a_istore (pc := 107) ok dX7_figures_107 rfl (by rw [hN]; decide) ?_
                  refine a_goto (pc := 109) (tgt := 7) ok dX7_figures_109 (by decide) ?_
                  have g2 : f2 tx sz sp lo hi := ⟨by omega, b2 c66, by omega, by omega⟩
                  refine AW.forget (L2 := [some (.ref 0), some (iv a), some (iv lo), some (iv hi), some (iv ((tx sp - 48) * 10 + (tx (sp + 1) - 48) * 1)), some (iv 0), none, none]) ?_ (by repeat' (first | exact trivial | refine ⟨rfl, ?_⟩))
                  rw [Int.mul_one]; exact s2 g1 g2
                · have e3 := e2 (fun z => by have := z.2.2.2; omega)
                  rw [e3.1, e3.2] at ok
                  refine a_iconst (pc := 86) ok dX7_figures_86 ?_
                  exact a_iret (pc := 87) ok dX7_figures_87 (⟨rfl, rfl⟩)
    have e1 : ¬ f1 tx sz sp lo hi → fV tx sz sp lo hi = -1 ∧ fP tx sz sp lo hi = sp := fun z => ⟨if_neg (fun y => z y.1), by unfold fP; rw [if_neg z]⟩
    have b1 : bz ((0 : Int) ≤ tx sp - 48 ∧ tx sp - 48 ≤ 9) = 0 → ¬ (0 ≤ tx sp - 48 ∧ tx sp - 48 ≤ 9) := fun z y => by rw [bz_pos y] at z; exact absurd z (by decide)
    have b2 : ¬ bz ((0 : Int) ≤ tx sp - 48 ∧ tx sp - 48 ≤ 9) = 0 → (0 ≤ tx sp - 48 ∧ tx sp - 48 ≤ 9) := fun z => Classical.byContradiction fun y => z (bz_neg y)
    refine a_iconst (pc := 0) ok dX7_figures_0 ?_
    refine a_istore (pc := 1) ok dX7_figures_1 rfl (by rw [hN]; decide) ?_
    refine a_bipush (pc := 3) ok dX7_figures_3 (by decide) ?_
    refine a_istore (pc := 5) ok dX7_figures_5 rfl (by rw [hN]; decide) ?_
    refine a_iload (pc := 7) ok dX7_figures_7 rfl ?_
    refine a_if_le (pc := 9) (tgt := 112) ok dX7_figures_9 (by decide) (by first | omega | (unfold rg; omega) | (simp only [rg] at *; omega) | exact bz_rg _ | grind [rg]) (fun c9 => ?_) (fun c9 => ?_)
    · omega
    · refine a_iload_n (pc := 12) ok dX7_figures_12 rfl ?_
      refine a_iconst (pc := 13) ok dX7_figures_13 ?_
      refine a_icmp_eq (pc := 14) (tgt := 112) ok dX7_figures_14 (by decide) (by first | omega | (unfold rg; omega) | (simp only [rg] at *; omega) | exact bz_rg _ | grind [rg]) (by first | omega | (unfold rg; omega) | (simp only [rg] at *; omega) | exact bz_rg _ | grind [rg]) (fun c14 => ?_) (fun c14 => ?_)
      · omega
      · refine a_aload_n (pc := 17) ok dX7_figures_17 rfl ?_
        refine a_getf (pc := 18) ok dX7_figures_18 fl7_196 rfl rfl ?_
        refine a_aload_n (pc := 21) ok dX7_figures_21 rfl ?_
        refine a_getf (pc := 22) ok dX7_figures_22 fl7_189 rfl rfl ?_
        refine a_icmp_ge (pc := 25) (tgt := 43) ok dX7_figures_25 (by decide) (by first | omega | (unfold rg; omega) | (simp only [rg] at *; omega) | exact bz_rg _ | grind [rg]) (by first | omega | (unfold rg; omega) | (simp only [rg] at *; omega) | exact bz_rg _ | grind [rg]) (fun c25 => ?_) (fun c25 => ?_)
        · refine a_iconst (pc := 43) ok dX7_figures_43 ?_
          refine a_istore (pc := 44) ok dX7_figures_44 rfl (by rw [hN]; decide) ?_
          refine a_iload (pc := 46) ok dX7_figures_46 rfl ?_
          refine a_iload (pc := 48) ok dX7_figures_48 rfl ?_
          refine a_iload (pc := 50) ok dX7_figures_50 rfl ?_
          refine a_imul (pc := 52) ok dX7_figures_52 ?_
          refine a_iadd (pc := 53) ok dX7_figures_53 ?_
          refine a_istore (pc := 54) ok dX7_figures_54 rfl (by rw [hN]; decide) ?_
          refine a_iload (pc := 56) ok dX7_figures_56 rfl ?_
          refine a_i2l (pc := 58) ok dX7_figures_58 (by first | omega | (unfold rg; omega) | (simp only [rg] at *; omega) | exact bz_rg _ | grind [rg]) ?_
          refine a_lconst (pc := 59) (z := 0) ok dX7_figures_59 rfl ?_
          refine a_ldc2 (pc := 60) (z := 9) (v := Int64.ofInt 9) ok dX7_figures_60 (ug5 178 (by decide +kernel) rfl) rfl ?_
          refine a_callSp (pc := 63) ok [] dX7_figures_63 mv7_68 miX7_in (c_in (by unfold rgL; omega) (by unfold rgL; omega) (by unfold rgL; omega)) ⟨by decide, by decide, rfl, rfl, Nat.zero_le _, Nat.zero_le _⟩ rfl rfl (Nat.le_of_ble_eq_true rfl) rfl (by decide) ?_
          refine a_if_eq (pc := 66) (tgt := 86) ok dX7_figures_66 (by decide) (by exact bz_rg _) (fun c66 => ?_) (fun c66 => ?_)
          · have e3 := e1 (fun z => by have := z.1; omega)
            rw [e3.1, e3.2] at ok
            refine a_iconst (pc := 86) ok dX7_figures_86 ?_
            exact a_iret (pc := 87) ok dX7_figures_87 (⟨rfl, rfl⟩)
          · exact absurd (bz_neg (by omega)) c66
        · refine a_aload_n (pc := 28) ok dX7_figures_28 rfl ?_
          refine a_getf (pc := 29) ok dX7_figures_29 fl7_7 rfl rfl ?_
          refine a_aload_n (pc := 32) ok dX7_figures_32 rfl ?_
          refine a_getf (pc := 33) ok dX7_figures_33 fl7_196 rfl rfl ?_
          refine a_iald (pc := 36) ok dX7_figures_36 rfl (by first | decide | omega) (by first | omega | (unfold rg; omega) | (simp only [rg] at *; omega) | exact bz_rg _ | grind [rg]) ?_
          refine a_bipush (pc := 37) ok dX7_figures_37 (by decide) ?_
          refine a_isub (pc := 39) ok dX7_figures_39 ?_
          refine a_goto (pc := 40) (tgt := 44) ok dX7_figures_40 (by decide) ?_
          refine a_istore (pc := 44) ok dX7_figures_44 rfl (by rw [hN]; decide) ?_
          refine a_iload (pc := 46) ok dX7_figures_46 rfl ?_
          refine a_iload (pc := 48) ok dX7_figures_48 rfl ?_
          refine a_iload (pc := 50) ok dX7_figures_50 rfl ?_
          refine a_imul (pc := 52) ok dX7_figures_52 ?_
          refine a_iadd (pc := 53) ok dX7_figures_53 ?_
          refine a_istore (pc := 54) ok dX7_figures_54 rfl (by rw [hN]; decide) ?_
          refine a_iload (pc := 56) ok dX7_figures_56 rfl ?_
          refine a_i2l (pc := 58) ok dX7_figures_58 (by first | omega | (unfold rg; omega) | (simp only [rg] at *; omega) | exact bz_rg _ | grind [rg]) ?_
          refine a_lconst (pc := 59) (z := 0) ok dX7_figures_59 rfl ?_
          refine a_ldc2 (pc := 60) (z := 9) (v := Int64.ofInt 9) ok dX7_figures_60 (ug5 178 (by decide +kernel) rfl) rfl ?_
          refine a_callSp (pc := 63) ok [] dX7_figures_63 mv7_68 miX7_in (c_in (by unfold rgL; omega) (by unfold rgL; omega) (by unfold rgL; omega)) ⟨by decide, by decide, rfl, rfl, Nat.zero_le _, Nat.zero_le _⟩ rfl rfl (Nat.le_of_ble_eq_true rfl) rfl (by decide) ?_
          refine a_if_eq (pc := 66) (tgt := 86) ok dX7_figures_66 (by decide) (by exact bz_rg _) (fun c66 => ?_) (fun c66 => ?_)
          · have e3 := e1 (fun z => b1 c66 z.2.1)
            rw [e3.1, e3.2] at ok
            refine a_iconst (pc := 86) ok dX7_figures_86 ?_
            exact a_iret (pc := 87) ok dX7_figures_87 (⟨rfl, rfl⟩)
          · refine a_iload (pc := 69) ok dX7_figures_69 rfl ?_
            refine a_iload_n (pc := 71) ok dX7_figures_71 rfl ?_
            refine a_icmp_gt (pc := 72) (tgt := 86) ok dX7_figures_72 (by decide) (by first | omega | (unfold rg; omega) | (simp only [rg] at *; omega) | exact bz_rg _ | grind [rg]) (by first | omega | (unfold rg; omega) | (simp only [rg] at *; omega) | exact bz_rg _ | grind [rg]) (fun c72 => ?_) (fun c72 => ?_)
            · have e3 := e1 (fun z => by have := z.2.2.1; omega)
              rw [e3.1, e3.2] at ok
              refine a_iconst (pc := 86) ok dX7_figures_86 ?_
              exact a_iret (pc := 87) ok dX7_figures_87 (⟨rfl, rfl⟩)
            · refine a_iload (pc := 75) ok dX7_figures_75 rfl ?_
              refine a_iload (pc := 77) ok dX7_figures_77 rfl ?_
              refine a_iadd (pc := 79) ok dX7_figures_79 ?_
              refine a_iconst (pc := 80) ok dX7_figures_80 ?_
              refine a_isub (pc := 81) ok dX7_figures_81 ?_
              refine a_iload_n (pc := 82) ok dX7_figures_82 rfl ?_
              refine a_icmp_ge (pc := 83) (tgt := 88) ok dX7_figures_83 (by decide) (by first | omega | (unfold rg; omega) | (simp only [rg] at *; omega) | exact bz_rg _ | grind [rg]) (by first | omega | (unfold rg; omega) | (simp only [rg] at *; omega) | exact bz_rg _ | grind [rg]) (fun c83 => ?_) (fun c83 => ?_)
              · refine a_iload (pc := 88) ok dX7_figures_88 rfl ?_
                refine a_istore (pc := 90) ok dX7_figures_90 rfl (by rw [hN]; decide) ?_
                refine a_aload_n (pc := 92) ok dX7_figures_92 rfl ?_
                refine a_dup (pc := 93) ok dX7_figures_93 rfl ?_
                refine a_getf (pc := 94) ok dX7_figures_94 fl7_196 rfl rfl ?_
                refine a_iconst (pc := 97) ok dX7_figures_97 ?_
                refine a_iadd (pc := 98) ok dX7_figures_98 ?_
                refine a_putf (pc := 99) ok dX7_figures_99 fp7_196 rfl (by first | rfl | decide) (by first | rfl | decide) (Nat.le_of_ble_eq_true rfl) ?_
                refine a_iload (pc := 102) ok dX7_figures_102 rfl ?_
                refine a_bipush (pc := 104) ok dX7_figures_104 (by decide) ?_
                refine a_idiv (pc := 106) ok dX7_figures_106 (by first | omega | (unfold rg; omega) | (simp only [rg] at *; omega) | exact bz_rg _ | grind [rg]) (by first | omega | (unfold rg; omega) | (simp only [rg] at *; omega) | exact bz_rg _ | grind [rg]) ?_
                refine a_istore (pc := 107) ok dX7_figures_107 rfl (by rw [hN]; decide) ?_
                refine a_goto (pc := 109) (tgt := 7) ok dX7_figures_109 (by decide) ?_
                have g1 : f1 tx sz sp lo hi := ⟨by omega, b2 c66, by omega, by omega⟩
                refine AW.forget (L2 := [some (.ref 0), some (iv a), some (iv lo), some (iv hi), some (iv (0 + (tx sp - 48) * 10)), some (iv 1), none, none]) ?_ (by repeat' (first | exact trivial | refine ⟨rfl, ?_⟩))
                rw [Int.zero_add]; exact s1 g1
              · have e3 := e1 (fun z => by have := z.2.2.2; omega)
                rw [e3.1, e3.2] at ok
                refine a_iconst (pc := 86) ok dX7_figures_86 ?_
                exact a_iret (pc := 87) ok dX7_figures_87 (⟨rfl, rfl⟩)
theorem dX7_done_0 : decode cX7_done 0 = .ok (.aload_n 0, 1) := by decide +kernel
theorem dX7_done_1 : decode cX7_done 1 = .ok (.dup, 1) := by decide +kernel
theorem dX7_done_2 : decode cX7_done 2 = .ok (.getfield 201, 3) := by decide +kernel
theorem dX7_done_5 : decode cX7_done 5 = .ok (.iload_n 1, 1) := by decide +kernel
theorem dX7_done_6 : decode cX7_done 6 = .ok (.ifCond .eq 7, 3) := by decide +kernel
theorem dX7_done_9 : decode cX7_done 9 = .ok (.iconst 0, 1) := by decide +kernel
theorem dX7_done_10 : decode cX7_done 10 = .ok (.goto 4, 3) := by decide +kernel
theorem dX7_done_13 : decode cX7_done 13 = .ok (.iconst 1, 1) := by decide +kernel
theorem dX7_done_14 : decode cX7_done 14 = .ok (.iadd, 1) := by decide +kernel
theorem dX7_done_15 : decode cX7_done 15 = .ok (.putfield 201, 3) := by decide +kernel
theorem dX7_done_18 : decode cX7_done 18 = .ok (.iconst 1, 1) := by decide +kernel
theorem dX7_done_19 : decode cX7_done 19 = .ok (.ireturn, 1) := by decide +kernel
theorem c_done {z : Int} (hz : z = 0 ∨ z = 1) : Cd l yX7_done cX7_done 2 (some .boolean) rmX7_done [.ref 0, iv z] (mtM rf sz S ac B I m Fi Co Br Wt mk gy sd rt lf wy sp ou tx) (some (iv 1)) (mtM rf sz S ac B I m Fi Co Br Wt mk gy sd rt lf wy sp (ou + (1 - z)) tx) := by
  refine Ct.of miX7_done (Nat.le_of_ble_eq_true rfl) ?_
  intro X hXl hN ok
  refine AW.cast (L2 := [some (.ref 0), some (iv z)]) ?_ rfl rfl rfl
  refine a_aload_n (pc := 0) ok dX7_done_0 rfl ?_
  refine a_dup (pc := 1) ok dX7_done_1 rfl ?_
  refine a_getf (pc := 2) ok dX7_done_2 fl7_201 rfl rfl ?_
  refine a_iload_n (pc := 5) ok dX7_done_5 rfl ?_
  refine a_if_eq (pc := 6) (tgt := 13) ok dX7_done_6 (by decide) (by first | omega | (unfold rg; omega) | (simp only [rg] at *; omega) | exact bz_rg _ | grind [rg]) (fun c6 => ?_) (fun c6 => ?_)
  · refine a_iconst (pc := 13) ok dX7_done_13 ?_
    refine a_iadd (pc := 14) ok dX7_done_14 ?_
    refine a_putf (pc := 15) ok dX7_done_15 fp7_201 rfl (by first | rfl | decide) (by first | rfl | decide) (Nat.le_of_ble_eq_true rfl) ?_
    refine a_iconst (pc := 18) ok dX7_done_18 ?_
    exact a_zret (pc := 19) ok dX7_done_19 (by first | rfl | exact nb_bz _ | exact @nb_bz _ (Classical.propDecidable _) | decide) (⟨rfl, by rw [show (1 : Int) - z = 1 by omega]; rfl⟩)
  · refine a_iconst (pc := 9) ok dX7_done_9 ?_
    refine a_goto (pc := 10) (tgt := 14) ok dX7_done_10 (by decide) ?_
    refine a_iadd (pc := 14) ok dX7_done_14 ?_
    refine a_putf (pc := 15) ok dX7_done_15 fp7_201 rfl (by first | rfl | decide) (by first | rfl | decide) (Nat.le_of_ble_eq_true rfl) ?_
    refine a_iconst (pc := 18) ok dX7_done_18 ?_
    exact a_zret (pc := 19) ok dX7_done_19 (by first | rfl | exact nb_bz _ | exact @nb_bz _ (Classical.propDecidable _) | decide) (⟨rfl, by rw [show (1 : Int) - z = 0 by omega]; rfl⟩)
end TM1
