/-! MODEL: its cells, the flood, the marks. -/
section MD3
variable {l : Launch} {rf sz c r : Int} {G T : Int → Int} {le : Int} {Hh : Int → Int} {li ac : Int} {B I : Int → Int} {m : Int} {Fi Co Br Wt mk gy : Int → Int} {sd rt lf wy sp ou : Int} {b : Int → Int}
/-- the Model and the rows that it works with; the state's row that is worked on (now, or trial) lies at 1; 10 and on: rows that are only named -/
abbrev mdM (rf sz c r : Int) (G T : Int → Int) (n le : Int) (Hh : Int → Int) (li ac : Int) (B I : Int → Int) (m : Int) (Fi Co Br Wt mk gy : Int → Int) (sd rt lf wy sp ou : Int) : List va_E :=
  [ob 7 [iv rf, .ref 12, iv sz, .ref 10, .ref 11, .ref 13, iv ac, .ref 14, .ref 15, .ref 2, .ref 3, iv m, .ref 4, .ref 5, .ref 6, .ref 7, .ref 8, .ref 9, .ref 16, iv sd, iv rt, iv lf, iv wy, iv sp, iv ou], ia 160 (rowOf c r G T n le Hh li), ia 144 B, ia 144 I, ia 144 Fi, ia 144 Co, ia 144 Br, ia 144 Wt, ia 144 mk, ia 144 gy]
theorem dX7_flood_0 : decode cX7_flood 0 = .ok (.iconst 0, 1) := by decide +kernel
theorem dX7_flood_1 : decode cX7_flood 1 = .ok (.istore_n 3, 1) := by decide +kernel
theorem dX7_flood_2 : decode cX7_flood 2 = .ok (.iconst 1, 1) := by decide +kernel
theorem dX7_flood_3 : decode cX7_flood 3 = .ok (.istore 4, 2) := by decide +kernel
theorem dX7_flood_5 : decode cX7_flood 5 = .ok (.aload_n 0, 1) := by decide +kernel
theorem dX7_flood_6 : decode cX7_flood 6 = .ok (.getfield 44, 3) := by decide +kernel
theorem dX7_flood_9 : decode cX7_flood 9 = .ok (.iconst 0, 1) := by decide +kernel
theorem dX7_flood_10 : decode cX7_flood 10 = .ok (.iload_n 2, 1) := by decide +kernel
theorem dX7_flood_11 : decode cX7_flood 11 = .ok (.iastore, 1) := by decide +kernel
theorem dX7_flood_12 : decode cX7_flood 12 = .ok (.aload_n 0, 1) := by decide +kernel
theorem dX7_flood_13 : decode cX7_flood 13 = .ok (.getfield 32, 3) := by decide +kernel
theorem dX7_flood_16 : decode cX7_flood 16 = .ok (.iload_n 2, 1) := by decide +kernel
theorem dX7_flood_17 : decode cX7_flood 17 = .ok (.aload_n 0, 1) := by decide +kernel
theorem dX7_flood_18 : decode cX7_flood 18 = .ok (.getfield 78, 3) := by decide +kernel
theorem dX7_flood_21 : decode cX7_flood 21 = .ok (.iastore, 1) := by decide +kernel
theorem dX7_flood_22 : decode cX7_flood 22 = .ok (.iload_n 3, 1) := by decide +kernel
theorem dX7_flood_23 : decode cX7_flood 23 = .ok (.iload 4, 2) := by decide +kernel
theorem dX7_flood_25 : decode cX7_flood 25 = .ok (.if_icmp .ge 98, 3) := by decide +kernel
theorem dX7_flood_28 : decode cX7_flood 28 = .ok (.aload_n 0, 1) := by decide +kernel
theorem dX7_flood_29 : decode cX7_flood 29 = .ok (.getfield 44, 3) := by decide +kernel
theorem dX7_flood_32 : decode cX7_flood 32 = .ok (.iload_n 3, 1) := by decide +kernel
theorem dX7_flood_33 : decode cX7_flood 33 = .ok (.iaload, 1) := by decide +kernel
theorem dX7_flood_34 : decode cX7_flood 34 = .ok (.istore 5, 2) := by decide +kernel
theorem dX7_flood_36 : decode cX7_flood 36 = .ok (.iinc 3 1, 3) := by decide +kernel
theorem dX7_flood_39 : decode cX7_flood 39 = .ok (.iconst 0, 1) := by decide +kernel
theorem dX7_flood_40 : decode cX7_flood 40 = .ok (.istore 6, 2) := by decide +kernel
theorem dX7_flood_42 : decode cX7_flood 42 = .ok (.iload 6, 2) := by decide +kernel
theorem dX7_flood_44 : decode cX7_flood 44 = .ok (.iconst 4, 1) := by decide +kernel
theorem dX7_flood_45 : decode cX7_flood 45 = .ok (.if_icmp .ge 75, 3) := by decide +kernel
theorem dX7_flood_48 : decode cX7_flood 48 = .ok (.aload_n 1, 1) := by decide +kernel
theorem dX7_flood_49 : decode cX7_flood 49 = .ok (.iload 5, 2) := by decide +kernel
theorem dX7_flood_51 : decode cX7_flood 51 = .ok (.iload 6, 2) := by decide +kernel
theorem dX7_flood_53 : decode cX7_flood 53 = .ok (.invokestatic 81, 3) := by decide +kernel
theorem dX7_flood_56 : decode cX7_flood 56 = .ok (.istore 7, 2) := by decide +kernel
theorem dX7_flood_58 : decode cX7_flood 58 = .ok (.iload 7, 2) := by decide +kernel
theorem dX7_flood_60 : decode cX7_flood 60 = .ok (.iconst (-1), 1) := by decide +kernel
theorem dX7_flood_61 : decode cX7_flood 61 = .ok (.if_icmp .eq 53, 3) := by decide +kernel
theorem dX7_flood_64 : decode cX7_flood 64 = .ok (.aload_n 0, 1) := by decide +kernel
theorem dX7_flood_65 : decode cX7_flood 65 = .ok (.getfield 32, 3) := by decide +kernel
theorem dX7_flood_68 : decode cX7_flood 68 = .ok (.iload 7, 2) := by decide +kernel
theorem dX7_flood_70 : decode cX7_flood 70 = .ok (.iaload, 1) := by decide +kernel
theorem dX7_flood_71 : decode cX7_flood 71 = .ok (.iconst (-1), 1) := by decide +kernel
theorem dX7_flood_72 : decode cX7_flood 72 = .ok (.if_icmp .ne 42, 3) := by decide +kernel
theorem dX7_flood_75 : decode cX7_flood 75 = .ok (.aload_n 0, 1) := by decide +kernel
theorem dX7_flood_76 : decode cX7_flood 76 = .ok (.getfield 29, 3) := by decide +kernel
theorem dX7_flood_79 : decode cX7_flood 79 = .ok (.iload 7, 2) := by decide +kernel
theorem dX7_flood_81 : decode cX7_flood 81 = .ok (.iaload, 1) := by decide +kernel
theorem dX7_flood_82 : decode cX7_flood 82 = .ok (.aload_n 0, 1) := by decide +kernel
theorem dX7_flood_83 : decode cX7_flood 83 = .ok (.getfield 29, 3) := by decide +kernel
theorem dX7_flood_86 : decode cX7_flood 86 = .ok (.iload_n 2, 1) := by decide +kernel
theorem dX7_flood_87 : decode cX7_flood 87 = .ok (.iaload, 1) := by decide +kernel
theorem dX7_flood_88 : decode cX7_flood 88 = .ok (.if_icmp .ne 26, 3) := by decide +kernel
theorem dX7_flood_91 : decode cX7_flood 91 = .ok (.aload_n 0, 1) := by decide +kernel
theorem dX7_flood_92 : decode cX7_flood 92 = .ok (.getfield 32, 3) := by decide +kernel
theorem dX7_flood_95 : decode cX7_flood 95 = .ok (.iload 7, 2) := by decide +kernel
theorem dX7_flood_97 : decode cX7_flood 97 = .ok (.aload_n 0, 1) := by decide +kernel
theorem dX7_flood_98 : decode cX7_flood 98 = .ok (.getfield 78, 3) := by decide +kernel
theorem dX7_flood_101 : decode cX7_flood 101 = .ok (.iastore, 1) := by decide +kernel
theorem dX7_flood_102 : decode cX7_flood 102 = .ok (.aload_n 0, 1) := by decide +kernel
theorem dX7_flood_103 : decode cX7_flood 103 = .ok (.getfield 44, 3) := by decide +kernel
theorem dX7_flood_106 : decode cX7_flood 106 = .ok (.iload 4, 2) := by decide +kernel
theorem dX7_flood_108 : decode cX7_flood 108 = .ok (.iload 7, 2) := by decide +kernel
theorem dX7_flood_110 : decode cX7_flood 110 = .ok (.iastore, 1) := by decide +kernel
theorem dX7_flood_111 : decode cX7_flood 111 = .ok (.iinc 4 1, 3) := by decide +kernel
theorem dX7_flood_114 : decode cX7_flood 114 = .ok (.iinc 6 1, 3) := by decide +kernel
theorem dX7_flood_117 : decode cX7_flood 117 = .ok (.goto (-75), 3) := by decide +kernel
theorem dX7_flood_120 : decode cX7_flood 120 = .ok (.goto (-98), 3) := by decide +kernel
theorem dX7_flood_123 : decode cX7_flood 123 = .ok (.aload_n 0, 1) := by decide +kernel
theorem dX7_flood_124 : decode cX7_flood 124 = .ok (.getfield 35, 3) := by decide +kernel
theorem dX7_flood_127 : decode cX7_flood 127 = .ok (.aload_n 0, 1) := by decide +kernel
theorem dX7_flood_128 : decode cX7_flood 128 = .ok (.getfield 78, 3) := by decide +kernel
theorem dX7_flood_131 : decode cX7_flood 131 = .ok (.iload_n 2, 1) := by decide +kernel
theorem dX7_flood_132 : decode cX7_flood 132 = .ok (.iastore, 1) := by decide +kernel
theorem dX7_flood_133 : decode cX7_flood 133 = .ok (.aload_n 0, 1) := by decide +kernel
theorem dX7_flood_134 : decode cX7_flood 134 = .ok (.getfield 38, 3) := by decide +kernel
theorem dX7_flood_137 : decode cX7_flood 137 = .ok (.aload_n 0, 1) := by decide +kernel
theorem dX7_flood_138 : decode cX7_flood 138 = .ok (.getfield 78, 3) := by decide +kernel
theorem dX7_flood_141 : decode cX7_flood 141 = .ok (.iload 4, 2) := by decide +kernel
theorem dX7_flood_143 : decode cX7_flood 143 = .ok (.iastore, 1) := by decide +kernel
theorem dX7_flood_144 : decode cX7_flood 144 = .ok (.aload_n 0, 1) := by decide +kernel
theorem dX7_flood_145 : decode cX7_flood 145 = .ok (.dup, 1) := by decide +kernel
theorem dX7_flood_146 : decode cX7_flood 146 = .ok (.getfield 78, 3) := by decide +kernel
theorem dX7_flood_149 : decode cX7_flood 149 = .ok (.iconst 1, 1) := by decide +kernel
theorem dX7_flood_150 : decode cX7_flood 150 = .ok (.iadd, 1) := by decide +kernel
theorem dX7_flood_151 : decode cX7_flood 151 = .ok (.putfield 78, 3) := by decide +kernel
theorem dX7_flood_154 : decode cX7_flood 154 = .ok (.return_, 1) := by decide +kernel
theorem c_flood {n s : Int} (hd : dim c r) (hs : cel c r s) (hB : ∀ i, rg (B i)) (hI : ∀ i, rg (I i)) (hm : 0 ≤ m ∧ m < 144) (hI0 : ∀ j, con (EB c r B) s j → I j = -1) : Ct l yX7_flood cX7_flood 8 none rmX7_flood [.ref 0, .ref 1, iv s] (mdM rf sz c r G T n le Hh li ac B I m Fi Co Br Wt mk gy sd rt lf wy sp ou)
    (fun z M => z = none ∧ ∃ Q' : Int → Int, M = (mdM rf sz c r G T n le Hh li ac B (mkF I (con (EB c r B) s) m) (m + 1) (up Fi m s) (up Co m (cntK (fun j => tr (con (EB c r B) s j)) (c * r).toNat)) Br (Q') mk gy sd rt lf wy sp ou)) := by
  refine Ct.of miX7_flood (Nat.le_of_ble_eq_true rfl) ?_
  intro X hXl hN ok
  refine AW.cast (L2 := [some (.ref 0), some (.ref 1), some (iv s), none, none, none, none, none]) ?_ rfl rfl rfl
  have hc := dim_cells hd
  have hNc : ∀ b, cel c r b → 0 ≤ b ∧ b < (((c * r).toNat : Nat) : Int) := fun b hb => cel_N hd hb
  have hcn : ∀ b, con (EB c r B) s b → cel c r b := fun b hb => con_cel hd hs hb
  have hs1 := hs.1
  have hs2 := hs.2
  have hrI : ∀ (mq : Int → Prop) j, rg (mkF I mq m j) := fun mq j => by
    by_cases h : mq j
    · rw [mkF_t h]; unfold rg; omega
    · rw [mkF_f h]; exact hI j
  have loop : ∀ q : (Int → Prop) × (Int → Int) × Int × Int, (BI (EB c r B) (c * r).toNat s q.1 q.2.1 q.2.2.1 ∧ CL (EB c r B) q.1 q.2.1 q.2.2.2 ∧ 0 ≤ q.2.2.2 ∧ q.2.2.2 ≤ q.2.2.1) →
      AW X 0 0 22 [some (.ref 0), some (.ref 1), some (iv s), some (iv q.2.2.2), some (iv q.2.2.1), none, none, none] [] (mdM rf sz c r G T n le Hh li ac B (mkF I q.1 m) m Fi Co Br (q.2.1) mk gy sd rt lf wy sp ou) := by
    refine wfl (fun q : (Int → Prop) × (Int → Int) × Int × Int => (145 - q.2.2.2).toNat) _ _ ?_
    rintro ⟨mq, Qf, had, got⟩ ⟨h1, h2, h3, h4⟩ ih
    dsimp only at h1 h2 h3 h4 ih ⊢
    have h0 := BI_0 h1
    by_cases hg : got < had
    · have hcc := h1.2.1 _ (h1.2.2.1 got h3 hg)
      obtain ⟨cur, ecur⟩ : ∃ cur, cur = Qf got := ⟨_, rfl⟩
      rw [← ecur] at hcc
      have hcel := hcn cur hcc
      have hbc : B s = B cur := con_band hcc
      have hcu1 := hcel.1
      have hcu2 := hcel.2
      have inner : ∀ q : (Int → Prop) × (Int → Int) × Int × Int, (BI (EB c r B) (c * r).toNat s q.1 q.2.1 q.2.2.1 ∧ CL (EB c r B) q.1 q.2.1 got ∧ got < q.2.2.1 ∧ (∀ i, i ≤ got → q.2.1 i = Qf i) ∧ (0 ≤ q.2.2.2 ∧ q.2.2.2 ≤ 4) ∧ (∀ w, 0 ≤ w → w < q.2.2.2 → nb c r cur w ≠ -1 → B (nb c r cur w) = B s → q.1 (nb c r cur w))) →
          AW X 0 0 42 [some (.ref 0), some (.ref 1), some (iv s), some (iv (got + 1)), some (iv q.2.2.1), some (iv cur), some (iv q.2.2.2), none] [] (mdM rf sz c r G T n le Hh li ac B (mkF I q.1 m) m Fi Co Br (q.2.1) mk gy sd rt lf wy sp ou) := by
        refine wfl (fun q : (Int → Prop) × (Int → Int) × Int × Int => (4 - q.2.2.2).toNat) _ _ ?_
        rintro ⟨mq2, Q2, had2, w⟩ ⟨i1, i2, i3, i4, i5, i6⟩ ih2
        dsimp only at i1 i2 i3 i4 i5 i6 ih2 ⊢
        have i0 := BI_0 i1
        have hr2 := hrI mq2
        have hb2 : 0 ≤ w ∧ w < 4 → nb c r cur w ≠ -1 → cel c r (nb c r cur w) ∧ (0 ≤ nb c r cur w ∧ nb c r cur w < 144) := fun z1 z2 => by
          have := (nb_back hd hcel z1 z2).1
          have a := this.1; have d := this.2
          exact ⟨this, by omega⟩
        have hnr := nb_rg (w := w) hd hcel
        have hBn := hB (nb c r cur w)
        have hBs := hB s
        have hr3 := hr2 (nb c r cur w)
        have skip : ∀ x : Value, (nb c r cur w = -1 ∨ B (nb c r cur w) ≠ B s ∨ mq2 (nb c r cur w)) → w < 4 → AW X 0 0 114 [some (.ref 0), some (.ref 1), some (iv s), some (iv (got + 1)), some (iv had2), some (iv cur), some (iv w), some x] [] (mdM rf sz c r G T n le Hh li ac B (mkF I mq2 m) m Fi Co Br (Q2) mk gy sd rt lf wy sp ou) := by
          intro x hu hw4
          have hi6 : ∀ v, 0 ≤ v → v < w + 1 → nb c r cur v ≠ -1 → B (nb c r cur v) = B s → mq2 (nb c r cur v) := by
            intro v v1 v2 v3 v4
            rcases (show v < w ∨ v = w by omega) with y | y
            · exact i6 v v1 y v3 v4
            · subst y
              rcases hu with z | z | z
              · exact absurd z v3
              · exact absurd v4 z
              · exact z
          refine a_iinc (pc := 114) ok dX7_flood_114 rfl rfl (by rw [hN]; decide) ?_
          refine a_goto (pc := 117) (tgt := 42) ok dX7_flood_117 (by decide) ?_
          exact AW.forget (ih2 (mq2, Q2, had2, w + 1) ⟨i1, i2, i3, i4, by dsimp only; omega, hi6⟩ (by dsimp only; omega)) (by repeat' (first | exact trivial | refine ⟨rfl, ?_⟩))
        have take : nb c r cur w ≠ -1 → B (nb c r cur w) = B s → ¬ mq2 (nb c r cur w) → 0 ≤ w ∧ w < 4 → ∀ x : Value, AW X 0 0 114 [some (.ref 0), some (.ref 1), some (iv s), some (iv (got + 1)), some (iv (had2 + 1)), some (iv cur), some (iv w), some x] [] (mdM rf sz c r G T n le Hh li ac B (up (mkF I mq2 m) (nb c r cur w) m) m Fi Co Br (up Q2 had2 (nb c r cur w)) mk gy sd rt lf wy sp ou) := by
          intro hn1 hbs hnm hw4 x
          have hb3 := hb2 hw4 hn1
          have hcon : con (EB c r B) s (nb c r cur w) := con_step hcc ⟨hcel, ⟨w, hw4, rfl, hn1⟩, by omega⟩
          rw [mkF_up]
          have hi6 : ∀ v, 0 ≤ v → v < w + 1 → nb c r cur v ≠ -1 → B (nb c r cur v) = B s → (nb c r cur v = nb c r cur w ∨ mq2 (nb c r cur v)) := by
            intro v v1 v2 v3 v4
            rcases (show v < w ∨ v = w by omega) with y | y
            · exact Or.inr (i6 v v1 y v3 v4)
            · exact Or.inl (by rw [y])
          have hi4 : ∀ i, i ≤ got → up Q2 had2 (nb c r cur w) i = Qf i := fun i hi => by unfold up; rw [if_neg (by omega)]; exact i4 i hi
          refine a_iinc (pc := 114) ok dX7_flood_114 rfl rfl (by rw [hN]; decide) ?_
          refine a_goto (pc := 117) (tgt := 42) ok dX7_flood_117 (by decide) ?_
          exact AW.forget (ih2 (fun j => j = nb c r cur w ∨ mq2 j, up Q2 had2 (nb c r cur w), had2 + 1, w + 1) ⟨BI_add i1 (hNc _ hb3.1) hcon hnm, CL_add i2 (by omega), by dsimp only; omega, hi4, by dsimp only; omega, hi6⟩ (by dsimp only; omega)) (by repeat' (first | exact trivial | refine ⟨rfl, ?_⟩))
        have hmk : nb c r cur w ≠ -1 → 0 ≤ w ∧ w < 4 → mkF I mq2 m (nb c r cur w) = -1 → ¬ mq2 (nb c r cur w) := fun _ _ z y => by rw [mkF_t y] at z; omega
        have hmk2 : nb c r cur w ≠ -1 → 0 ≤ w ∧ w < 4 → mkF I mq2 m (nb c r cur w) ≠ -1 → B (nb c r cur w) ≠ B s ∨ mq2 (nb c r cur w) := fun z1 z2 z3 => by
          by_cases y : mq2 (nb c r cur w)
          · exact Or.inr y
          · left
            intro e
            rw [mkF_f y] at z3
            exact z3 (hI0 _ (con_step hcc ⟨hcel, ⟨w, z2, rfl, z1⟩, by omega⟩))
        refine a_iload (pc := 42) ok dX7_flood_42 rfl ?_
        refine a_iconst (pc := 44) ok dX7_flood_44 ?_
        refine a_icmp_ge (pc := 45) (tgt := 120) ok dX7_flood_45 (by decide) (by first | omega | (unfold rg; omega) | (simp only [rg] at *; omega) | exact bz_rg _ | grind [rg]) (by first | omega | (unfold rg; omega) | (simp only [rg] at *; omega) | exact bz_rg _ | grind [rg]) (fun c45 => ?_) (fun c45 => ?_)
        · refine a_goto (pc := 120) (tgt := 22) ok dX7_flood_120 (by decide) ?_
          refine AW.forget (ih (mq2, Q2, had2, got + 1) ⟨i1, fun i a1 a2 b hb => ?_, by dsimp only; omega, by dsimp only; omega⟩ (by dsimp only; omega)) (by repeat' (first | exact trivial | refine ⟨rfl, ?_⟩))
          rcases (show i < got ∨ i = got by dsimp only at a2; omega) with y | y
          · exact i2 i a1 y b hb
          · dsimp only at hb ⊢
            rw [y, i4 got (by omega), ← ecur] at hb
            obtain ⟨e1, ⟨v, v1, v2, v3⟩, e3⟩ := hb
            subst v2
            exact i6 v v1.1 (by omega) v3 (e3.symm.trans hbc.symm)
        · refine a_aload_n (pc := 48) ok dX7_flood_48 rfl ?_
          refine a_iload (pc := 49) ok dX7_flood_49 rfl ?_
          refine a_iload (pc := 51) ok dX7_flood_51 rfl ?_
          refine a_callSp (pc := 53) ok [1] dX7_flood_53 mv7_81 miX7_next (c_next hd hcel (by omega)) ⟨by decide, by decide, rfl, rfl, Nat.zero_le _, Nat.zero_le _⟩ rfl rfl (Nat.le_of_ble_eq_true rfl) rfl (by decide) ?_
          refine a_istore (pc := 56) ok dX7_flood_56 rfl (by rw [hN]; decide) ?_
          refine a_iload (pc := 58) ok dX7_flood_58 rfl ?_
          refine a_iconst (pc := 60) ok dX7_flood_60 ?_
          refine a_icmp_eq (pc := 61) (tgt := 114) ok dX7_flood_61 (by decide) (by unfold rg; omega) (by unfold rg; omega) (fun c61 => ?_) (fun c61 => ?_)
          · exact skip _ (Or.inl c61) (by omega)
          · refine a_aload_n (pc := 64) ok dX7_flood_64 rfl ?_
            refine a_getf (pc := 65) ok dX7_flood_65 fl7_32 rfl rfl ?_
            refine a_iload (pc := 68) ok dX7_flood_68 rfl ?_
            refine a_iald (pc := 70) ok dX7_flood_70 rfl (by first | decide | omega) (by have := hb2 (by omega) (by omega); omega) ?_
            refine a_iconst (pc := 71) ok dX7_flood_71 ?_
            refine a_icmp_ne (pc := 72) (tgt := 114) ok dX7_flood_72 (by decide) (by first | omega | (unfold rg; omega) | (simp only [rg] at *; omega) | exact bz_rg _ | grind [rg]) (by first | omega | (unfold rg; omega) | (simp only [rg] at *; omega) | exact bz_rg _ | grind [rg]) (fun c72 => ?_) (fun c72 => ?_)
            · exact skip _ (Or.inr (hmk2 c61 (by omega) c72)) (by omega)
            · refine a_aload_n (pc := 75) ok dX7_flood_75 rfl ?_
              refine a_getf (pc := 76) ok dX7_flood_76 fl7_29 rfl rfl ?_
              refine a_iload (pc := 79) ok dX7_flood_79 rfl ?_
              refine a_iald (pc := 81) ok dX7_flood_81 rfl (by first | decide | omega) (by have := hb2 (by omega) (by omega); omega) ?_
              refine a_aload_n (pc := 82) ok dX7_flood_82 rfl ?_
              refine a_getf (pc := 83) ok dX7_flood_83 fl7_29 rfl rfl ?_
              refine a_iload_n (pc := 86) ok dX7_flood_86 rfl ?_
              refine a_iald (pc := 87) ok dX7_flood_87 rfl (by first | decide | omega) (by first | omega | (unfold rg; omega) | (simp only [rg] at *; omega) | exact bz_rg _ | grind [rg]) ?_
              refine a_icmp_ne (pc := 88) (tgt := 114) ok dX7_flood_88 (by decide) (by first | omega | (unfold rg; omega) | (simp only [rg] at *; omega) | exact bz_rg _ | grind [rg]) (by first | omega | (unfold rg; omega) | (simp only [rg] at *; omega) | exact bz_rg _ | grind [rg]) (fun c88 => ?_) (fun c88 => ?_)
              · exact skip _ (Or.inr (Or.inl c88)) (by omega)
              · refine a_aload_n (pc := 91) ok dX7_flood_91 rfl ?_
                refine a_getf (pc := 92) ok dX7_flood_92 fl7_32 rfl rfl ?_
                refine a_iload (pc := 95) ok dX7_flood_95 rfl ?_
                refine a_aload_n (pc := 97) ok dX7_flood_97 rfl ?_
                refine a_getf (pc := 98) ok dX7_flood_98 fl7_78 rfl rfl ?_
                have hb3 := hb2 (by omega) (by omega)
                have hnm : ¬ mq2 (nb c r cur w) := hmk (by omega) (by omega) c72
                have hhad := BI_lt i1 (hNc _ hb3.1) hnm
                refine a_iast (pc := 101) ok dX7_flood_101 rfl (by first | decide | omega) (by exact hb3.2) ?_
                refine a_aload_n (pc := 102) ok dX7_flood_102 rfl ?_
                refine a_getf (pc := 103) ok dX7_flood_103 fl7_44 rfl rfl ?_
                refine a_iload (pc := 106) ok dX7_flood_106 rfl ?_
                refine a_iload (pc := 108) ok dX7_flood_108 rfl ?_
                refine a_iast (pc := 110) ok dX7_flood_110 rfl (by first | decide | omega) (by first | omega | (unfold rg; omega) | (simp only [rg] at *; omega) | exact bz_rg _ | grind [rg]) ?_
                refine a_iinc (pc := 111) ok dX7_flood_111 rfl rfl (by rw [hN]; decide) ?_
                exact take c61 (by omega) hnm (by omega) _
      refine a_iload_n (pc := 22) ok dX7_flood_22 rfl ?_
      refine a_iload (pc := 23) ok dX7_flood_23 rfl ?_
      refine a_icmp_ge (pc := 25) (tgt := 123) ok dX7_flood_25 (by decide) (by first | omega | (unfold rg; omega) | (simp only [rg] at *; omega) | exact bz_rg _ | grind [rg]) (by first | omega | (unfold rg; omega) | (simp only [rg] at *; omega) | exact bz_rg _ | grind [rg]) (fun c25 => ?_) (fun c25 => ?_)
      · exfalso; first | omega | grind
      · refine a_aload_n (pc := 28) ok dX7_flood_28 rfl ?_
        refine a_getf (pc := 29) ok dX7_flood_29 fl7_44 rfl rfl ?_
        refine a_iload_n (pc := 32) ok dX7_flood_32 rfl ?_
        refine a_iald (pc := 33) ok dX7_flood_33 rfl (by first | decide | omega) (by first | omega | (unfold rg; omega) | (simp only [rg] at *; omega) | exact bz_rg _ | grind [rg]) ?_
        rw [← ecur]
        refine a_istore (pc := 34) ok dX7_flood_34 rfl (by rw [hN]; decide) ?_
        refine a_iinc (pc := 36) ok dX7_flood_36 rfl rfl (by rw [hN]; decide) ?_
        refine a_iconst (pc := 39) ok dX7_flood_39 ?_
        refine a_istore (pc := 40) ok dX7_flood_40 rfl (by rw [hN]; decide) ?_
        exact inner (mq, Qf, had, 0) ⟨h1, h2, by dsimp only; omega, fun i _ => rfl, by dsimp only; omega, fun w a1 a2 => by dsimp only at a2; omega⟩
    · have e : got = had := by omega
      subst e
      have hdone := BI_done h1 h2
      have e1 : mkF I mq m = mkF I (con (EB c r B) s) m := mkF_congr hdone
      have e2 : got = cntK (fun j => tr (con (EB c r B) s j)) (c * r).toNat := h1.2.2.2.2.trans (cntK_congr _ fun j _ => tr_iff (hdone j))
      refine a_iload_n (pc := 22) ok dX7_flood_22 rfl ?_
      refine a_iload (pc := 23) ok dX7_flood_23 rfl ?_
      refine a_icmp_ge (pc := 25) (tgt := 123) ok dX7_flood_25 (by decide) (by first | omega | (unfold rg; omega) | (simp only [rg] at *; omega) | exact bz_rg _ | grind [rg]) (by first | omega | (unfold rg; omega) | (simp only [rg] at *; omega) | exact bz_rg _ | grind [rg]) (fun c25 => ?_) (fun c25 => ?_)
      · refine a_aload_n (pc := 123) ok dX7_flood_123 rfl ?_
        refine a_getf (pc := 124) ok dX7_flood_124 fl7_35 rfl rfl ?_
        refine a_aload_n (pc := 127) ok dX7_flood_127 rfl ?_
        refine a_getf (pc := 128) ok dX7_flood_128 fl7_78 rfl rfl ?_
        refine a_iload_n (pc := 131) ok dX7_flood_131 rfl ?_
        refine a_iast (pc := 132) ok dX7_flood_132 rfl (by first | decide | omega) (by first | omega | (unfold rg; omega) | (simp only [rg] at *; omega) | exact bz_rg _ | grind [rg]) ?_
        refine a_aload_n (pc := 133) ok dX7_flood_133 rfl ?_
        refine a_getf (pc := 134) ok dX7_flood_134 fl7_38 rfl rfl ?_
        refine a_aload_n (pc := 137) ok dX7_flood_137 rfl ?_
        refine a_getf (pc := 138) ok dX7_flood_138 fl7_78 rfl rfl ?_
        refine a_iload (pc := 141) ok dX7_flood_141 rfl ?_
        refine a_iast (pc := 143) ok dX7_flood_143 rfl (by first | decide | omega) (by first | omega | (unfold rg; omega) | (simp only [rg] at *; omega) | exact bz_rg _ | grind [rg]) ?_
        refine a_aload_n (pc := 144) ok dX7_flood_144 rfl ?_
        refine a_dup (pc := 145) ok dX7_flood_145 rfl ?_
        refine a_getf (pc := 146) ok dX7_flood_146 fl7_78 rfl rfl ?_
        refine a_iconst (pc := 149) ok dX7_flood_149 ?_
        refine a_iadd (pc := 150) ok dX7_flood_150 ?_
        refine a_putf (pc := 151) ok dX7_flood_151 fp7_78 rfl (by first | rfl | decide) (by first | rfl | decide) (Nat.le_of_ble_eq_true rfl) ?_
        exact a_vret (pc := 154) ok dX7_flood_154 (⟨rfl, Qf, by rw [← e1, ← e2]; rfl⟩)
      · exfalso; first | omega | grind
  refine a_iconst (pc := 0) ok dX7_flood_0 ?_
  refine a_istore_n (pc := 1) ok dX7_flood_1 rfl (by rw [hN]; decide) ?_
  refine a_iconst (pc := 2) ok dX7_flood_2 ?_
  refine a_istore (pc := 3) ok dX7_flood_3 rfl (by rw [hN]; decide) ?_
  refine a_aload_n (pc := 5) ok dX7_flood_5 rfl ?_
  refine a_getf (pc := 6) ok dX7_flood_6 fl7_44 rfl rfl ?_
  refine a_iconst (pc := 9) ok dX7_flood_9 ?_
  refine a_iload_n (pc := 10) ok dX7_flood_10 rfl ?_
  refine a_iast (pc := 11) ok dX7_flood_11 rfl (by first | decide | omega) (by first | omega | (unfold rg; omega) | (simp only [rg] at *; omega) | exact bz_rg _ | grind [rg]) ?_
  refine a_aload_n (pc := 12) ok dX7_flood_12 rfl ?_
  refine a_getf (pc := 13) ok dX7_flood_13 fl7_32 rfl rfl ?_
  refine a_iload_n (pc := 16) ok dX7_flood_16 rfl ?_
  refine a_aload_n (pc := 17) ok dX7_flood_17 rfl ?_
  refine a_getf (pc := 18) ok dX7_flood_18 fl7_78 rfl rfl ?_
  refine a_iast (pc := 21) ok dX7_flood_21 rfl (by first | decide | omega) (by first | omega | (unfold rg; omega) | (simp only [rg] at *; omega) | exact bz_rg _ | grind [rg]) ?_
  refine AW.cast (loop (fun j => j = s, up Wt 0 s, 1, 0) ⟨BI_start (hNc s hs) (show up Wt 0 s 0 = s from if_pos rfl), fun i a1 a2 => by dsimp only at a2; omega, by dsimp only; omega, by dsimp only; omega⟩) rfl rfl ?_
  rw [← mkF_one]; rfl
end MD3
