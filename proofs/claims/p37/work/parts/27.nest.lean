/-! NEST: what hangs together beside an island, holes. -/
section NE
variable {l : Launch} {c r ct L : Int} {B F S Br Q Fo No b Ho Mo In Sn Qn : Int → Int}
/-- Islands' rows, laid at a place -/
abbrev isA (p : Nat) (c r m ct : Int) (B F S Br Q Fo No : Int → Int) : List va_E := [ob 0 [iv c, iv r, iv m, iv ct, .ref (p + 1), .ref (p + 2), .ref (p + 3), .ref (p + 4), .ref (p + 5), .ref (p + 6), .ref (p + 7)], ia 144 B, ia 144 F, ia 144 S, ia 144 Br, ia 144 Q, ia 144 Fo, ia 144 No]
abbrev nsM (Ho Mo In Sn Qn : Int → Int) : List va_E := [ob 2 [.ref 1, .ref 2, .ref 3, .ref 4, .ref 5], ia 144 Ho, ia 144 Mo, ia 144 In, ia 144 Sn, ia 144 Qn]
theorem dX2_gatherAround_0 : decode cX2_gatherAround 0 = .ok (.aload_n 0, 1) := by decide +kernel
theorem dX2_gatherAround_1 : decode cX2_gatherAround 1 = .ok (.getfield 21, 3) := by decide +kernel
theorem dX2_gatherAround_4 : decode cX2_gatherAround 4 = .ok (.iload_n 3, 1) := by decide +kernel
theorem dX2_gatherAround_5 : decode cX2_gatherAround 5 = .ok (.iconst 1, 1) := by decide +kernel
theorem dX2_gatherAround_6 : decode cX2_gatherAround 6 = .ok (.iastore, 1) := by decide +kernel
theorem dX2_gatherAround_7 : decode cX2_gatherAround 7 = .ok (.aload_n 0, 1) := by decide +kernel
theorem dX2_gatherAround_8 : decode cX2_gatherAround 8 = .ok (.getfield 24, 3) := by decide +kernel
theorem dX2_gatherAround_11 : decode cX2_gatherAround 11 = .ok (.iconst 0, 1) := by decide +kernel
theorem dX2_gatherAround_12 : decode cX2_gatherAround 12 = .ok (.iload_n 3, 1) := by decide +kernel
theorem dX2_gatherAround_13 : decode cX2_gatherAround 13 = .ok (.iastore, 1) := by decide +kernel
theorem dX2_gatherAround_14 : decode cX2_gatherAround 14 = .ok (.iconst 1, 1) := by decide +kernel
theorem dX2_gatherAround_15 : decode cX2_gatherAround 15 = .ok (.istore 4, 2) := by decide +kernel
theorem dX2_gatherAround_17 : decode cX2_gatherAround 17 = .ok (.iconst 0, 1) := by decide +kernel
theorem dX2_gatherAround_18 : decode cX2_gatherAround 18 = .ok (.istore 5, 2) := by decide +kernel
theorem dX2_gatherAround_20 : decode cX2_gatherAround 20 = .ok (.iload 5, 2) := by decide +kernel
theorem dX2_gatherAround_22 : decode cX2_gatherAround 22 = .ok (.iload 4, 2) := by decide +kernel
theorem dX2_gatherAround_24 : decode cX2_gatherAround 24 = .ok (.if_icmp .ge 158, 3) := by decide +kernel
theorem dX2_gatherAround_27 : decode cX2_gatherAround 27 = .ok (.iload 5, 2) := by decide +kernel
theorem dX2_gatherAround_29 : decode cX2_gatherAround 29 = .ok (.sipush 144, 3) := by decide +kernel
theorem dX2_gatherAround_32 : decode cX2_gatherAround 32 = .ok (.if_icmp .ge 150, 3) := by decide +kernel
theorem dX2_gatherAround_35 : decode cX2_gatherAround 35 = .ok (.aload_n 0, 1) := by decide +kernel
theorem dX2_gatherAround_36 : decode cX2_gatherAround 36 = .ok (.getfield 24, 3) := by decide +kernel
theorem dX2_gatherAround_39 : decode cX2_gatherAround 39 = .ok (.iload 5, 2) := by decide +kernel
theorem dX2_gatherAround_41 : decode cX2_gatherAround 41 = .ok (.iaload, 1) := by decide +kernel
theorem dX2_gatherAround_42 : decode cX2_gatherAround 42 = .ok (.aload_n 1, 1) := by decide +kernel
theorem dX2_gatherAround_43 : decode cX2_gatherAround 43 = .ok (.getfield 65, 3) := by decide +kernel
theorem dX2_gatherAround_46 : decode cX2_gatherAround 46 = .ok (.irem, 1) := by decide +kernel
theorem dX2_gatherAround_47 : decode cX2_gatherAround 47 = .ok (.istore 6, 2) := by decide +kernel
theorem dX2_gatherAround_49 : decode cX2_gatherAround 49 = .ok (.aload_n 0, 1) := by decide +kernel
theorem dX2_gatherAround_50 : decode cX2_gatherAround 50 = .ok (.getfield 24, 3) := by decide +kernel
theorem dX2_gatherAround_53 : decode cX2_gatherAround 53 = .ok (.iload 5, 2) := by decide +kernel
theorem dX2_gatherAround_55 : decode cX2_gatherAround 55 = .ok (.iaload, 1) := by decide +kernel
theorem dX2_gatherAround_56 : decode cX2_gatherAround 56 = .ok (.aload_n 1, 1) := by decide +kernel
theorem dX2_gatherAround_57 : decode cX2_gatherAround 57 = .ok (.getfield 65, 3) := by decide +kernel
theorem dX2_gatherAround_60 : decode cX2_gatherAround 60 = .ok (.idiv, 1) := by decide +kernel
theorem dX2_gatherAround_61 : decode cX2_gatherAround 61 = .ok (.istore 7, 2) := by decide +kernel
theorem dX2_gatherAround_63 : decode cX2_gatherAround 63 = .ok (.iload 7, 2) := by decide +kernel
theorem dX2_gatherAround_65 : decode cX2_gatherAround 65 = .ok (.iconst 1, 1) := by decide +kernel
theorem dX2_gatherAround_66 : decode cX2_gatherAround 66 = .ok (.isub, 1) := by decide +kernel
theorem dX2_gatherAround_67 : decode cX2_gatherAround 67 = .ok (.istore 8, 2) := by decide +kernel
theorem dX2_gatherAround_69 : decode cX2_gatherAround 69 = .ok (.iload 8, 2) := by decide +kernel
theorem dX2_gatherAround_71 : decode cX2_gatherAround 71 = .ok (.iload 7, 2) := by decide +kernel
theorem dX2_gatherAround_73 : decode cX2_gatherAround 73 = .ok (.iconst 1, 1) := by decide +kernel
theorem dX2_gatherAround_74 : decode cX2_gatherAround 74 = .ok (.iadd, 1) := by decide +kernel
theorem dX2_gatherAround_75 : decode cX2_gatherAround 75 = .ok (.if_icmp .gt 101, 3) := by decide +kernel
theorem dX2_gatherAround_78 : decode cX2_gatherAround 78 = .ok (.iload 6, 2) := by decide +kernel
theorem dX2_gatherAround_80 : decode cX2_gatherAround 80 = .ok (.iconst 1, 1) := by decide +kernel
theorem dX2_gatherAround_81 : decode cX2_gatherAround 81 = .ok (.isub, 1) := by decide +kernel
theorem dX2_gatherAround_82 : decode cX2_gatherAround 82 = .ok (.istore 9, 2) := by decide +kernel
theorem dX2_gatherAround_84 : decode cX2_gatherAround 84 = .ok (.iload 9, 2) := by decide +kernel
theorem dX2_gatherAround_86 : decode cX2_gatherAround 86 = .ok (.iload 6, 2) := by decide +kernel
theorem dX2_gatherAround_88 : decode cX2_gatherAround 88 = .ok (.iconst 1, 1) := by decide +kernel
theorem dX2_gatherAround_89 : decode cX2_gatherAround 89 = .ok (.iadd, 1) := by decide +kernel
theorem dX2_gatherAround_90 : decode cX2_gatherAround 90 = .ok (.if_icmp .gt 80, 3) := by decide +kernel
theorem dX2_gatherAround_93 : decode cX2_gatherAround 93 = .ok (.iload 8, 2) := by decide +kernel
theorem dX2_gatherAround_95 : decode cX2_gatherAround 95 = .ok (.aload_n 1, 1) := by decide +kernel
theorem dX2_gatherAround_96 : decode cX2_gatherAround 96 = .ok (.getfield 65, 3) := by decide +kernel
theorem dX2_gatherAround_99 : decode cX2_gatherAround 99 = .ok (.imul, 1) := by decide +kernel
theorem dX2_gatherAround_100 : decode cX2_gatherAround 100 = .ok (.iload 9, 2) := by decide +kernel
theorem dX2_gatherAround_102 : decode cX2_gatherAround 102 = .ok (.iadd, 1) := by decide +kernel
theorem dX2_gatherAround_103 : decode cX2_gatherAround 103 = .ok (.istore 10, 2) := by decide +kernel
theorem dX2_gatherAround_105 : decode cX2_gatherAround 105 = .ok (.aload_n 1, 1) := by decide +kernel
theorem dX2_gatherAround_106 : decode cX2_gatherAround 106 = .ok (.iload 9, 2) := by decide +kernel
theorem dX2_gatherAround_108 : decode cX2_gatherAround 108 = .ok (.iload 8, 2) := by decide +kernel
theorem dX2_gatherAround_110 : decode cX2_gatherAround 110 = .ok (.invokevirtual 68, 3) := by decide +kernel
theorem dX2_gatherAround_113 : decode cX2_gatherAround 113 = .ok (.ifCond .eq 51, 3) := by decide +kernel
theorem dX2_gatherAround_116 : decode cX2_gatherAround 116 = .ok (.aload_n 0, 1) := by decide +kernel
theorem dX2_gatherAround_117 : decode cX2_gatherAround 117 = .ok (.getfield 21, 3) := by decide +kernel
theorem dX2_gatherAround_120 : decode cX2_gatherAround 120 = .ok (.iload 10, 2) := by decide +kernel
theorem dX2_gatherAround_122 : decode cX2_gatherAround 122 = .ok (.iaload, 1) := by decide +kernel
theorem dX2_gatherAround_123 : decode cX2_gatherAround 123 = .ok (.ifCond .ne 41, 3) := by decide +kernel
theorem dX2_gatherAround_126 : decode cX2_gatherAround 126 = .ok (.aload_n 1, 1) := by decide +kernel
theorem dX2_gatherAround_127 : decode cX2_gatherAround 127 = .ok (.iload 10, 2) := by decide +kernel
theorem dX2_gatherAround_129 : decode cX2_gatherAround 129 = .ok (.invokevirtual 50, 3) := by decide +kernel
theorem dX2_gatherAround_132 : decode cX2_gatherAround 132 = .ok (.iload_n 2, 1) := by decide +kernel
theorem dX2_gatherAround_133 : decode cX2_gatherAround 133 = .ok (.if_icmp .eq 31, 3) := by decide +kernel
theorem dX2_gatherAround_136 : decode cX2_gatherAround 136 = .ok (.iload 4, 2) := by decide +kernel
theorem dX2_gatherAround_138 : decode cX2_gatherAround 138 = .ok (.sipush 144, 3) := by decide +kernel
theorem dX2_gatherAround_141 : decode cX2_gatherAround 141 = .ok (.if_icmp .ge 23, 3) := by decide +kernel
theorem dX2_gatherAround_144 : decode cX2_gatherAround 144 = .ok (.aload_n 0, 1) := by decide +kernel
theorem dX2_gatherAround_145 : decode cX2_gatherAround 145 = .ok (.getfield 21, 3) := by decide +kernel
theorem dX2_gatherAround_148 : decode cX2_gatherAround 148 = .ok (.iload 10, 2) := by decide +kernel
theorem dX2_gatherAround_150 : decode cX2_gatherAround 150 = .ok (.iconst 1, 1) := by decide +kernel
theorem dX2_gatherAround_151 : decode cX2_gatherAround 151 = .ok (.iastore, 1) := by decide +kernel
theorem dX2_gatherAround_152 : decode cX2_gatherAround 152 = .ok (.aload_n 0, 1) := by decide +kernel
theorem dX2_gatherAround_153 : decode cX2_gatherAround 153 = .ok (.getfield 24, 3) := by decide +kernel
theorem dX2_gatherAround_156 : decode cX2_gatherAround 156 = .ok (.iload 4, 2) := by decide +kernel
theorem dX2_gatherAround_158 : decode cX2_gatherAround 158 = .ok (.iload 10, 2) := by decide +kernel
theorem dX2_gatherAround_160 : decode cX2_gatherAround 160 = .ok (.iastore, 1) := by decide +kernel
theorem dX2_gatherAround_161 : decode cX2_gatherAround 161 = .ok (.iinc 4 1, 3) := by decide +kernel
theorem dX2_gatherAround_164 : decode cX2_gatherAround 164 = .ok (.iinc 9 1, 3) := by decide +kernel
theorem dX2_gatherAround_167 : decode cX2_gatherAround 167 = .ok (.goto (-83), 3) := by decide +kernel
theorem dX2_gatherAround_170 : decode cX2_gatherAround 170 = .ok (.iinc 8 1, 3) := by decide +kernel
theorem dX2_gatherAround_173 : decode cX2_gatherAround 173 = .ok (.goto (-104), 3) := by decide +kernel
theorem dX2_gatherAround_176 : decode cX2_gatherAround 176 = .ok (.iinc 5 1, 3) := by decide +kernel
theorem dX2_gatherAround_179 : decode cX2_gatherAround 179 = .ok (.goto (-159), 3) := by decide +kernel
theorem dX2_gatherAround_182 : decode cX2_gatherAround 182 = .ok (.iload 4, 2) := by decide +kernel
theorem dX2_gatherAround_184 : decode cX2_gatherAround 184 = .ok (.ireturn, 1) := by decide +kernel
theorem c_gatherAround {s : Int} (hd : dim c r) (hs : cel c r s) (hsL : lw c r b s ≠ L) (hL : cel c r L) (hl : lw c r b L = L) (hI : IW c r b ct B F S Fo No) (hSn : ∀ j, Sn j = 0 ∨ Sn j = 1) (hS0 : ∀ j, con (EH c r b L) s j → Sn j = 0) :
    Ct l yX2_gatherAround cX2_gatherAround 11 (some .int) rmX2_gatherAround [.ref 0, .ref 6, iv (rk c r b L), iv s] (nsM Ho Mo In Sn Qn ++ isA 6 c r (c * r) ct B F S Br Q Fo No)
    (fun v M => ∃ (had : Int) (Q' : Int → Int), v = some (iv had) ∧ M = nsM Ho Mo In (mkF Sn (con (EH c r b L) s) 1) Q' ++ isA 6 c r (c * r) ct B F S Br Q Fo No ∧ BD (EH c r b L) s Q' had ∧ had ≤ 144) := by
  refine Ct.of miX2_gatherAround (Nat.le_of_ble_eq_true rfl) ?_
  intro X hXl hN ok
  refine AW.cast (L2 := [some (.ref 0), some (.ref 6), some (iv (rk c r b L)), some (iv s), none, none, none, none, none, none, none]) ?_ rfl rfl rfl
  have hc := dim_cells hd
  have hs1 := hs.1
  have hs2 := hs.2
  have hd2 := id hd
  obtain ⟨d1, d2, d3, d4⟩ := hd2
  have hcn : ∀ x, con (EH c r b L) s x → cel c r x ∧ lw c r b x ≠ L := fun x hx => EH_con ⟨hs, hsL⟩ hx
  have hrk := rk_mny hd hL hl
  have hm := mny_1 (B := b) hd
  have loop : ∀ q : (Int → Prop) × (Int → Int) × Int × Int, (BK (EH c r b L) (c * r).toNat s q.1 q.2.1 q.2.2.1 ∧ CL (EH c r b L) q.1 q.2.1 q.2.2.2 ∧ 0 ≤ q.2.2.2 ∧ q.2.2.2 ≤ q.2.2.1) →
      AW X 0 0 20 [some (.ref 0), some (.ref 6), some (iv (rk c r b L)), some (iv s), some (iv q.2.2.1), some (iv q.2.2.2), none, none, none, none, none] [] (nsM Ho Mo In (mkF Sn q.1 1) q.2.1 ++ isA 6 c r (c * r) ct B F S Br Q Fo No) := by
    refine wfl (fun q : (Int → Prop) × (Int → Int) × Int × Int => (145 - q.2.2.2).toNat) _ _ ?_
    rintro ⟨mk, Qf, had, got⟩ ⟨h1, h2, h3, h4⟩ ih
    dsimp only at h1 h2 h3 h4 ih ⊢
    have h0 := BI_0 h1.1
    by_cases hg : got < had
    · have hcur := hcn _ (h1.1.2.1 _ (h1.1.2.2.1 got h3 hg))
      have hcc := h1.1.2.1 _ (h1.1.2.2.1 got h3 hg)
      obtain ⟨cur, ecur⟩ : ∃ cur, cur = Qf got := ⟨_, rfl⟩
      rw [← ecur] at hcur hcc
      have hk := dim_k hd hcur.1
      have hcu1 := hcur.1.1
      have hcu2 := hcur.1.2
      have yloop : ∀ q : (Int → Prop) × (Int → Int) × Int × Int, (BK (EH c r b L) (c * r).toNat s q.1 q.2.1 q.2.2.1 ∧ CL (EH c r b L) q.1 q.2.1 got ∧ got < q.2.2.1 ∧ (∀ i, i ≤ got → q.2.1 i = Qf i) ∧ (cur / c - 1 ≤ q.2.2.2 ∧ q.2.2.2 ≤ cur / c + 2) ∧ (∀ x y : Int, (cur % c - 1 ≤ x ∧ x ≤ cur % c + 1) → (cur / c - 1 ≤ y ∧ y < q.2.2.2) → inP c r x y → lw c r b (y * c + x) ≠ L → q.1 (y * c + x))) →
          AW X 0 0 69 [some (.ref 0), some (.ref 6), some (iv (rk c r b L)), some (iv s), some (iv q.2.2.1), some (iv got), some (iv (cur % c)), some (iv (cur / c)), some (iv q.2.2.2), none, none] [] (nsM Ho Mo In (mkF Sn q.1 1) q.2.1 ++ isA 6 c r (c * r) ct B F S Br Q Fo No) := by
        refine wfl (fun q : (Int → Prop) × (Int → Int) × Int × Int => (cur / c + 2 - q.2.2.2).toNat) _ _ ?_
        rintro ⟨mk2, Q2, had2, y⟩ ⟨i1, i2, i3, i4, i5, i6⟩ ih2
        dsimp only at i1 i2 i3 i4 i5 i6 ih2 ⊢
        have xloop : y ≤ cur / c + 1 → ∀ q : (Int → Prop) × (Int → Int) × Int × Int, (BK (EH c r b L) (c * r).toNat s q.1 q.2.1 q.2.2.1 ∧ CL (EH c r b L) q.1 q.2.1 got ∧ got < q.2.2.1 ∧ (∀ i, i ≤ got → q.2.1 i = Qf i) ∧ (cur % c - 1 ≤ q.2.2.2 ∧ q.2.2.2 ≤ cur % c + 2) ∧ (∀ x v : Int, (cur % c - 1 ≤ x ∧ x ≤ cur % c + 1) → (cur / c - 1 ≤ v ∧ (v < y ∨ (v = y ∧ x < q.2.2.2))) → inP c r x v → lw c r b (v * c + x) ≠ L → q.1 (v * c + x))) →
            AW X 0 0 84 [some (.ref 0), some (.ref 6), some (iv (rk c r b L)), some (iv s), some (iv q.2.2.1), some (iv got), some (iv (cur % c)), some (iv (cur / c)), some (iv y), some (iv q.2.2.2), none] [] (nsM Ho Mo In (mkF Sn q.1 1) q.2.1 ++ isA 6 c r (c * r) ct B F S Br Q Fo No) := by
          intro hy
          refine wfl (fun q : (Int → Prop) × (Int → Int) × Int × Int => (cur % c + 2 - q.2.2.2).toNat) _ _ ?_
          rintro ⟨mk3, Q3, had3, x⟩ ⟨j1, j2, j3, j4, j5, j6⟩ ih3
          dsimp only at j1 j2 j3 j4 j5 j6 ih3 ⊢
          have j0 := BI_0 j1.1
          have hcl : inP c r x y → cel c r (y * c + x) ∧ (0 ≤ y * c + x ∧ y * c + x < 144) := fun h => by
            have := xy_cel hd (x := x) (y := y) (by omega) (by omega)
            have a := this.1; have d := this.2
            exact ⟨this, a, by omega⟩
          have hE : inP c r x y → lw c r b (y * c + x) ≠ L → x ≤ cur % c + 1 → EH c r b L cur (y * c + x) := fun h h' hx => by
            refine ⟨hcur, ⟨(hcl h).1, h'⟩, ?_⟩
            have := dm_xy (c := c) (x := x) (y := y) (by omega)
            unfold near8
            rw [this.1, this.2]
            omega
          have skip : ∀ u : Value, x ≤ cur % c + 1 → (inP c r x y → lw c r b (y * c + x) ≠ L → mk3 (y * c + x)) → AW X 0 0 164 [some (.ref 0), some (.ref 6), some (iv (rk c r b L)), some (iv s), some (iv had3), some (iv got), some (iv (cur % c)), some (iv (cur / c)), some (iv y), some (iv x), some u] [] (nsM Ho Mo In (mkF Sn mk3 1) Q3 ++ isA 6 c r (c * r) ct B F S Br Q Fo No) := by
            intro u hx hu
            have hi : ∀ u v : Int, (cur % c - 1 ≤ u ∧ u ≤ cur % c + 1) → (cur / c - 1 ≤ v ∧ (v < y ∨ (v = y ∧ u < x + 1))) → inP c r u v → lw c r b (v * c + u) ≠ L → mk3 (v * c + u) := by
              intro u v a1 a2 a3 a4
              by_cases e : v = y ∧ u = x
              · obtain ⟨rfl, rfl⟩ := e; exact hu a3 a4
              · exact j6 u v a1 ⟨a2.1, by omega⟩ a3 a4
            refine a_iinc (pc := 164) ok dX2_gatherAround_164 rfl rfl (by rw [hN]; decide) ?_
            refine a_goto (pc := 167) (tgt := 84) ok dX2_gatherAround_167 (by decide) ?_
            exact AW.forget (ih3 (mk3, Q3, had3, x + 1) ⟨j1, j2, j3, j4, by dsimp only; omega, hi⟩ (by dsimp only; omega)) (by repeat' (first | exact trivial | refine ⟨rfl, ?_⟩))
          have take : ∀ u : Value, x ≤ cur % c + 1 → inP c r x y → lw c r b (y * c + x) ≠ L → ¬ mk3 (y * c + x) → AW X 0 0 164 [some (.ref 0), some (.ref 6), some (iv (rk c r b L)), some (iv s), some (iv (had3 + 1)), some (iv got), some (iv (cur % c)), some (iv (cur / c)), some (iv y), some (iv x), some u] [] (nsM Ho Mo In (up (mkF Sn mk3 1) (y * c + x) 1) (up Q3 had3 (y * c + x)) ++ isA 6 c r (c * r) ct B F S Br Q Fo No) := by
            intro u hx hp hn hm3
            rw [mkF_up]
            have hcel := hcl hp
            have hcon : con (EH c r b L) s (y * c + x) := con_step hcc (hE hp hn hx)
            have hi : ∀ u v : Int, (cur % c - 1 ≤ u ∧ u ≤ cur % c + 1) → (cur / c - 1 ≤ v ∧ (v < y ∨ (v = y ∧ u < x + 1))) → inP c r u v → lw c r b (v * c + u) ≠ L → (v * c + u = y * c + x ∨ mk3 (v * c + u)) := by
              intro u v a1 a2 a3 a4
              by_cases e : v = y ∧ u = x
              · obtain ⟨rfl, rfl⟩ := e; exact Or.inl rfl
              · exact Or.inr (j6 u v a1 ⟨a2.1, by omega⟩ a3 a4)
            have hi4 : ∀ i, i ≤ got → up Q3 had3 (y * c + x) i = Qf i := fun i hi => by unfold up; rw [if_neg (by omega)]; exact j4 i hi
            refine a_iinc (pc := 164) ok dX2_gatherAround_164 rfl rfl (by rw [hN]; decide) ?_
            refine a_goto (pc := 167) (tgt := 84) ok dX2_gatherAround_167 (by decide) ?_
            exact AW.forget (ih3 (fun j => j = y * c + x ∨ mk3 j, up Q3 had3 (y * c + x), had3 + 1, x + 1) ⟨BK_add j1 (cel_N hd hcel.1) hcon hm3, CL_add j2 (by omega), by dsimp only; omega, hi4, by dsimp only; omega, hi⟩ (by dsimp only; omega)) (by repeat' (first | exact trivial | refine ⟨rfl, ?_⟩))
          have hmk : inP c r x y → lw c r b (y * c + x) ≠ L → x ≤ cur % c + 1 → (mkF Sn mk3 1 (y * c + x) = 0 ↔ ¬ mk3 (y * c + x)) := fun h h' hx => by
            by_cases z : mk3 (y * c + x)
            · rw [mkF_t z]; exact ⟨fun e => by omega, fun e => absurd z e⟩
            · rw [mkF_f z]; exact ⟨fun _ => z, fun _ => hS0 _ (con_step hcc (hE h h' hx))⟩
          have hmr : rg (mkF Sn mk3 1 (y * c + x)) := by
            by_cases z : mk3 (y * c + x)
            · rw [mkF_t z]; unfold rg; omega
            · rw [mkF_f z]; have := hSn (y * c + x); unfold rg; omega
          have hir : inP c r x y → (rk c r b (lw c r b (y * c + x)) = rk c r b L ↔ lw c r b (y * c + x) = L) := fun h => by
            have hh := lw_ok (B := b) hd (hcl h).1
            exact ⟨fun e => rk_inj hh.1 (lw_lw hd (hcl h).1) hL hl e, fun e => by rw [e]⟩
          have hir2 : inP c r x y → 0 ≤ rk c r b (lw c r b (y * c + x)) ∧ rk c r b (lw c r b (y * c + x)) < mny c r b := fun h => by
            have hh := lw_ok (B := b) hd (hcl h).1
            exact rk_mny hd hh.1 (lw_lw hd (hcl h).1)
          by_cases hp : inP c r x y
          · have hcl2 := hcl hp
            have hir3 := hir2 hp
            refine a_iload (pc := 84) ok dX2_gatherAround_84 rfl ?_
            refine a_iload (pc := 86) ok dX2_gatherAround_86 rfl ?_
            refine a_iconst (pc := 88) ok dX2_gatherAround_88 ?_
            refine a_iadd (pc := 89) ok dX2_gatherAround_89 ?_
            refine a_icmp_gt (pc := 90) (tgt := 170) ok dX2_gatherAround_90 (by decide) (by unfold rg; omega) (by unfold rg; omega) (fun c90 => ?_) (fun c90 => ?_)
            · refine a_iinc (pc := 170) ok dX2_gatherAround_170 rfl rfl (by rw [hN]; decide) ?_
              refine a_goto (pc := 173) (tgt := 69) ok dX2_gatherAround_173 (by decide) ?_
              exact AW.forget (ih2 (mk3, Q3, had3, y + 1) ⟨j1, j2, j3, j4, by dsimp only; omega, fun u v a1 a2 a3 a4 => j6 u v a1 ⟨a2.1, by dsimp only at a2; omega⟩ a3 a4⟩ (by dsimp only; omega)) (by repeat' (first | exact trivial | refine ⟨rfl, ?_⟩))
            · refine a_iload (pc := 93) ok dX2_gatherAround_93 rfl ?_
              refine a_aload_n (pc := 95) ok dX2_gatherAround_95 rfl ?_
              refine a_getf (pc := 96) ok dX2_gatherAround_96 fl2_65 rfl rfl ?_
              refine a_imul (pc := 99) ok dX2_gatherAround_99 ?_
              refine a_iload (pc := 100) ok dX2_gatherAround_100 rfl ?_
              refine a_iadd (pc := 102) ok dX2_gatherAround_102 ?_
              refine a_istore (pc := 103) ok dX2_gatherAround_103 rfl (by rw [hN]; decide) ?_
              refine a_aload_n (pc := 105) ok dX2_gatherAround_105 rfl ?_
              refine a_iload (pc := 106) ok dX2_gatherAround_106 rfl ?_
              refine a_iload (pc := 108) ok dX2_gatherAround_108 rfl ?_
              refine a_callVp (pc := 110) ok [6, 7, 8, 9, 10, 11, 12, 13] dX2_gatherAround_110 mv2_68 miX0_isOnPlate (c_isOnPlate hd (by unfold rg; omega) (by unfold rg; omega)) ⟨by decide, by decide, rfl, rfl, Nat.zero_le _, Nat.zero_le _⟩ rfl rfl (Nat.le_of_ble_eq_true rfl) rfl (by decide) rfl rfl ?_
              refine a_if_eq (pc := 113) (tgt := 164) ok dX2_gatherAround_113 (by decide) (by exact bz_rg _) (fun c113 => ?_) (fun c113 => ?_)
              · first
                | exact absurd c113 (by rw [bz_pos hp]; decide)
                | exact skip _ (by omega) (fun a d => Classical.byContradiction fun z => c123 ((hmk a d (by omega)).mpr z))
                | exact skip _ (by omega) (fun a d => absurd ((hir a).mp c133) d)
                | exact absurd (BI_lt j1.1 (cel_N hd hcl2.1) ((hmk hp (fun z => c133 ((hir hp).mpr z)) (by omega)).mp c123)) (by omega)
                | exact take _ (by omega) hp (fun z => c133 ((hir hp).mpr z)) ((hmk hp (fun z => c133 ((hir hp).mpr z)) (by omega)).mp c123)
              · refine a_aload_n (pc := 116) ok dX2_gatherAround_116 rfl ?_
                refine a_getf (pc := 117) ok dX2_gatherAround_117 fl2_21 rfl rfl ?_
                refine a_iload (pc := 120) ok dX2_gatherAround_120 rfl ?_
                refine a_iald (pc := 122) ok dX2_gatherAround_122 rfl (by first | decide | omega) (by first | omega | (unfold rg; omega) | (simp only [rg] at *; omega) | exact bz_rg _ | grind [rg]) ?_
                refine a_if_ne (pc := 123) (tgt := 164) ok dX2_gatherAround_123 (by decide) (by exact hmr) (fun c123 => ?_) (fun c123 => ?_)
                · first
                  | exact absurd c113 (by rw [bz_pos hp]; decide)
                  | exact skip _ (by omega) (fun a d => Classical.byContradiction fun z => c123 ((hmk a d (by omega)).mpr z))
                  | exact skip _ (by omega) (fun a d => absurd ((hir a).mp c133) d)
                  | exact absurd (BI_lt j1.1 (cel_N hd hcl2.1) ((hmk hp (fun z => c133 ((hir hp).mpr z)) (by omega)).mp c123)) (by omega)
                  | exact take _ (by omega) hp (fun z => c133 ((hir hp).mpr z)) ((hmk hp (fun z => c133 ((hir hp).mpr z)) (by omega)).mp c123)
                · refine a_aload_n (pc := 126) ok dX2_gatherAround_126 rfl ?_
                  refine a_iload (pc := 127) ok dX2_gatherAround_127 rfl ?_
                  refine a_callVp (pc := 129) ok [6, 7, 8, 9, 10, 11, 12, 13] dX2_gatherAround_129 mv2_50 miX0_islandAt (c_islandAt hd hcl2.1 hI) ⟨by decide, by decide, rfl, rfl, Nat.zero_le _, Nat.zero_le _⟩ rfl rfl (Nat.le_of_ble_eq_true rfl) rfl (by decide) rfl rfl ?_
                  refine a_iload_n (pc := 132) ok dX2_gatherAround_132 rfl ?_
                  refine a_icmp_eq (pc := 133) (tgt := 164) ok dX2_gatherAround_133 (by decide) (by first | omega | (unfold rg; omega) | (simp only [rg] at *; omega) | exact bz_rg _ | grind [rg]) (by first | omega | (unfold rg; omega) | (simp only [rg] at *; omega) | exact bz_rg _ | grind [rg]) (fun c133 => ?_) (fun c133 => ?_)
                  · first
                    | exact absurd c113 (by rw [bz_pos hp]; decide)
                    | exact skip _ (by omega) (fun a d => Classical.byContradiction fun z => c123 ((hmk a d (by omega)).mpr z))
                    | exact skip _ (by omega) (fun a d => absurd ((hir a).mp c133) d)
                    | exact absurd (BI_lt j1.1 (cel_N hd hcl2.1) ((hmk hp (fun z => c133 ((hir hp).mpr z)) (by omega)).mp c123)) (by omega)
                    | exact take _ (by omega) hp (fun z => c133 ((hir hp).mpr z)) ((hmk hp (fun z => c133 ((hir hp).mpr z)) (by omega)).mp c123)
                  · refine a_iload (pc := 136) ok dX2_gatherAround_136 rfl ?_
                    refine a_sipush (pc := 138) ok dX2_gatherAround_138 (by decide) ?_
                    refine a_icmp_ge (pc := 141) (tgt := 164) ok dX2_gatherAround_141 (by decide) (by first | omega | (unfold rg; omega) | (simp only [rg] at *; omega) | exact bz_rg _ | grind [rg]) (by first | omega | (unfold rg; omega) | (simp only [rg] at *; omega) | exact bz_rg _ | grind [rg]) (fun c141 => ?_) (fun c141 => ?_)
                    · first
                      | exact absurd c113 (by rw [bz_pos hp]; decide)
                      | exact skip _ (by omega) (fun a d => Classical.byContradiction fun z => c123 ((hmk a d (by omega)).mpr z))
                      | exact skip _ (by omega) (fun a d => absurd ((hir a).mp c133) d)
                      | exact absurd (BI_lt j1.1 (cel_N hd hcl2.1) ((hmk hp (fun z => c133 ((hir hp).mpr z)) (by omega)).mp c123)) (by omega)
                      | exact take _ (by omega) hp (fun z => c133 ((hir hp).mpr z)) ((hmk hp (fun z => c133 ((hir hp).mpr z)) (by omega)).mp c123)
                    · refine a_aload_n (pc := 144) ok dX2_gatherAround_144 rfl ?_
                      refine a_getf (pc := 145) ok dX2_gatherAround_145 fl2_21 rfl rfl ?_
                      refine a_iload (pc := 148) ok dX2_gatherAround_148 rfl ?_
                      refine a_iconst (pc := 150) ok dX2_gatherAround_150 ?_
                      refine a_iast (pc := 151) ok dX2_gatherAround_151 rfl (by first | decide | omega) (by first | omega | (unfold rg; omega) | (simp only [rg] at *; omega) | exact bz_rg _ | grind [rg]) ?_
                      refine a_aload_n (pc := 152) ok dX2_gatherAround_152 rfl ?_
                      refine a_getf (pc := 153) ok dX2_gatherAround_153 fl2_24 rfl rfl ?_
                      refine a_iload (pc := 156) ok dX2_gatherAround_156 rfl ?_
                      refine a_iload (pc := 158) ok dX2_gatherAround_158 rfl ?_
                      refine a_iast (pc := 160) ok dX2_gatherAround_160 rfl (by first | decide | omega) (by have hn : ¬ mk3 (y * c + x) := (hmk hp (fun z => c133 ((hir hp).mpr z)) (by omega)).mp c123; have := BI_lt j1.1 (cel_N hd hcl2.1) hn; omega) ?_
                      refine a_iinc (pc := 161) ok dX2_gatherAround_161 rfl rfl (by rw [hN]; decide) ?_
                      first
                      | exact absurd c113 (by rw [bz_pos hp]; decide)
                      | exact skip _ (by omega) (fun a d => Classical.byContradiction fun z => c123 ((hmk a d (by omega)).mpr z))
                      | exact skip _ (by omega) (fun a d => absurd ((hir a).mp c133) d)
                      | exact absurd (BI_lt j1.1 (cel_N hd hcl2.1) ((hmk hp (fun z => c133 ((hir hp).mpr z)) (by omega)).mp c123)) (by omega)
                      | exact take _ (by omega) hp (fun z => c133 ((hir hp).mpr z)) ((hmk hp (fun z => c133 ((hir hp).mpr z)) (by omega)).mp c123)
          · skip
            refine a_iload (pc := 84) ok dX2_gatherAround_84 rfl ?_
            refine a_iload (pc := 86) ok dX2_gatherAround_86 rfl ?_
            refine a_iconst (pc := 88) ok dX2_gatherAround_88 ?_
            refine a_iadd (pc := 89) ok dX2_gatherAround_89 ?_
            refine a_icmp_gt (pc := 90) (tgt := 170) ok dX2_gatherAround_90 (by decide) (by unfold rg; omega) (by unfold rg; omega) (fun c90 => ?_) (fun c90 => ?_)
            · refine a_iinc (pc := 170) ok dX2_gatherAround_170 rfl rfl (by rw [hN]; decide) ?_
              refine a_goto (pc := 173) (tgt := 69) ok dX2_gatherAround_173 (by decide) ?_
              exact AW.forget (ih2 (mk3, Q3, had3, y + 1) ⟨j1, j2, j3, j4, by dsimp only; omega, fun u v a1 a2 a3 a4 => j6 u v a1 ⟨a2.1, by dsimp only at a2; omega⟩ a3 a4⟩ (by dsimp only; omega)) (by repeat' (first | exact trivial | refine ⟨rfl, ?_⟩))
            · refine a_iload (pc := 93) ok dX2_gatherAround_93 rfl ?_
              refine a_aload_n (pc := 95) ok dX2_gatherAround_95 rfl ?_
              refine a_getf (pc := 96) ok dX2_gatherAround_96 fl2_65 rfl rfl ?_
              refine a_imul (pc := 99) ok dX2_gatherAround_99 ?_
              refine a_iload (pc := 100) ok dX2_gatherAround_100 rfl ?_
              refine a_iadd (pc := 102) ok dX2_gatherAround_102 ?_
              refine a_istore (pc := 103) ok dX2_gatherAround_103 rfl (by rw [hN]; decide) ?_
              refine a_aload_n (pc := 105) ok dX2_gatherAround_105 rfl ?_
              refine a_iload (pc := 106) ok dX2_gatherAround_106 rfl ?_
              refine a_iload (pc := 108) ok dX2_gatherAround_108 rfl ?_
              refine a_callVp (pc := 110) ok [6, 7, 8, 9, 10, 11, 12, 13] dX2_gatherAround_110 mv2_68 miX0_isOnPlate (c_isOnPlate hd (by unfold rg; omega) (by unfold rg; omega)) ⟨by decide, by decide, rfl, rfl, Nat.zero_le _, Nat.zero_le _⟩ rfl rfl (Nat.le_of_ble_eq_true rfl) rfl (by decide) rfl rfl ?_
              refine a_if_eq (pc := 113) (tgt := 164) ok dX2_gatherAround_113 (by decide) (by exact bz_rg _) (fun c113 => ?_) (fun c113 => ?_)
              · exact skip _ (by omega) (fun a => absurd a hp)
              · exact absurd (bz_neg hp) c113
        refine a_iload (pc := 69) ok dX2_gatherAround_69 rfl ?_
        refine a_iload (pc := 71) ok dX2_gatherAround_71 rfl ?_
        refine a_iconst (pc := 73) ok dX2_gatherAround_73 ?_
        refine a_iadd (pc := 74) ok dX2_gatherAround_74 ?_
        refine a_icmp_gt (pc := 75) (tgt := 176) ok dX2_gatherAround_75 (by decide) (by first | omega | (unfold rg; omega) | (simp only [rg] at *; omega) | exact bz_rg _ | grind [rg]) (by first | omega | (unfold rg; omega) | (simp only [rg] at *; omega) | exact bz_rg _ | grind [rg]) (fun c75 => ?_) (fun c75 => ?_)
        · refine a_iinc (pc := 176) ok dX2_gatherAround_176 rfl rfl (by rw [hN]; decide) ?_
          refine a_goto (pc := 179) (tgt := 20) ok dX2_gatherAround_179 (by decide) ?_
          refine AW.forget (ih (mk2, Q2, had2, got + 1) ⟨i1, fun i a1 a2 x hx => ?_, by dsimp only; omega, by dsimp only; omega⟩ (by dsimp only; omega)) (by repeat' (first | exact trivial | refine ⟨rfl, ?_⟩))
          rcases (show i < got ∨ i = got by dsimp only at a2; omega) with z | z
          · exact i2 i a1 z x hx
          · dsimp only at hx ⊢
            rw [z, i4 got (by omega), ← ecur] at hx
            have a := hx.2.1
            have d := hx.2.2
            have e := dim_k hd a.1
            have f := i6 (x % c) (x / c) d.1 ⟨d.2.1, by have := d.2.2; omega⟩ ⟨e.1, e.2.1, e.2.2.1, e.2.2.2.1⟩
            rw [← e.2.2.2.2] at f
            exact f a.2
        · refine a_iload (pc := 78) ok dX2_gatherAround_78 rfl ?_
          refine a_iconst (pc := 80) ok dX2_gatherAround_80 ?_
          refine a_isub (pc := 81) ok dX2_gatherAround_81 ?_
          refine a_istore (pc := 82) ok dX2_gatherAround_82 rfl (by rw [hN]; decide) ?_
          exact AW.forget (xloop (by omega) (mk2, Q2, had2, cur % c - 1) ⟨i1, i2, i3, i4, by dsimp only; omega, fun u v a1 a2 a3 a4 => i6 u v a1 ⟨a2.1, by dsimp only at a2; omega⟩ a3 a4⟩) (by repeat' (first | exact trivial | refine ⟨rfl, ?_⟩))
      refine a_iload (pc := 20) ok dX2_gatherAround_20 rfl ?_
      refine a_iload (pc := 22) ok dX2_gatherAround_22 rfl ?_
      refine a_icmp_ge (pc := 24) (tgt := 182) ok dX2_gatherAround_24 (by decide) (by first | omega | (unfold rg; omega) | (simp only [rg] at *; omega) | exact bz_rg _ | grind [rg]) (by first | omega | (unfold rg; omega) | (simp only [rg] at *; omega) | exact bz_rg _ | grind [rg]) (fun c24 => ?_) (fun c24 => ?_)
      · exfalso; first | omega | grind
      · refine a_iload (pc := 27) ok dX2_gatherAround_27 rfl ?_
        refine a_sipush (pc := 29) ok dX2_gatherAround_29 (by decide) ?_
        refine a_icmp_ge (pc := 32) (tgt := 182) ok dX2_gatherAround_32 (by decide) (by first | omega | (unfold rg; omega) | (simp only [rg] at *; omega) | exact bz_rg _ | grind [rg]) (by first | omega | (unfold rg; omega) | (simp only [rg] at *; omega) | exact bz_rg _ | grind [rg]) (fun c32 => ?_) (fun c32 => ?_)
        · exfalso; first | omega | grind
        · refine a_aload_n (pc := 35) ok dX2_gatherAround_35 rfl ?_
          refine a_getf (pc := 36) ok dX2_gatherAround_36 fl2_24 rfl rfl ?_
          refine a_iload (pc := 39) ok dX2_gatherAround_39 rfl ?_
          refine a_iald (pc := 41) ok dX2_gatherAround_41 rfl (by first | decide | omega) (by first | omega | (unfold rg; omega) | (simp only [rg] at *; omega) | exact bz_rg _ | grind [rg]) ?_
          refine a_aload_n (pc := 42) ok dX2_gatherAround_42 rfl ?_
          refine a_getf (pc := 43) ok dX2_gatherAround_43 fl2_65 rfl rfl ?_
          rw [← ecur]
          refine a_irem (pc := 46) ok dX2_gatherAround_46 (by first | omega | (unfold rg; omega) | (simp only [rg] at *; omega) | exact bz_rg _ | grind [rg]) (by first | omega | (unfold rg; omega) | (simp only [rg] at *; omega) | exact bz_rg _ | grind [rg]) ?_
          refine a_istore (pc := 47) ok dX2_gatherAround_47 rfl (by rw [hN]; decide) ?_
          refine a_aload_n (pc := 49) ok dX2_gatherAround_49 rfl ?_
          refine a_getf (pc := 50) ok dX2_gatherAround_50 fl2_24 rfl rfl ?_
          refine a_iload (pc := 53) ok dX2_gatherAround_53 rfl ?_
          refine a_iald (pc := 55) ok dX2_gatherAround_55 rfl (by first | decide | omega) (by first | omega | (unfold rg; omega) | (simp only [rg] at *; omega) | exact bz_rg _ | grind [rg]) ?_
          refine a_aload_n (pc := 56) ok dX2_gatherAround_56 rfl ?_
          refine a_getf (pc := 57) ok dX2_gatherAround_57 fl2_65 rfl rfl ?_
          rw [← ecur]
          refine a_idiv (pc := 60) ok dX2_gatherAround_60 (by first | omega | (unfold rg; omega) | (simp only [rg] at *; omega) | exact bz_rg _ | grind [rg]) (by first | omega | (unfold rg; omega) | (simp only [rg] at *; omega) | exact bz_rg _ | grind [rg]) ?_
          refine a_istore (pc := 61) ok dX2_gatherAround_61 rfl (by rw [hN]; decide) ?_
          refine a_iload (pc := 63) ok dX2_gatherAround_63 rfl ?_
          refine a_iconst (pc := 65) ok dX2_gatherAround_65 ?_
          refine a_isub (pc := 66) ok dX2_gatherAround_66 ?_
          refine a_istore (pc := 67) ok dX2_gatherAround_67 rfl (by rw [hN]; decide) ?_
          exact AW.forget (yloop (mk, Qf, had, cur / c - 1) ⟨h1, h2, by dsimp only; omega, fun i _ => rfl, by dsimp only; omega, fun u v a1 a2 => by dsimp only at a2; omega⟩) (by repeat' (first | exact trivial | refine ⟨rfl, ?_⟩))
    · skip
      have fin : had ≤ got → ∃ (had' : Int) (Q' : Int → Int), some (iv had) = some (iv had') ∧ nsM Ho Mo In (mkF Sn mk 1) Qf ++ isA 6 c r (c * r) ct B F S Br Q Fo No = nsM Ho Mo In (mkF Sn (con (EH c r b L) s) 1) Q' ++ isA 6 c r (c * r) ct B F S Br Q Fo No ∧ BD (EH c r b L) s Q' had' ∧ had' ≤ 144 := fun hg => by
        have e : got = had := by omega
        subst e
        have hd3 := BK_done h1 h2
        exact ⟨got, Qf, rfl, by rw [mkF_congr hd3.1], hd3.2, by omega⟩
      refine a_iload (pc := 20) ok dX2_gatherAround_20 rfl ?_
      refine a_iload (pc := 22) ok dX2_gatherAround_22 rfl ?_
      refine a_icmp_ge (pc := 24) (tgt := 182) ok dX2_gatherAround_24 (by decide) (by first | omega | (unfold rg; omega) | (simp only [rg] at *; omega) | exact bz_rg _ | grind [rg]) (by first | omega | (unfold rg; omega) | (simp only [rg] at *; omega) | exact bz_rg _ | grind [rg]) (fun c24 => ?_) (fun c24 => ?_)
      · refine a_iload (pc := 182) ok dX2_gatherAround_182 rfl ?_
        exact a_iret (pc := 184) ok dX2_gatherAround_184 (fin (by omega))
      · exfalso; first | omega | grind
  refine a_aload_n (pc := 0) ok dX2_gatherAround_0 rfl ?_
  refine a_getf (pc := 1) ok dX2_gatherAround_1 fl2_21 rfl rfl ?_
  refine a_iload_n (pc := 4) ok dX2_gatherAround_4 rfl ?_
  refine a_iconst (pc := 5) ok dX2_gatherAround_5 ?_
  refine a_iast (pc := 6) ok dX2_gatherAround_6 rfl (by first | decide | omega) (by first | omega | (unfold rg; omega) | (simp only [rg] at *; omega) | exact bz_rg _ | grind [rg]) ?_
  refine a_aload_n (pc := 7) ok dX2_gatherAround_7 rfl ?_
  refine a_getf (pc := 8) ok dX2_gatherAround_8 fl2_24 rfl rfl ?_
  refine a_iconst (pc := 11) ok dX2_gatherAround_11 ?_
  refine a_iload_n (pc := 12) ok dX2_gatherAround_12 rfl ?_
  refine a_iast (pc := 13) ok dX2_gatherAround_13 rfl (by first | decide | omega) (by first | omega | (unfold rg; omega) | (simp only [rg] at *; omega) | exact bz_rg _ | grind [rg]) ?_
  refine a_iconst (pc := 14) ok dX2_gatherAround_14 ?_
  refine a_istore (pc := 15) ok dX2_gatherAround_15 rfl (by rw [hN]; decide) ?_
  refine a_iconst (pc := 17) ok dX2_gatherAround_17 ?_
  refine a_istore (pc := 18) ok dX2_gatherAround_18 rfl (by rw [hN]; decide) ?_
  refine AW.cast (loop (fun j => j = s, up Qn 0 s, 1, 0) ⟨BK_start (cel_N hd hs) (show up Qn 0 s 0 = s from if_pos rfl), fun i a1 a2 => by dsimp only at a2; omega, by dsimp only; omega, by dsimp only; omega⟩) rfl rfl ?_
  rw [← mkF_one]; rfl
end NE
