/-! THE CLASS: bestMove. -/
section CW5
variable {l : Launch} {S : St} {kn nk : Int} {S2 : St} {c1 r1 m1 ct1 : Int} {B1 F1 Z1 Br1 Q1 Fo1 No1 gb : Int → Int}
/-- the islands with the threshold k at w -/
noncomputable def mwF (S : St) (k w : Int) : Int := mny (sC S) (sR S) (mrg (sC S) (sR S) (sE S) 144 (bnd (up (sT S) k w) (sN S) (sG S)))
theorem mwF_mv {u k v : Int} (hk : 0 ≤ k ∧ k < sN S) (hu : u = sT S k) : mwF S k v = mS (mvS S u v) := by
  unfold mwF
  rw [← bnd_mv (v := v) hk hu]
  rfl
theorem mwF_same {k v : Int} (hd : dim (sC S) (sR S)) (hk : 0 ≤ k ∧ k < sN S) (h : ∀ j, cel (sC S) (sR S) j → sG S j ≠ v) : mwF S k (v + 1) = mwF S k v := by
  refine mny_congr hd (mrg_congr hd _ 144 fun j hj => ?_)
  have h1 := band_up (T := sT S) (n := sN S) (v := v + 1) hk (sG S j)
  have h2 := band_up (T := sT S) (n := sN S) (v := v) hk (sG S j)
  have h3 := h j hj
  show bandN (up (sT S) k (v + 1)) (sN S) (sG S j) = bandN (up (sT S) k v) (sN S) (sG S j)
  have e : (if v + 1 ≤ sG S j then (1 : Int) else 0) = if v ≤ sG S j then 1 else 0 := by split <;> split <;> omega
  rw [e] at h1
  omega
abbrev bmC (q : Int × Int × Int) (u : Int) : Int × Int × Int := if q.1 = -1 then (u, 145, 99) else q
theorem dX6_bestMove_0 : decode cX6_bestMove 0 = .ok (.aload_n 0, 1) := by decide +kernel
theorem dX6_bestMove_1 : decode cX6_bestMove 1 = .ok (.getfield 19, 3) := by decide +kernel
theorem dX6_bestMove_4 : decode cX6_bestMove 4 = .ok (.iload_n 1, 1) := by decide +kernel
theorem dX6_bestMove_5 : decode cX6_bestMove 5 = .ok (.invokevirtual 229, 3) := by decide +kernel
theorem dX6_bestMove_8 : decode cX6_bestMove 8 = .ok (.invokestatic 203, 3) := by decide +kernel
theorem dX6_bestMove_11 : decode cX6_bestMove 11 = .ok (.aload_n 0, 1) := by decide +kernel
theorem dX6_bestMove_12 : decode cX6_bestMove 12 = .ok (.getfield 19, 3) := by decide +kernel
theorem dX6_bestMove_15 : decode cX6_bestMove 15 = .ok (.getfield 232, 3) := by decide +kernel
theorem dX6_bestMove_18 : decode cX6_bestMove 18 = .ok (.iload_n 1, 1) := by decide +kernel
theorem dX6_bestMove_19 : decode cX6_bestMove 19 = .ok (.iaload, 1) := by decide +kernel
theorem dX6_bestMove_20 : decode cX6_bestMove 20 = .ok (.istore_n 2, 1) := by decide +kernel
theorem dX6_bestMove_21 : decode cX6_bestMove 21 = .ok (.aload_n 0, 1) := by decide +kernel
theorem dX6_bestMove_22 : decode cX6_bestMove 22 = .ok (.getfield 59, 3) := by decide +kernel
theorem dX6_bestMove_25 : decode cX6_bestMove 25 = .ok (.aload_n 0, 1) := by decide +kernel
theorem dX6_bestMove_26 : decode cX6_bestMove 26 = .ok (.getfield 19, 3) := by decide +kernel
theorem dX6_bestMove_29 : decode cX6_bestMove 29 = .ok (.invokevirtual 354, 3) := by decide +kernel
theorem dX6_bestMove_32 : decode cX6_bestMove 32 = .ok (.iload_n 2, 1) := by decide +kernel
theorem dX6_bestMove_33 : decode cX6_bestMove 33 = .ok (.istore_n 3, 1) := by decide +kernel
theorem dX6_bestMove_34 : decode cX6_bestMove 34 = .ok (.sipush 145, 3) := by decide +kernel
theorem dX6_bestMove_37 : decode cX6_bestMove 37 = .ok (.istore 4, 2) := by decide +kernel
theorem dX6_bestMove_39 : decode cX6_bestMove 39 = .ok (.bipush 99, 2) := by decide +kernel
theorem dX6_bestMove_41 : decode cX6_bestMove 41 = .ok (.istore 5, 2) := by decide +kernel
theorem dX6_bestMove_43 : decode cX6_bestMove 43 = .ok (.iconst 1, 1) := by decide +kernel
theorem dX6_bestMove_44 : decode cX6_bestMove 44 = .ok (.istore 6, 2) := by decide +kernel
theorem dX6_bestMove_46 : decode cX6_bestMove 46 = .ok (.iconst 1, 1) := by decide +kernel
theorem dX6_bestMove_47 : decode cX6_bestMove 47 = .ok (.istore 7, 2) := by decide +kernel
theorem dX6_bestMove_49 : decode cX6_bestMove 49 = .ok (.iload 7, 2) := by decide +kernel
theorem dX6_bestMove_51 : decode cX6_bestMove 51 = .ok (.bipush 99, 2) := by decide +kernel
theorem dX6_bestMove_53 : decode cX6_bestMove 53 = .ok (.if_icmp .gt 150, 3) := by decide +kernel
theorem dX6_bestMove_56 : decode cX6_bestMove 56 = .ok (.iload 6, 2) := by decide +kernel
theorem dX6_bestMove_58 : decode cX6_bestMove 58 = .ok (.ifCond .ne 17, 3) := by decide +kernel
theorem dX6_bestMove_61 : decode cX6_bestMove 61 = .ok (.aload_n 0, 1) := by decide +kernel
theorem dX6_bestMove_62 : decode cX6_bestMove 62 = .ok (.getfield 19, 3) := by decide +kernel
theorem dX6_bestMove_65 : decode cX6_bestMove 65 = .ok (.iload 7, 2) := by decide +kernel
theorem dX6_bestMove_67 : decode cX6_bestMove 67 = .ok (.iconst 1, 1) := by decide +kernel
theorem dX6_bestMove_68 : decode cX6_bestMove 68 = .ok (.isub, 1) := by decide +kernel
theorem dX6_bestMove_69 : decode cX6_bestMove 69 = .ok (.invokevirtual 357, 3) := by decide +kernel
theorem dX6_bestMove_72 : decode cX6_bestMove 72 = .ok (.ifCond .eq 7, 3) := by decide +kernel
theorem dX6_bestMove_75 : decode cX6_bestMove 75 = .ok (.iconst 1, 1) := by decide +kernel
theorem dX6_bestMove_76 : decode cX6_bestMove 76 = .ok (.goto 4, 3) := by decide +kernel
theorem dX6_bestMove_79 : decode cX6_bestMove 79 = .ok (.iconst 0, 1) := by decide +kernel
theorem dX6_bestMove_80 : decode cX6_bestMove 80 = .ok (.istore 6, 2) := by decide +kernel
theorem dX6_bestMove_82 : decode cX6_bestMove 82 = .ok (.iload 7, 2) := by decide +kernel
theorem dX6_bestMove_84 : decode cX6_bestMove 84 = .ok (.iload_n 2, 1) := by decide +kernel
theorem dX6_bestMove_85 : decode cX6_bestMove 85 = .ok (.if_icmp .eq 19, 3) := by decide +kernel
theorem dX6_bestMove_88 : decode cX6_bestMove 88 = .ok (.aload_n 0, 1) := by decide +kernel
theorem dX6_bestMove_89 : decode cX6_bestMove 89 = .ok (.getfield 19, 3) := by decide +kernel
theorem dX6_bestMove_92 : decode cX6_bestMove 92 = .ok (.iload 7, 2) := by decide +kernel
theorem dX6_bestMove_94 : decode cX6_bestMove 94 = .ok (.invokevirtual 360, 3) := by decide +kernel
theorem dX6_bestMove_97 : decode cX6_bestMove 97 = .ok (.iconst (-1), 1) := by decide +kernel
theorem dX6_bestMove_98 : decode cX6_bestMove 98 = .ok (.if_icmp .eq 6, 3) := by decide +kernel
theorem dX6_bestMove_101 : decode cX6_bestMove 101 = .ok (.goto 96, 3) := by decide +kernel
theorem dX6_bestMove_104 : decode cX6_bestMove 104 = .ok (.iload 6, 2) := by decide +kernel
theorem dX6_bestMove_106 : decode cX6_bestMove 106 = .ok (.ifCond .eq 35, 3) := by decide +kernel
theorem dX6_bestMove_109 : decode cX6_bestMove 109 = .ok (.aload_n 0, 1) := by decide +kernel
theorem dX6_bestMove_110 : decode cX6_bestMove 110 = .ok (.getfield 59, 3) := by decide +kernel
theorem dX6_bestMove_113 : decode cX6_bestMove 113 = .ok (.getfield 232, 3) := by decide +kernel
theorem dX6_bestMove_116 : decode cX6_bestMove 116 = .ok (.iload_n 1, 1) := by decide +kernel
theorem dX6_bestMove_117 : decode cX6_bestMove 117 = .ok (.iload 7, 2) := by decide +kernel
theorem dX6_bestMove_119 : decode cX6_bestMove 119 = .ok (.iastore, 1) := by decide +kernel
theorem dX6_bestMove_120 : decode cX6_bestMove 120 = .ok (.aload_n 0, 1) := by decide +kernel
theorem dX6_bestMove_121 : decode cX6_bestMove 121 = .ok (.getfield 62, 3) := by decide +kernel
theorem dX6_bestMove_124 : decode cX6_bestMove 124 = .ok (.aload_n 0, 1) := by decide +kernel
theorem dX6_bestMove_125 : decode cX6_bestMove 125 = .ok (.getfield 59, 3) := by decide +kernel
theorem dX6_bestMove_128 : decode cX6_bestMove 128 = .ok (.aload_n 0, 1) := by decide +kernel
theorem dX6_bestMove_129 : decode cX6_bestMove 129 = .ok (.getfield 59, 3) := by decide +kernel
theorem dX6_bestMove_132 : decode cX6_bestMove 132 = .ok (.getfield 165, 3) := by decide +kernel
theorem dX6_bestMove_135 : decode cX6_bestMove 135 = .ok (.invokevirtual 175, 3) := by decide +kernel
theorem dX6_bestMove_138 : decode cX6_bestMove 138 = .ok (.iconst 0, 1) := by decide +kernel
theorem dX6_bestMove_139 : decode cX6_bestMove 139 = .ok (.istore 6, 2) := by decide +kernel
theorem dX6_bestMove_141 : decode cX6_bestMove 141 = .ok (.iload 7, 2) := by decide +kernel
theorem dX6_bestMove_143 : decode cX6_bestMove 143 = .ok (.iload_n 2, 1) := by decide +kernel
theorem dX6_bestMove_144 : decode cX6_bestMove 144 = .ok (.isub, 1) := by decide +kernel
theorem dX6_bestMove_145 : decode cX6_bestMove 145 = .ok (.invokestatic 363, 3) := by decide +kernel
theorem dX6_bestMove_148 : decode cX6_bestMove 148 = .ok (.istore 8, 2) := by decide +kernel
theorem dX6_bestMove_150 : decode cX6_bestMove 150 = .ok (.aload_n 0, 1) := by decide +kernel
theorem dX6_bestMove_151 : decode cX6_bestMove 151 = .ok (.getfield 62, 3) := by decide +kernel
theorem dX6_bestMove_154 : decode cX6_bestMove 154 = .ok (.getfield 172, 3) := by decide +kernel
theorem dX6_bestMove_157 : decode cX6_bestMove 157 = .ok (.iload 4, 2) := by decide +kernel
theorem dX6_bestMove_159 : decode cX6_bestMove 159 = .ok (.if_icmp .lt 22, 3) := by decide +kernel
theorem dX6_bestMove_162 : decode cX6_bestMove 162 = .ok (.aload_n 0, 1) := by decide +kernel
theorem dX6_bestMove_163 : decode cX6_bestMove 163 = .ok (.getfield 62, 3) := by decide +kernel
theorem dX6_bestMove_166 : decode cX6_bestMove 166 = .ok (.getfield 172, 3) := by decide +kernel
theorem dX6_bestMove_169 : decode cX6_bestMove 169 = .ok (.iload 4, 2) := by decide +kernel
theorem dX6_bestMove_171 : decode cX6_bestMove 171 = .ok (.if_icmp .ne 26, 3) := by decide +kernel
theorem dX6_bestMove_174 : decode cX6_bestMove 174 = .ok (.iload 8, 2) := by decide +kernel
theorem dX6_bestMove_176 : decode cX6_bestMove 176 = .ok (.iload 5, 2) := by decide +kernel
theorem dX6_bestMove_178 : decode cX6_bestMove 178 = .ok (.if_icmp .ge 19, 3) := by decide +kernel
theorem dX6_bestMove_181 : decode cX6_bestMove 181 = .ok (.iload 7, 2) := by decide +kernel
theorem dX6_bestMove_183 : decode cX6_bestMove 183 = .ok (.istore_n 3, 1) := by decide +kernel
theorem dX6_bestMove_184 : decode cX6_bestMove 184 = .ok (.aload_n 0, 1) := by decide +kernel
theorem dX6_bestMove_185 : decode cX6_bestMove 185 = .ok (.getfield 62, 3) := by decide +kernel
theorem dX6_bestMove_188 : decode cX6_bestMove 188 = .ok (.getfield 172, 3) := by decide +kernel
theorem dX6_bestMove_191 : decode cX6_bestMove 191 = .ok (.istore 4, 2) := by decide +kernel
theorem dX6_bestMove_193 : decode cX6_bestMove 193 = .ok (.iload 8, 2) := by decide +kernel
theorem dX6_bestMove_195 : decode cX6_bestMove 195 = .ok (.istore 5, 2) := by decide +kernel
theorem dX6_bestMove_197 : decode cX6_bestMove 197 = .ok (.iinc 7 1, 3) := by decide +kernel
theorem dX6_bestMove_200 : decode cX6_bestMove 200 = .ok (.goto (-151), 3) := by decide +kernel
theorem dX6_bestMove_203 : decode cX6_bestMove 203 = .ok (.iload_n 3, 1) := by decide +kernel
theorem dX6_bestMove_204 : decode cX6_bestMove 204 = .ok (.ireturn, 1) := by decide +kernel
set_option maxRecDepth 100000 in
theorem c_bestMove {k : Int} (hS : SV S) (hr : rwI B1 F1 Z1) (h0 : kIn k 0 (sN S - 1) = 0) (hk : rg k) : Ct l yX6_bestMove cX6_bestMove 9 (some .int) rmX6_bestMove [.ref 0, iv k] (clU kn nk S2 c1 r1 m1 ct1 B1 F1 Z1 Br1 Q1 Fo1 No1 gb S)
    (fun z M => z = some (iv (aBest S k)) ∧ RU kn nk S M) := by
  refine Ct.of miX6_bestMove (Nat.le_of_ble_eq_true rfl) ?_
  intro X hXl hN ok
  refine AW.cast (L2 := [some (.ref 0), some (iv k), none, none, none, none, none, none, none]) ?_ rfl rfl rfl
  have hd := hS.1
  have hc := dim_cells hd
  have hw2 := kIn_0 h0
  have hn := hS.2.2.2.2.1
  have hub := hS.2.2.1 k
  unfold aBest at ok
  obtain ⟨u, hu⟩ : ∃ u, u = sT S k := ⟨_, rfl⟩
  rw [← hu] at hub ok
  obtain ⟨Mv, hMv⟩ : ∃ Mv : Int → Int, Mv = fun v => mS (mvS S u v) := ⟨_, rfl⟩
  rw [← hMv] at ok
  have hMw : ∀ v, Mv v = mwF S k v := fun v => by rw [hMv]; exact (mwF_mv (v := v) (by omega) hu).symm
  have hMr : ∀ v, 1 ≤ Mv v ∧ Mv v ≤ 144 := fun v => by rw [hMv]; exact mS_rg (S := mvS S u v) hd
  have loop : ∀ q : Nat × Int × Int × Int × Int × Int × Int × (Int → Int) × (Int → Int) × (Int → Int) × (Int → Int) × (Int → Int) × (Int → Int) × (Int → Int), (q.1 ≤ 99 ∧ (q.2.1 = 1 ∨ (q.2.1 = 0 ∧ q.2.2.2.2.2.2.1 = Mv q.1)) ∧ rwI q.2.2.2.2.2.2.2.1 q.2.2.2.2.2.2.2.2.1 q.2.2.2.2.2.2.2.2.2.1) → AW X 0 0 49 [some (.ref 0), some (iv k), some (iv u), some (iv (bmC (bmK (bmO S u) Mv u q.1) u).1), some (iv (bmC (bmK (bmO S u) Mv u q.1) u).2.1), some (iv (bmC (bmK (bmO S u) Mv u q.1) u).2.2), some (iv q.2.1), some (iv (q.1 + 1)), none] [] (clU kn nk (setT S (up (sT S) k q.2.2.1) (sN S)) (q.2.2.2.1) (q.2.2.2.2.1) (q.2.2.2.2.2.1) (q.2.2.2.2.2.2.1) (q.2.2.2.2.2.2.2.1) (q.2.2.2.2.2.2.2.2.1) (q.2.2.2.2.2.2.2.2.2.1) (q.2.2.2.2.2.2.2.2.2.2.1) (q.2.2.2.2.2.2.2.2.2.2.2.1) (q.2.2.2.2.2.2.2.2.2.2.2.2.1) (q.2.2.2.2.2.2.2.2.2.2.2.2.2) gb S) := by
    refine wfl (fun q : Nat × Int × Int × Int × Int × Int × Int × (Int → Int) × (Int → Int) × (Int → Int) × (Int → Int) × (Int → Int) × (Int → Int) × (Int → Int) => 100 - q.1) _ _ ?_
    rintro ⟨j, bd, w, c1, r1, m1, ct1, B1, F1, Z1, Br1, Q1, Fo1, No1⟩ ⟨h1, hbd, hr⟩ ih
    dsimp only at h1 hbd hr ih ⊢
    have hMr0 : ∀ v, 0 ≤ Mv v ∧ Mv v ≤ 144 := fun v => by have := hMr v; omega
    have hqr := bmK_rg (ok := bmO S u) hMr0 hub j h1
    obtain ⟨q, hq⟩ : ∃ q, q = bmK (bmO S u) Mv u j := ⟨_, rfl⟩
    rw [← hq] at hqr ⊢
    have hq2 : (0 ≤ (bmC q u).1 ∧ (bmC q u).1 ≤ 99) ∧ (0 ≤ (bmC q u).2.1 ∧ (bmC q u).2.1 ≤ 145) ∧ (0 ≤ (bmC q u).2.2 ∧ (bmC q u).2.2 ≤ 99) := by
      by_cases e : q.1 = -1
      · rw [show bmC q u = (u, 145, 99) from if_pos e]; dsimp only; omega
      · rw [show bmC q u = q from if_neg e]; omega
    obtain ⟨p, hp⟩ : ∃ p, p = bmC q u := ⟨_, rfl⟩
    rw [← hp] at hq2 ⊢
    obtain ⟨best, few, near⟩ := p
    dsimp only at hq2 ⊢
    have hMj := hMr (j + 1)
    -- whether the value j + 1 is better
    have better : (Mv (j + 1) < few ∨ (Mv (j + 1) = few ∧ ab (j + 1 - u) < near)) ↔ bmB q (Mv (j + 1)) (j + 1) (ab (j + 1 - u)) := by
      by_cases e : q.1 = -1
      · rw [show bmC q u = (u, 145, 99) from if_pos e] at hp
        cases hp
        exact ⟨fun _ => Or.inl e, fun _ => Or.inl (by omega)⟩
      · rw [show bmC q u = q from if_neg e] at hp
        subst hp
        exact ⟨fun z => Or.inr z, fun z => z.elim (fun y => absurd y e) id⟩
    have s197 : ∀ (p2 : Int × Int × Int) (bd w c1 r1 m1 ct1 : Int) (B1 F1 Z1 Br1 Q1 Fo1 No1 : Int → Int) (v8 : Option Value), j < 99 → p2 = bmC (bmK (bmO S u) Mv u (j + 1)) u → (bd = 1 ∨ (bd = 0 ∧ ct1 = Mv (j + 1))) → rwI B1 F1 Z1 →
        AW X 0 0 197 [some (.ref 0), some (iv k), some (iv u), some (iv p2.1), some (iv p2.2.1), some (iv p2.2.2), some (iv bd), some (iv (j + 1)), v8] [] (clU kn nk (setT S (up (sT S) k w) (sN S)) c1 r1 m1 ct1 B1 F1 Z1 Br1 Q1 Fo1 No1 gb S) := by
      intro p2 bd w c1 r1 m1 ct1 B1 F1 Z1 Br1 Q1 Fo1 No1 v8 hj hp2 hbd hr
      subst hp2
      refine a_iinc (pc := 197) ok dX6_bestMove_197 rfl rfl (by rw [hN]; decide) ?_
      refine a_goto (pc := 200) (tgt := 49) ok dX6_bestMove_200 (by decide) ?_
      exact AW.forget (AW.cast (ih (j + 1, bd, w, c1, r1, m1, ct1, B1, F1, Z1, Br1, Q1, Fo1, No1) ⟨by dsimp only; omega, hbd, hr⟩ (by dsimp only; omega)) rfl rfl rfl) (by repeat' (first | exact trivial | refine ⟨rfl, ?_⟩))
    have s141 : ∀ (w c1 r1 m1 : Int) (B1 F1 Z1 Br1 Q1 Fo1 No1 : Int → Int), j < 99 → bmO S u (j + 1) → rwI B1 F1 Z1 →
        AW X 0 0 141 [some (.ref 0), some (iv k), some (iv u), some (iv best), some (iv few), some (iv near), some (iv 0), some (iv (j + 1)), none] [] (clU kn nk (setT S (up (sT S) k w) (sN S)) c1 r1 m1 (Mv (j + 1)) B1 F1 Z1 Br1 Q1 Fo1 No1 gb S) := by
      intro w c1 r1 m1 B1 F1 Z1 Br1 Q1 Fo1 No1 hj hok hr
      have hab : 0 ≤ ab (j + 1 - u) ∧ ab (j + 1 - u) ≤ 100 := by unfold ab; omega
      have new : bmB q (Mv (j + 1)) (j + 1) (ab (j + 1 - u)) → ((j : Int) + 1, Mv (j + 1), ab (j + 1 - u)) = bmC (bmK (bmO S u) Mv u (j + 1)) u := fun hb => by
        rw [bmK_t (ok := bmO S u) hok (by rw [← hq]; exact hb)]
        exact (if_neg (by dsimp only; omega)).symm
      have old : ¬ bmB q (Mv (j + 1)) (j + 1) (ab (j + 1 - u)) → (best, few, near) = bmC (bmK (bmO S u) Mv u (j + 1)) u := fun hb => by
        rw [bmK_f (ok := bmO S u) (fun z => hb (by rw [hq]; exact z.2)), ← hq]
        exact hp
      have s148 : ∀ d : Int, d = ab (j + 1 - u) → AW X 0 0 148 [some (.ref 0), some (iv k), some (iv u), some (iv best), some (iv few), some (iv near), some (iv 0), some (iv (j + 1)), none] [iv d] (clU kn nk (setT S (up (sT S) k w) (sN S)) c1 r1 m1 (Mv (j + 1)) B1 F1 Z1 Br1 Q1 Fo1 No1 gb S) := by
        intro d hd2
        subst hd2
        refine a_istore (pc := 148) ok dX6_bestMove_148 rfl (by rw [hN]; decide) ?_
        refine a_aload_n (pc := 150) ok dX6_bestMove_150 rfl ?_
        refine a_getf (pc := 151) ok dX6_bestMove_151 fl6_62 rfl rfl ?_
        refine a_getf (pc := 154) ok dX6_bestMove_154 fl6_172 rfl rfl ?_
        refine a_iload (pc := 157) ok dX6_bestMove_157 rfl ?_
        refine a_icmp_lt (pc := 159) (tgt := 181) ok dX6_bestMove_159 (by decide) (by first | omega | (unfold rg; omega) | (simp only [rg] at *; omega) | exact bz_rg _ | grind [rg]) (by first | omega | (unfold rg; omega) | (simp only [rg] at *; omega) | exact bz_rg _ | grind [rg]) (fun c159 => ?_) (fun c159 => ?_)
        · refine a_iload (pc := 181) ok dX6_bestMove_181 rfl ?_
          refine a_istore_n (pc := 183) ok dX6_bestMove_183 rfl (by rw [hN]; decide) ?_
          refine a_aload_n (pc := 184) ok dX6_bestMove_184 rfl ?_
          refine a_getf (pc := 185) ok dX6_bestMove_185 fl6_62 rfl rfl ?_
          refine a_getf (pc := 188) ok dX6_bestMove_188 fl6_172 rfl rfl ?_
          refine a_istore (pc := 191) ok dX6_bestMove_191 rfl (by rw [hN]; decide) ?_
          refine a_iload (pc := 193) ok dX6_bestMove_193 rfl ?_
          refine a_istore (pc := 195) ok dX6_bestMove_195 rfl (by rw [hN]; decide) ?_
          exact AW.cast (s197 (↑j + 1, Mv (j + 1), ab (↑j + 1 - u)) 0 w c1 r1 m1 (Mv (j + 1)) B1 F1 Z1 Br1 Q1 Fo1 No1 _ hj (new (better.mp (Or.inl c159))) (Or.inr ⟨rfl, rfl⟩) hr) rfl rfl rfl
        · refine a_aload_n (pc := 162) ok dX6_bestMove_162 rfl ?_
          refine a_getf (pc := 163) ok dX6_bestMove_163 fl6_62 rfl rfl ?_
          refine a_getf (pc := 166) ok dX6_bestMove_166 fl6_172 rfl rfl ?_
          refine a_iload (pc := 169) ok dX6_bestMove_169 rfl ?_
          refine a_icmp_ne (pc := 171) (tgt := 197) ok dX6_bestMove_171 (by decide) (by unfold rg; omega) (by unfold rg; omega) (fun c171 => ?_) (fun c171 => ?_)
          · exact AW.cast (s197 (best, few, near) 0 w c1 r1 m1 (Mv (j + 1)) B1 F1 Z1 Br1 Q1 Fo1 No1 _ hj (old (fun z => by have := better.mpr z; omega)) (Or.inr ⟨rfl, rfl⟩) hr) rfl rfl rfl
          · refine a_iload (pc := 174) ok dX6_bestMove_174 rfl ?_
            refine a_iload (pc := 176) ok dX6_bestMove_176 rfl ?_
            refine a_icmp_ge (pc := 178) (tgt := 197) ok dX6_bestMove_178 (by decide) (by first | omega | (unfold rg; omega) | (simp only [rg] at *; omega) | exact bz_rg _ | grind [rg]) (by first | omega | (unfold rg; omega) | (simp only [rg] at *; omega) | exact bz_rg _ | grind [rg]) (fun c178 => ?_) (fun c178 => ?_)
            · exact AW.cast (s197 (best, few, near) 0 w c1 r1 m1 (Mv (j + 1)) B1 F1 Z1 Br1 Q1 Fo1 No1 _ hj (old (fun z => by have := better.mpr z; omega)) (Or.inr ⟨rfl, rfl⟩) hr) rfl rfl rfl
            · refine a_iload (pc := 181) ok dX6_bestMove_181 rfl ?_
              refine a_istore_n (pc := 183) ok dX6_bestMove_183 rfl (by rw [hN]; decide) ?_
              refine a_aload_n (pc := 184) ok dX6_bestMove_184 rfl ?_
              refine a_getf (pc := 185) ok dX6_bestMove_185 fl6_62 rfl rfl ?_
              refine a_getf (pc := 188) ok dX6_bestMove_188 fl6_172 rfl rfl ?_
              refine a_istore (pc := 191) ok dX6_bestMove_191 rfl (by rw [hN]; decide) ?_
              refine a_iload (pc := 193) ok dX6_bestMove_193 rfl ?_
              refine a_istore (pc := 195) ok dX6_bestMove_195 rfl (by rw [hN]; decide) ?_
              exact AW.cast (s197 (↑j + 1, Mv (j + 1), ab (↑j + 1 - u)) 0 w c1 r1 m1 (Mv (j + 1)) B1 F1 Z1 Br1 Q1 Fo1 No1 _ hj (new (better.mp (Or.inr ⟨by omega, by omega⟩))) (Or.inr ⟨rfl, rfl⟩) hr) rfl rfl rfl
      refine a_iload (pc := 141) ok dX6_bestMove_141 rfl ?_
      refine a_iload_n (pc := 143) ok dX6_bestMove_143 rfl ?_
      refine a_isub (pc := 144) ok dX6_bestMove_144 ?_
      refine a_mabs (pc := 145) ok dX6_bestMove_145 (ug4 193 (by decide +kernel) rfl) ⟨by decide, by decide, Nat.zero_le _, Nat.zero_le _⟩ (Nat.le_of_ble_eq_true rfl) (by unfold rg; omega) ?_
      exact AW.cast (s148 _ (by unfold ab; omega)) rfl rfl rfl
    have s104 : ∀ (bd : Int), j < 99 → bmO S u (j + 1) → (bd = 1 ∨ (bd = 0 ∧ ct1 = Mv (j + 1))) →
        AW X 0 0 104 [some (.ref 0), some (iv k), some (iv u), some (iv best), some (iv few), some (iv near), some (iv bd), some (iv (j + 1)), none] [] (clU kn nk (setT S (up (sT S) k w) (sN S)) c1 r1 m1 ct1 B1 F1 Z1 Br1 Q1 Fo1 No1 gb S) := by
      intro bd hj hok hbd
      have hT2 : ∀ i, rg (up (sT S) k (j + 1) i) := up_rg (SV_T99 hS) (by unfold rg; omega)
      have hup2 : up (up (sT S) k w) k (j + 1) = up (sT S) k (j + 1) := up_up
      rcases hbd with hbd | ⟨hbd, hct⟩
      · subst hbd
        refine a_iload (pc := 104) ok dX6_bestMove_104 rfl ?_
        refine a_if_eq (pc := 106) (tgt := 141) ok dX6_bestMove_106 (by decide) (by first | omega | (unfold rg; omega) | (simp only [rg] at *; omega) | exact bz_rg _ | grind [rg]) (fun c106 => ?_) (fun c106 => ?_)
        · omega
        · refine a_aload_n (pc := 109) ok dX6_bestMove_109 rfl ?_
          refine a_getf (pc := 110) ok dX6_bestMove_110 fl6_59 rfl rfl ?_
          refine a_getf (pc := 113) ok dX6_bestMove_113 fl6_232 rfl rfl ?_
          refine a_iload_n (pc := 116) ok dX6_bestMove_116 rfl ?_
          refine a_iload (pc := 117) ok dX6_bestMove_117 rfl ?_
          refine a_iast (pc := 119) ok dX6_bestMove_119 rfl (by first | decide | omega) (by first | omega | (unfold rg; omega) | (simp only [rg] at *; omega) | exact bz_rg _ | grind [rg]) ?_
          refine AW.cast (M2 := (clU kn nk (setT S (up (sT S) k (j + 1)) (sN S)) c1 r1 m1 ct1 B1 F1 Z1 Br1 Q1 Fo1 No1 gb S)) ?_ rfl rfl (by rw [← hup2]; rfl)
          refine a_aload_n (pc := 120) ok dX6_bestMove_120 rfl ?_
          refine a_getf (pc := 121) ok dX6_bestMove_121 fl6_62 rfl rfl ?_
          refine a_aload_n (pc := 124) ok dX6_bestMove_124 rfl ?_
          refine a_getf (pc := 125) ok dX6_bestMove_125 fl6_59 rfl rfl ?_
          refine a_aload_n (pc := 128) ok dX6_bestMove_128 rfl ?_
          refine a_getf (pc := 129) ok dX6_bestMove_129 fl6_59 rfl rfl ?_
          refine a_getf (pc := 132) ok dX6_bestMove_132 fl6_165 rfl rfl ?_
          refine a_callV (pc := 135) ok [5, 6, 7, 8, 9, 10, 11, 12, 1, 2, 3, 4] dX6_bestMove_135 mv6_175 miX0_survey (c_survey (T := up (sT S) k (j + 1)) hd hn hT2 (SV_rg hS).1 (SV_rg hS).2 hr.1 hr.2.1 hr.2.2) ⟨by decide, by decide, rfl, rfl, Nat.zero_le _, Nat.zero_le _⟩ rfl rfl (Nat.le_of_ble_eq_true rfl) rfl (by decide) rfl rfl (fun v M' h => by obtain ⟨_, _, _, _, _, _, _, _, _, h, _⟩ := h; rw [h]; rfl) ?_
          rintro _ M' ⟨rfl, b1, B', F', Z', Br', Q', Fo', No', rfl, g1, g2, g3, g4⟩
          have hct : mny (sC S) (sR S) B' = Mv (j + 1) := by rw [hMw, g2]; exact mny_congr hd (mrg_congr hd _ 144 g1)
          refine AW.cast (st2 := []) (M2 := (clU kn nk (setT S (up (sT S) k (j + 1)) (sN S)) (sC S) (sR S) (sC S * sR S) (Mv (j + 1)) (B') (F') (Z') (Br') (Q') (Fo') (No') gb S)) ?_ rfl rfl (by rw [← hct]; rfl)
          refine a_iconst (pc := 138) ok dX6_bestMove_138 ?_
          refine a_istore (pc := 139) ok dX6_bestMove_139 rfl (by rw [hN]; decide) ?_
          exact AW.cast (s141 (j + 1) (sC S) (sR S) (sC S * sR S) B' F' Z' Br' Q' Fo' No' hj hok ⟨g3.1, g3.2.1, g3.2.2.1⟩) rfl rfl rfl
      · subst hbd
        refine a_iload (pc := 104) ok dX6_bestMove_104 rfl ?_
        refine a_if_eq (pc := 106) (tgt := 141) ok dX6_bestMove_106 (by decide) (by first | omega | (unfold rg; omega) | (simp only [rg] at *; omega) | exact bz_rg _ | grind [rg]) (fun c106 => ?_) (fun c106 => ?_)
        · exact AW.cast (s141 w c1 r1 m1 B1 F1 Z1 Br1 Q1 Fo1 No1 hj hok hr) rfl rfl (by rw [hct])
        · omega
    have s80 : ∀ (z : Int), j < 99 → (z = 1 ∨ (z = 0 ∧ ct1 = Mv (j + 1))) →
        AW X 0 0 80 [some (.ref 0), some (iv k), some (iv u), some (iv best), some (iv few), some (iv near), some (iv bd), some (iv (j + 1)), none] [iv z] (clU kn nk (setT S (up (sT S) k w) (sN S)) c1 r1 m1 ct1 B1 F1 Z1 Br1 Q1 Fo1 No1 gb S) := by
      intro z hj hz
      have hfi := fstK_rg (fun k => sT S k == (j : Int) + 1) (sN S)
      refine a_istore (pc := 80) ok dX6_bestMove_80 rfl (by rw [hN]; decide) ?_
      refine a_iload (pc := 82) ok dX6_bestMove_82 rfl ?_
      refine a_iload_n (pc := 84) ok dX6_bestMove_84 rfl ?_
      refine a_icmp_eq (pc := 85) (tgt := 104) ok dX6_bestMove_85 (by decide) (by first | omega | (unfold rg; omega) | (simp only [rg] at *; omega) | exact bz_rg _ | grind [rg]) (by first | omega | (unfold rg; omega) | (simp only [rg] at *; omega) | exact bz_rg _ | grind [rg]) (fun c85 => ?_) (fun c85 => ?_)
      · exact AW.cast (s104 z hj (Or.inl c85) hz) rfl rfl rfl
      · refine a_aload_n (pc := 88) ok dX6_bestMove_88 rfl ?_
        refine a_getf (pc := 89) ok dX6_bestMove_89 fl6_19 rfl rfl ?_
        refine a_iload (pc := 92) ok dX6_bestMove_92 rfl ?_
        refine a_callVp (pc := 94) ok [14, 15, 16, 17] dX6_bestMove_94 mv6_360 miX4_indexOfThreshold (c_indexOfThreshold hn (SV_T99 hS) (by unfold rg; omega)) ⟨by decide, by decide, rfl, rfl, Nat.zero_le _, Nat.zero_le _⟩ rfl rfl (Nat.le_of_ble_eq_true rfl) rfl (by decide) rfl rfl ?_
        refine a_iconst (pc := 97) ok dX6_bestMove_97 ?_
        refine a_icmp_eq (pc := 98) (tgt := 104) ok dX6_bestMove_98 (by decide) (by unfold rg; omega) (by unfold rg; omega) (fun c98 => ?_) (fun c98 => ?_)
        · refine AW.cast (s104 z hj (Or.inr ?_) hz) rfl rfl rfl
          unfold hasT
          rw [c98]; rfl
        · refine a_goto (pc := 101) (tgt := 197) ok dX6_bestMove_101 (by decide) ?_
          refine AW.cast (s197 (best, few, near) z w c1 r1 m1 ct1 B1 F1 Z1 Br1 Q1 Fo1 No1 none hj ?_ hz hr) rfl rfl rfl
          rw [bmK_f (ok := bmO S u) (fun y => ?_), ← hq]
          · exact hp
          · rcases y.1 with y | y
            · exact c85 y
            · unfold hasT at y; exact c98 (by simpa using y)
    refine a_iload (pc := 49) ok dX6_bestMove_49 rfl ?_
    refine a_bipush (pc := 51) ok dX6_bestMove_51 (by decide) ?_
    refine a_icmp_gt (pc := 53) (tgt := 203) ok dX6_bestMove_53 (by decide) (by first | omega | (unfold rg; omega) | (simp only [rg] at *; omega) | exact bz_rg _ | grind [rg]) (by first | omega | (unfold rg; omega) | (simp only [rg] at *; omega) | exact bz_rg _ | grind [rg]) (fun c53 => ?_) (fun c53 => ?_)
    · have e99 : j = 99 := by omega
      obtain ⟨v0, hv0, hf⟩ := has_free hS.2.2.2.1 hn
      have hne := bmK_has (M := Mv) (u := u) j v0 (by omega) (show bmO S u v0 from Or.inr hf)
      rw [← hq] at hne
      rw [show bmC q u = q from if_neg hne] at hp
      refine a_iload_n (pc := 203) ok dX6_bestMove_203 rfl ?_
      exact a_iret (pc := 204) ok dX6_bestMove_204 (⟨by rw [← e99, ← hq, ← hp], RU_mk hr⟩)
    · refine a_iload (pc := 56) ok dX6_bestMove_56 rfl ?_
      refine a_if_ne (pc := 58) (tgt := 75) ok dX6_bestMove_58 (by decide) (by rcases hbd with h | h <;> (unfold rg; omega)) (fun c58 => ?_) (fun c58 => ?_)
      · refine a_iconst (pc := 75) ok dX6_bestMove_75 ?_
        refine a_goto (pc := 76) (tgt := 80) ok dX6_bestMove_76 (by decide) ?_
        exact s80 1 (by omega) (Or.inl rfl)
      · refine a_aload_n (pc := 61) ok dX6_bestMove_61 rfl ?_
        refine a_getf (pc := 62) ok dX6_bestMove_62 fl6_19 rfl rfl ?_
        refine a_iload (pc := 65) ok dX6_bestMove_65 rfl ?_
        refine a_iconst (pc := 67) ok dX6_bestMove_67 ?_
        refine a_isub (pc := 68) ok dX6_bestMove_68 ?_
        refine a_callVp (pc := 69) ok [14, 15, 16, 17] dX6_bestMove_69 mv6_357 miX4_hasGrey (c_hasGrey hd hS.2.1 (by unfold rg; omega)) ⟨by decide, by decide, rfl, rfl, Nat.zero_le _, Nat.zero_le _⟩ rfl rfl (Nat.le_of_ble_eq_true rfl) rfl (by decide) rfl rfl ?_
        refine a_if_eq (pc := 72) (tgt := 79) ok dX6_bestMove_72 (by decide) (by exact bz_rg _) (fun c72 => ?_) (fun c72 => ?_)
        · refine a_iconst (pc := 79) ok dX6_bestMove_79 ?_
          refine s80 0 (by omega) (Or.inr ⟨rfl, ?_⟩)
          have hno := bz_0.mp c72
          have hc0 : ct1 = Mv j := by rcases hbd with h | h; exact absurd h (by omega); exact h.2
          rw [hc0, hMw, hMw]
          refine (mwF_same hd (by omega) fun i hi e => hno ?_).symm
          have := cntK_pos (p := fun i => sG S i == (j : Int) + 1 - 1) (k := i.toNat) (by rw [Int.toNat_of_nonneg hi.1, e]; simp) (sC S * sR S).toNat (by have a := hi.1; have d := hi.2; omega)
          exact this
        · refine a_iconst (pc := 75) ok dX6_bestMove_75 ?_
          refine a_goto (pc := 76) (tgt := 80) ok dX6_bestMove_76 (by decide) ?_
          exact s80 1 (by omega) (Or.inl rfl)
  refine a_aload_n (pc := 0) ok dX6_bestMove_0 rfl ?_
  refine a_getf (pc := 1) ok dX6_bestMove_1 fl6_19 rfl rfl ?_
  refine a_iload_n (pc := 4) ok dX6_bestMove_4 rfl ?_
  refine a_callVp (pc := 5) ok [14, 15, 16, 17] dX6_bestMove_5 mv6_229 miX4_hasThreshold (c_hasThreshold (by omega) hk) ⟨by decide, by decide, rfl, rfl, Nat.zero_le _, Nat.zero_le _⟩ rfl rfl (Nat.le_of_ble_eq_true rfl) rfl (by decide) rfl rfl ?_
  refine a_callSv (pc := 8) ok [] dX6_bestMove_8 mv6_203 miX6_mustExist (c_mustExist (bz_pos (by omega))) ⟨by decide, by decide, rfl, rfl, Nat.zero_le _, Nat.zero_le _⟩ rfl rfl (Nat.le_of_ble_eq_true rfl) rfl (by decide) rfl ?_
  refine a_aload_n (pc := 11) ok dX6_bestMove_11 rfl ?_
  refine a_getf (pc := 12) ok dX6_bestMove_12 fl6_19 rfl rfl ?_
  refine a_getf (pc := 15) ok dX6_bestMove_15 fl6_232 rfl rfl ?_
  refine a_iload_n (pc := 18) ok dX6_bestMove_18 rfl ?_
  refine a_iald (pc := 19) ok dX6_bestMove_19 rfl (by first | decide | omega) (by first | omega | (unfold rg; omega) | (simp only [rg] at *; omega) | exact bz_rg _ | grind [rg]) ?_
  refine a_istore_n (pc := 20) ok dX6_bestMove_20 rfl (by rw [hN]; decide) ?_
  refine a_aload_n (pc := 21) ok dX6_bestMove_21 rfl ?_
  refine a_getf (pc := 22) ok dX6_bestMove_22 fl6_59 rfl rfl ?_
  refine a_aload_n (pc := 25) ok dX6_bestMove_25 rfl ?_
  refine a_getf (pc := 26) ok dX6_bestMove_26 fl6_19 rfl rfl ?_
  refine a_callVv (pc := 29) ok [1, 2, 3, 4, 14, 15, 16, 17] dX6_bestMove_29 mv6_354 miX4_copyFrom (c_copyFrom) ⟨by decide, by decide, rfl, rfl, Nat.zero_le _, Nat.zero_le _⟩ rfl rfl (Nat.le_of_ble_eq_true rfl) rfl (by decide) rfl rfl rfl ?_
  refine AW.cast (M2 := (clU kn nk (setT S (up (sT S) k u) (sN S)) c1 r1 m1 ct1 B1 F1 Z1 Br1 Q1 Fo1 No1 gb S)) ?_ rfl rfl (by rw [hu, up_self]; rfl)
  refine a_iload_n (pc := 32) ok dX6_bestMove_32 rfl ?_
  refine a_istore_n (pc := 33) ok dX6_bestMove_33 rfl (by rw [hN]; decide) ?_
  refine a_sipush (pc := 34) ok dX6_bestMove_34 (by decide) ?_
  refine a_istore (pc := 37) ok dX6_bestMove_37 rfl (by rw [hN]; decide) ?_
  refine a_bipush (pc := 39) ok dX6_bestMove_39 (by decide) ?_
  refine a_istore (pc := 41) ok dX6_bestMove_41 rfl (by rw [hN]; decide) ?_
  refine a_iconst (pc := 43) ok dX6_bestMove_43 ?_
  refine a_istore (pc := 44) ok dX6_bestMove_44 rfl (by rw [hN]; decide) ?_
  refine a_iconst (pc := 46) ok dX6_bestMove_46 ?_
  refine a_istore (pc := 47) ok dX6_bestMove_47 rfl (by rw [hN]; decide) ?_
  exact AW.cast (loop (0, 1, u, c1, r1, m1, ct1, B1, F1, Z1, Br1, Q1, Fo1, No1) ⟨by dsimp only; omega, Or.inl rfl, hr⟩) (by rw [← hu]; rfl) rfl rfl
end CW5
