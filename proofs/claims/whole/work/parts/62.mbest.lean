/-! MODEL's face: bestMove. -/
section MQ5
variable {l : Launch} {rf sz : Int} {S : St} {ac : Int} {B I : Int → Int} {m : Int} {Fi Co Br Wt mk gy : Int → Int} {S2 : St} {tx di ke ik ea : Int → Int} {sd rt lf wy sp ou : Int}
theorem SV_gTo (h : SV S) {v b : Int} (hv : 0 ≤ v ∧ v ≤ 99) (k3 : canT (sT S) (sN S) v b = true) : SV (gT S v b) := by
  obtain ⟨h1, h2, h3, h4, h5, h6⟩ := h
  refine ⟨h1, h2, ?_, ?_, ?_, h6⟩
  · intro i
    show 0 ≤ chT (sT S) (sN S) v b i ∧ chT (sT S) (sN S) v b i ≤ 99
    unfold chT
    split
    · exact remT_rg h3 i
    · exact insT_rg h3 hv i
  · show srt (chT (sT S) (sN S) v b) (chN (sN S) b)
    unfold chT chN
    unfold canT at k3
    by_cases z : b = 0
    · rw [if_pos z] at k3 ⊢
      rw [if_pos z]
      have := hasT_at k3
      exact srt_rem h4 ⟨this.1, this.2.1⟩
    · rw [if_neg z] at k3 ⊢
      rw [if_neg z]
      have : hasT (sT S) (sN S) v = false := by
        cases e : hasT (sT S) (sN S) v
        · rfl
        · rw [e] at k3; simp at k3
      exact srt_ins h4 this
  · show chN (sN S) b ≤ 5
    unfold chN
    unfold canT at k3
    by_cases z : b = 0
    · rw [if_pos z]; omega
    · rw [if_neg z] at k3 ⊢
      simp at k3
      omega
theorem rem_free {T : Int → Int} {n : Nat} {p v : Int} (hs : srt T n) (hp : 0 ≤ p ∧ p < n) (hv : v = T p ∨ hasT T n v = false) : hasT (remT T n p) (n - 1) v = false := by
  cases e : hasT (remT T n p) (n - 1) v
  · rfl
  · exfalso
    obtain ⟨j, h1, h2⟩ := hasT_iff.mp e
    unfold remT at h2
    split at h2
    · rename_i z
      rcases hv with hv | hv
      · have := hs p (j + 1) hp.1 (by omega) (by omega)
        omega
      · have : hasT T n v = true := hasT_iff.mpr ⟨j + 1, by omega, h2⟩
        rw [hv] at this; cases this
    · rename_i z
      rcases hv with hv | hv
      · have := hs j p (by omega) (by omega) (by omega)
        omega
      · have : hasT T n v = true := hasT_iff.mpr ⟨j, by omega, h2⟩
        rw [hv] at this; cases this
/-- the state with the threshold u moved to v -/
abbrev mvS (S : St) (u v : Int) : St := gT (gT S u 0) v 1
def bmO (S : St) (u v : Int) : Prop := v = u ∨ hasT (sT S) (sN S) v = false
theorem mv_can {u v : Int} (hS : SV S) (hu : hasT (sT S) (sN S) u = true) (h : bmO S u v) : canT (sT (gT S u 0)) (sN (gT S u 0)) v 1 = true := by
  have hat := hasT_at hu
  have h5 := hS.2.2.2.2.1
  have e1 : sT (gT S u 0) = remT (sT S) (sN S) (fstK (fun k => sT S k == u) (sN S)) := by show chT (sT S) (sN S) u 0 = _; unfold chT; rw [if_pos rfl]
  have e2 : sN (gT S u 0) = sN S - 1 := by show chN (sN S) 0 = _; unfold chN; rw [if_pos rfl]
  rw [e1, e2]
  unfold canT
  rw [if_neg (by omega), rem_free hS.2.2.2.1 ⟨hat.1, hat.2.1⟩ (h.imp (fun z => z.trans hat.2.2.symm) id)]
  simp
  omega
theorem SV_mv {u v : Int} (hS : SV S) (hu : hasT (sT S) (sN S) u = true) (h0 : 0 ≤ u ∧ u ≤ 99) (hv : 0 ≤ v ∧ v ≤ 99) (h : bmO S u v) : SV (mvS S u v) := by
  refine SV_gTo (SV_gTo hS h0 ?_) hv (mv_can hS hu h)
  unfold canT; rw [if_pos rfl]; exact hu
/-- the best of the values up to k: value, islands, distance -/
abbrev bmB (q : Int × Int × Int) (n w d : Int) : Prop := q.1 = -1 ∨ n < q.2.1 ∨ (n = q.2.1 ∧ d < q.2.2)
noncomputable def bmK (ok : Int → Prop) (M : Int → Int) (u : Int) : Nat → Int × Int × Int
  | 0 => (-1, 0, 0)
  | k + 1 => if tr (ok (k + 1)) = true ∧ bmB (bmK ok M u k) (M (k + 1)) (k + 1) (ab (k + 1 - u)) then (k + 1, M (k + 1), ab (k + 1 - u)) else bmK ok M u k
theorem bmK_t {ok : Int → Prop} {M : Int → Int} {u : Int} {k : Nat} (h : ok (k + 1)) (hb : bmB (bmK ok M u k) (M (k + 1)) (k + 1) (ab (k + 1 - u))) : bmK ok M u (k + 1) = ((k : Int) + 1, M (k + 1), ab (k + 1 - u)) := if_pos ⟨tr_t.mpr h, hb⟩
theorem bmK_f {ok : Int → Prop} {M : Int → Int} {u : Int} {k : Nat} (h : ¬ (ok (k + 1) ∧ bmB (bmK ok M u k) (M (k + 1)) (k + 1) (ab (k + 1 - u)))) : bmK ok M u (k + 1) = bmK ok M u k := if_neg (fun z => h ⟨tr_t.mp z.1, z.2⟩)
theorem bmK_rg {ok : Int → Prop} {M : Int → Int} {u : Int} (hM : ∀ v, 0 ≤ M v ∧ M v ≤ 144) (hu : 0 ≤ u ∧ u ≤ 99) : ∀ k : Nat, k ≤ 99 → (-1 ≤ (bmK ok M u k).1 ∧ (bmK ok M u k).1 ≤ 99) ∧ (0 ≤ (bmK ok M u k).2.1 ∧ (bmK ok M u k).2.1 ≤ 144) ∧ (0 ≤ (bmK ok M u k).2.2 ∧ (bmK ok M u k).2.2 ≤ 99)
  | 0, _ => ⟨⟨Int.le_refl _, by show (-1 : Int) ≤ 99; omega⟩, ⟨Int.le_refl _, by show (0 : Int) ≤ 144; omega⟩, Int.le_refl _, by show (0 : Int) ≤ 99; omega⟩
  | k + 1, hk => by
    have ih := bmK_rg (ok := ok) hM hu k (by omega)
    by_cases h : ok (k + 1) ∧ bmB (bmK ok M u k) (M (k + 1)) (k + 1) (ab (k + 1 - u))
    · rw [bmK_t h.1 h.2]
      have := hM (k + 1)
      refine ⟨⟨?_, ?_⟩, this, ?_, ?_⟩
      all_goals (try unfold ab)
      all_goals dsimp only
      all_goals omega
    · rw [bmK_f h]; exact ih
noncomputable def aBest (S : St) (k : Int) : Int := (bmK (bmO S (sT S k)) (fun v => mS (mvS S (sT S k) v)) (sT S k) 99).1
theorem mS_rg (hd : dim (sC S) (sR S)) : 1 ≤ mS S ∧ mS S ≤ 144 := mny_1 hd
theorem dX7_bestMove_0 : decode cX7_bestMove 0 = .ok (.aload_n 0, 1) := by decide +kernel
theorem dX7_bestMove_1 : decode cX7_bestMove 1 = .ok (.iload_n 1, 1) := by decide +kernel
theorem dX7_bestMove_2 : decode cX7_bestMove 2 = .ok (.i2l, 1) := by decide +kernel
theorem dX7_bestMove_3 : decode cX7_bestMove 3 = .ok (.lconst 0, 1) := by decide +kernel
theorem dX7_bestMove_4 : decode cX7_bestMove 4 = .ok (.aload_n 0, 1) := by decide +kernel
theorem dX7_bestMove_5 : decode cX7_bestMove 5 = .ok (.getfield 13, 3) := by decide +kernel
theorem dX7_bestMove_8 : decode cX7_bestMove 8 = .ok (.iconst 2, 1) := by decide +kernel
theorem dX7_bestMove_9 : decode cX7_bestMove 9 = .ok (.iaload, 1) := by decide +kernel
theorem dX7_bestMove_10 : decode cX7_bestMove 10 = .ok (.iconst 1, 1) := by decide +kernel
theorem dX7_bestMove_11 : decode cX7_bestMove 11 = .ok (.isub, 1) := by decide +kernel
theorem dX7_bestMove_12 : decode cX7_bestMove 12 = .ok (.i2l, 1) := by decide +kernel
theorem dX7_bestMove_13 : decode cX7_bestMove 13 = .ok (.invokestatic 68, 3) := by decide +kernel
theorem dX7_bestMove_16 : decode cX7_bestMove 16 = .ok (.ifCond .eq 7, 3) := by decide +kernel
theorem dX7_bestMove_19 : decode cX7_bestMove 19 = .ok (.iconst 0, 1) := by decide +kernel
theorem dX7_bestMove_20 : decode cX7_bestMove 20 = .ok (.goto 4, 3) := by decide +kernel
theorem dX7_bestMove_23 : decode cX7_bestMove 23 = .ok (.iconst 1, 1) := by decide +kernel
theorem dX7_bestMove_24 : decode cX7_bestMove 24 = .ok (.invokevirtual 192, 3) := by decide +kernel
theorem dX7_bestMove_27 : decode cX7_bestMove 27 = .ok (.ifCond .eq 5, 3) := by decide +kernel
theorem dX7_bestMove_30 : decode cX7_bestMove 30 = .ok (.iconst 0, 1) := by decide +kernel
theorem dX7_bestMove_31 : decode cX7_bestMove 31 = .ok (.ireturn, 1) := by decide +kernel
theorem dX7_bestMove_32 : decode cX7_bestMove 32 = .ok (.aload_n 0, 1) := by decide +kernel
theorem dX7_bestMove_33 : decode cX7_bestMove 33 = .ok (.getfield 13, 3) := by decide +kernel
theorem dX7_bestMove_36 : decode cX7_bestMove 36 = .ok (.iconst 3, 1) := by decide +kernel
theorem dX7_bestMove_37 : decode cX7_bestMove 37 = .ok (.iload_n 1, 1) := by decide +kernel
theorem dX7_bestMove_38 : decode cX7_bestMove 38 = .ok (.iadd, 1) := by decide +kernel
theorem dX7_bestMove_39 : decode cX7_bestMove 39 = .ok (.iaload, 1) := by decide +kernel
theorem dX7_bestMove_40 : decode cX7_bestMove 40 = .ok (.istore_n 2, 1) := by decide +kernel
theorem dX7_bestMove_41 : decode cX7_bestMove 41 = .ok (.iconst (-1), 1) := by decide +kernel
theorem dX7_bestMove_42 : decode cX7_bestMove 42 = .ok (.istore_n 3, 1) := by decide +kernel
theorem dX7_bestMove_43 : decode cX7_bestMove 43 = .ok (.iconst 0, 1) := by decide +kernel
theorem dX7_bestMove_44 : decode cX7_bestMove 44 = .ok (.istore 4, 2) := by decide +kernel
theorem dX7_bestMove_46 : decode cX7_bestMove 46 = .ok (.iconst 0, 1) := by decide +kernel
theorem dX7_bestMove_47 : decode cX7_bestMove 47 = .ok (.istore 5, 2) := by decide +kernel
theorem dX7_bestMove_49 : decode cX7_bestMove 49 = .ok (.iconst 1, 1) := by decide +kernel
theorem dX7_bestMove_50 : decode cX7_bestMove 50 = .ok (.istore 6, 2) := by decide +kernel
theorem dX7_bestMove_52 : decode cX7_bestMove 52 = .ok (.iload 6, 2) := by decide +kernel
theorem dX7_bestMove_54 : decode cX7_bestMove 54 = .ok (.bipush 99, 2) := by decide +kernel
theorem dX7_bestMove_56 : decode cX7_bestMove 56 = .ok (.if_icmp .gt 167, 3) := by decide +kernel
theorem dX7_bestMove_59 : decode cX7_bestMove 59 = .ok (.iload 6, 2) := by decide +kernel
theorem dX7_bestMove_61 : decode cX7_bestMove 61 = .ok (.iload_n 2, 1) := by decide +kernel
theorem dX7_bestMove_62 : decode cX7_bestMove 62 = .ok (.if_icmp .eq 15, 3) := by decide +kernel
theorem dX7_bestMove_65 : decode cX7_bestMove 65 = .ok (.aload_n 0, 1) := by decide +kernel
theorem dX7_bestMove_66 : decode cX7_bestMove 66 = .ok (.getfield 13, 3) := by decide +kernel
theorem dX7_bestMove_69 : decode cX7_bestMove 69 = .ok (.iload 6, 2) := by decide +kernel
theorem dX7_bestMove_71 : decode cX7_bestMove 71 = .ok (.invokestatic 164, 3) := by decide +kernel
theorem dX7_bestMove_74 : decode cX7_bestMove 74 = .ok (.ifCond .ne 143, 3) := by decide +kernel
theorem dX7_bestMove_77 : decode cX7_bestMove 77 = .ok (.aload_n 0, 1) := by decide +kernel
theorem dX7_bestMove_78 : decode cX7_bestMove 78 = .ok (.getfield 13, 3) := by decide +kernel
theorem dX7_bestMove_81 : decode cX7_bestMove 81 = .ok (.iconst 0, 1) := by decide +kernel
theorem dX7_bestMove_82 : decode cX7_bestMove 82 = .ok (.aload_n 0, 1) := by decide +kernel
theorem dX7_bestMove_83 : decode cX7_bestMove 83 = .ok (.getfield 16, 3) := by decide +kernel
theorem dX7_bestMove_86 : decode cX7_bestMove 86 = .ok (.iconst 0, 1) := by decide +kernel
theorem dX7_bestMove_87 : decode cX7_bestMove 87 = .ok (.invokestatic 246, 3) := by decide +kernel
theorem dX7_bestMove_90 : decode cX7_bestMove 90 = .ok (.aload_n 0, 1) := by decide +kernel
theorem dX7_bestMove_91 : decode cX7_bestMove 91 = .ok (.getfield 16, 3) := by decide +kernel
theorem dX7_bestMove_94 : decode cX7_bestMove 94 = .ok (.iload_n 2, 1) := by decide +kernel
theorem dX7_bestMove_95 : decode cX7_bestMove 95 = .ok (.iconst 0, 1) := by decide +kernel
theorem dX7_bestMove_96 : decode cX7_bestMove 96 = .ok (.invokestatic 170, 3) := by decide +kernel
theorem dX7_bestMove_99 : decode cX7_bestMove 99 = .ok (.pop, 1) := by decide +kernel
theorem dX7_bestMove_100 : decode cX7_bestMove 100 = .ok (.aload_n 0, 1) := by decide +kernel
theorem dX7_bestMove_101 : decode cX7_bestMove 101 = .ok (.getfield 16, 3) := by decide +kernel
theorem dX7_bestMove_104 : decode cX7_bestMove 104 = .ok (.iload 6, 2) := by decide +kernel
theorem dX7_bestMove_106 : decode cX7_bestMove 106 = .ok (.iconst 1, 1) := by decide +kernel
theorem dX7_bestMove_107 : decode cX7_bestMove 107 = .ok (.invokestatic 170, 3) := by decide +kernel
theorem dX7_bestMove_110 : decode cX7_bestMove 110 = .ok (.pop, 1) := by decide +kernel
theorem dX7_bestMove_111 : decode cX7_bestMove 111 = .ok (.aload_n 0, 1) := by decide +kernel
theorem dX7_bestMove_112 : decode cX7_bestMove 112 = .ok (.aload_n 0, 1) := by decide +kernel
theorem dX7_bestMove_113 : decode cX7_bestMove 113 = .ok (.getfield 16, 3) := by decide +kernel
theorem dX7_bestMove_116 : decode cX7_bestMove 116 = .ok (.invokevirtual 255, 3) := by decide +kernel
theorem dX7_bestMove_119 : decode cX7_bestMove 119 = .ok (.iload 6, 2) := by decide +kernel
theorem dX7_bestMove_121 : decode cX7_bestMove 121 = .ok (.iload_n 2, 1) := by decide +kernel
theorem dX7_bestMove_122 : decode cX7_bestMove 122 = .ok (.if_icmp .ge 10, 3) := by decide +kernel
theorem dX7_bestMove_125 : decode cX7_bestMove 125 = .ok (.iload_n 2, 1) := by decide +kernel
theorem dX7_bestMove_126 : decode cX7_bestMove 126 = .ok (.iload 6, 2) := by decide +kernel
theorem dX7_bestMove_128 : decode cX7_bestMove 128 = .ok (.isub, 1) := by decide +kernel
theorem dX7_bestMove_129 : decode cX7_bestMove 129 = .ok (.goto 7, 3) := by decide +kernel
theorem dX7_bestMove_132 : decode cX7_bestMove 132 = .ok (.iload 6, 2) := by decide +kernel
theorem dX7_bestMove_134 : decode cX7_bestMove 134 = .ok (.iload_n 2, 1) := by decide +kernel
theorem dX7_bestMove_135 : decode cX7_bestMove 135 = .ok (.isub, 1) := by decide +kernel
theorem dX7_bestMove_136 : decode cX7_bestMove 136 = .ok (.istore 7, 2) := by decide +kernel
theorem dX7_bestMove_138 : decode cX7_bestMove 138 = .ok (.iload_n 3, 1) := by decide +kernel
theorem dX7_bestMove_139 : decode cX7_bestMove 139 = .ok (.iconst (-1), 1) := by decide +kernel
theorem dX7_bestMove_140 : decode cX7_bestMove 140 = .ok (.if_icmp .eq 28, 3) := by decide +kernel
theorem dX7_bestMove_143 : decode cX7_bestMove 143 = .ok (.aload_n 0, 1) := by decide +kernel
theorem dX7_bestMove_144 : decode cX7_bestMove 144 = .ok (.getfield 78, 3) := by decide +kernel
theorem dX7_bestMove_147 : decode cX7_bestMove 147 = .ok (.iload 4, 2) := by decide +kernel
theorem dX7_bestMove_149 : decode cX7_bestMove 149 = .ok (.if_icmp .lt 19, 3) := by decide +kernel
theorem dX7_bestMove_152 : decode cX7_bestMove 152 = .ok (.aload_n 0, 1) := by decide +kernel
theorem dX7_bestMove_153 : decode cX7_bestMove 153 = .ok (.getfield 78, 3) := by decide +kernel
theorem dX7_bestMove_156 : decode cX7_bestMove 156 = .ok (.iload 4, 2) := by decide +kernel
theorem dX7_bestMove_158 : decode cX7_bestMove 158 = .ok (.if_icmp .ne 14, 3) := by decide +kernel
theorem dX7_bestMove_161 : decode cX7_bestMove 161 = .ok (.iload 7, 2) := by decide +kernel
theorem dX7_bestMove_163 : decode cX7_bestMove 163 = .ok (.iload 5, 2) := by decide +kernel
theorem dX7_bestMove_165 : decode cX7_bestMove 165 = .ok (.if_icmp .ge 7, 3) := by decide +kernel
theorem dX7_bestMove_168 : decode cX7_bestMove 168 = .ok (.iconst 1, 1) := by decide +kernel
theorem dX7_bestMove_169 : decode cX7_bestMove 169 = .ok (.goto 4, 3) := by decide +kernel
theorem dX7_bestMove_172 : decode cX7_bestMove 172 = .ok (.iconst 0, 1) := by decide +kernel
theorem dX7_bestMove_173 : decode cX7_bestMove 173 = .ok (.istore 8, 2) := by decide +kernel
theorem dX7_bestMove_175 : decode cX7_bestMove 175 = .ok (.iload 8, 2) := by decide +kernel
theorem dX7_bestMove_177 : decode cX7_bestMove 177 = .ok (.ifCond .eq 8, 3) := by decide +kernel
theorem dX7_bestMove_180 : decode cX7_bestMove 180 = .ok (.iload 6, 2) := by decide +kernel
theorem dX7_bestMove_182 : decode cX7_bestMove 182 = .ok (.goto 4, 3) := by decide +kernel
theorem dX7_bestMove_185 : decode cX7_bestMove 185 = .ok (.iload_n 3, 1) := by decide +kernel
theorem dX7_bestMove_186 : decode cX7_bestMove 186 = .ok (.istore_n 3, 1) := by decide +kernel
theorem dX7_bestMove_187 : decode cX7_bestMove 187 = .ok (.iload 8, 2) := by decide +kernel
theorem dX7_bestMove_189 : decode cX7_bestMove 189 = .ok (.ifCond .eq 10, 3) := by decide +kernel
theorem dX7_bestMove_192 : decode cX7_bestMove 192 = .ok (.aload_n 0, 1) := by decide +kernel
theorem dX7_bestMove_193 : decode cX7_bestMove 193 = .ok (.getfield 78, 3) := by decide +kernel
theorem dX7_bestMove_196 : decode cX7_bestMove 196 = .ok (.goto 5, 3) := by decide +kernel
theorem dX7_bestMove_199 : decode cX7_bestMove 199 = .ok (.iload 4, 2) := by decide +kernel
theorem dX7_bestMove_201 : decode cX7_bestMove 201 = .ok (.istore 4, 2) := by decide +kernel
theorem dX7_bestMove_203 : decode cX7_bestMove 203 = .ok (.iload 8, 2) := by decide +kernel
theorem dX7_bestMove_205 : decode cX7_bestMove 205 = .ok (.ifCond .eq 8, 3) := by decide +kernel
theorem dX7_bestMove_208 : decode cX7_bestMove 208 = .ok (.iload 7, 2) := by decide +kernel
theorem dX7_bestMove_210 : decode cX7_bestMove 210 = .ok (.goto 5, 3) := by decide +kernel
theorem dX7_bestMove_213 : decode cX7_bestMove 213 = .ok (.iload 5, 2) := by decide +kernel
theorem dX7_bestMove_215 : decode cX7_bestMove 215 = .ok (.istore 5, 2) := by decide +kernel
theorem dX7_bestMove_217 : decode cX7_bestMove 217 = .ok (.iinc 6 1, 3) := by decide +kernel
theorem dX7_bestMove_220 : decode cX7_bestMove 220 = .ok (.goto (-168), 3) := by decide +kernel
theorem dX7_bestMove_223 : decode cX7_bestMove 223 = .ok (.iload_n 3, 1) := by decide +kernel
theorem dX7_bestMove_224 : decode cX7_bestMove 224 = .ok (.ireturn, 1) := by decide +kernel
set_option maxRecDepth 100000 in
theorem c_mbestMove {k : Int} (hS : SV S) (hB : ∀ i, 0 ≤ B i ∧ B i ≤ 5) (hI : ∀ i, rg (I i)) (hk : rg k) : Ct l yX7_bestMove cX7_bestMove 9 (some .int) rmX7_bestMove [.ref 0, iv k] (mdW rf sz S ac B I m Fi Co Br Wt mk gy S2 tx di ke ik ea sd rt lf wy sp ou)
    (fun z M => z = some (iv (if kIn k 0 (sN S - 1) = 0 then aBest S k else 0)) ∧ WM (kIn k 0 (sN S - 1)) sz S ac tx di ke ik M) := by
  refine Ct.of miX7_bestMove (Nat.le_of_ble_eq_true rfl) ?_
  intro X hXl hN ok
  refine AW.cast (L2 := [some (.ref 0), some (iv k), none, none, none, none, none, none, none]) ?_ rfl rfl rfl
  have hn := hS.2.2.2.2.1
  have s24 : ∀ z : Int, z = kIn k 0 (sN S - 1) → AW X 0 0 24 [some (.ref 0), some (iv k), none, none, none, none, none, none, none] [iv z, .ref 0] (mdW rf sz S ac B I m Fi Co Br Wt mk gy S2 tx di ke ik ea sd rt lf wy sp ou) := by
    intro z hz
    by_cases k0 : kIn k 0 (sN S - 1) = 0
    · rw [if_pos k0] at ok
      rw [k0] at ok hz
      subst hz
      have hw2 := kIn_0 k0
      have hub := hS.2.2.1 k
      have hhu : hasT (sT S) (sN S) (sT S k) = true := hasT_iff.mpr ⟨k.toNat, by omega, by rw [Int.toNat_of_nonneg hw2.1]⟩
      unfold aBest at ok
      obtain ⟨u, hu⟩ : ∃ u, u = sT S k := ⟨_, rfl⟩
      rw [← hu] at hub hhu ok
      obtain ⟨Mv, hMv⟩ : ∃ Mv : Int → Int, Mv = fun v => mS (mvS S u v) := ⟨_, rfl⟩
      rw [← hMv] at ok
      have hMr : ∀ v, 0 ≤ Mv v ∧ Mv v ≤ 144 := fun v => by rw [hMv]; have := mS_rg (S := mvS S u v) hS.1; dsimp only; omega
      have loop : ∀ q : Nat × St × Int × (Int → Int) × (Int → Int) × (Int → Int) × (Int → Int) × (Int → Int) × (Int → Int), (q.1 ≤ 99 ∧ (∀ i, 0 ≤ q.2.2.2.1 i ∧ q.2.2.2.1 i ≤ 5) ∧ (∀ i, rg (q.2.2.2.2.1 i))) → AW X 0 0 52 [some (.ref 0), some (iv k), some (iv u), some (iv (bmK (bmO S u) Mv u q.1).1), some (iv (bmK (bmO S u) Mv u q.1).2.1), some (iv (bmK (bmO S u) Mv u q.1).2.2), some (iv (q.1 + 1)), none, none] [] (mdW (0) sz S ac (q.2.2.2.1) (q.2.2.2.2.1) (q.2.2.1) (q.2.2.2.2.2.1) (q.2.2.2.2.2.2.1) (q.2.2.2.2.2.2.2.1) (q.2.2.2.2.2.2.2.2) mk gy (q.2.1) tx di ke ik ea sd rt lf wy sp ou) := by
        refine wfl (fun q : Nat × St × Int × (Int → Int) × (Int → Int) × (Int → Int) × (Int → Int) × (Int → Int) × (Int → Int) => 100 - q.1) _ _ ?_
        rintro ⟨j, S2, m, B, I, Fi, Co, Br, Wt⟩ ⟨h1, hB, hI⟩ ih
        dsimp only at h1 hB hI ih ⊢
        have hr := bmK_rg (ok := bmO S u) hMr hub j h1
        obtain ⟨q, hq⟩ : ∃ q, q = bmK (bmO S u) Mv u j := ⟨_, rfl⟩
        rw [← hq] at hr ⊢
        obtain ⟨best, few, far⟩ := q
        dsimp only at hr ⊢
        have s217 : ∀ (q2 : Int × Int × Int) (S2 : St) (m : Int) (B I Fi Co Br Wt : Int → Int) (v7 v8 : Option Value), j < 99 → q2 = bmK (bmO S u) Mv u (j + 1) → (∀ i, 0 ≤ B i ∧ B i ≤ 5) → (∀ i, rg (I i)) →
            AW X 0 0 217 [some (.ref 0), some (iv k), some (iv u), some (iv q2.1), some (iv q2.2.1), some (iv q2.2.2), some (iv (j + 1)), v7, v8] [] (mdW (0) sz S ac B I m Fi Co Br Wt mk gy S2 tx di ke ik ea sd rt lf wy sp ou) := by
          intro q2 S2 m B I Fi Co Br Wt v7 v8 hj hq2 hB hI
          subst hq2
          refine a_iinc (pc := 217) ok dX7_bestMove_217 rfl rfl (by rw [hN]; decide) ?_
          refine a_goto (pc := 220) (tgt := 52) ok dX7_bestMove_220 (by decide) ?_
          exact AW.forget (AW.cast (ih (j + 1, S2, m, B, I, Fi, Co, Br, Wt) ⟨by dsimp only; omega, hB, hI⟩ (by dsimp only; omega)) rfl rfl rfl) (by repeat' (first | exact trivial | refine ⟨rfl, ?_⟩))
        have s173 : ∀ (P : St) (B I Fi Co Br Wt : Int → Int) (z : Int), j < 99 → bmO S u (j + 1) → Mv (j + 1) = mS P → (1 ≤ mS P ∧ mS P ≤ 144) → z = bz (bmB (best, few, far) (mS P) (j + 1) (ab (j + 1 - u))) → (∀ i, 0 ≤ B i ∧ B i ≤ 5) → (∀ i, rg (I i)) →
            AW X 0 0 173 [some (.ref 0), some (iv k), some (iv u), some (iv best), some (iv few), some (iv far), some (iv (j + 1)), some (iv (ab (j + 1 - u))), none] [iv z] (mdW (0) sz S ac B I (mS P) Fi Co Br Wt mk gy (P) tx di ke ik ea sd rt lf wy sp ou) := by
          intro P B I Fi Co Br Wt z hj hok hMP hmr hz hB hI
          have hab : 0 ≤ ab (j + 1 - u) ∧ ab (j + 1 - u) ≤ 100 := by unfold ab; omega
          by_cases hb : bmB (best, few, far) (mS P) (j + 1) (ab (j + 1 - u))
          · rw [bz_pos hb] at hz
            subst hz
            have e := bmK_t (ok := bmO S u) (M := Mv) (u := u) (k := j) hok (by rw [← hq, hMP]; exact hb)
            rw [hMP] at e
            refine a_istore (pc := 173) ok dX7_bestMove_173 rfl (by rw [hN]; decide) ?_
            refine a_iload (pc := 175) ok dX7_bestMove_175 rfl ?_
            refine a_if_eq (pc := 177) (tgt := 185) ok dX7_bestMove_177 (by decide) (by first | omega | (unfold rg; omega) | (simp only [rg] at *; omega) | exact bz_rg _ | grind [rg]) (fun c177 => ?_) (fun c177 => ?_)
            · omega
            · refine a_iload (pc := 180) ok dX7_bestMove_180 rfl ?_
              refine a_goto (pc := 182) (tgt := 186) ok dX7_bestMove_182 (by decide) ?_
              refine a_istore_n (pc := 186) ok dX7_bestMove_186 rfl (by rw [hN]; decide) ?_
              refine a_iload (pc := 187) ok dX7_bestMove_187 rfl ?_
              refine a_if_eq (pc := 189) (tgt := 199) ok dX7_bestMove_189 (by decide) (by first | omega | (unfold rg; omega) | (simp only [rg] at *; omega) | exact bz_rg _ | grind [rg]) (fun c189 => ?_) (fun c189 => ?_)
              · omega
              · refine a_aload_n (pc := 192) ok dX7_bestMove_192 rfl ?_
                refine a_getf (pc := 193) ok dX7_bestMove_193 fl7_78 rfl rfl ?_
                refine a_goto (pc := 196) (tgt := 201) ok dX7_bestMove_196 (by decide) ?_
                refine a_istore (pc := 201) ok dX7_bestMove_201 rfl (by rw [hN]; decide) ?_
                refine a_iload (pc := 203) ok dX7_bestMove_203 rfl ?_
                refine a_if_eq (pc := 205) (tgt := 213) ok dX7_bestMove_205 (by decide) (by first | omega | (unfold rg; omega) | (simp only [rg] at *; omega) | exact bz_rg _ | grind [rg]) (fun c205 => ?_) (fun c205 => ?_)
                · omega
                · refine a_iload (pc := 208) ok dX7_bestMove_208 rfl ?_
                  refine a_goto (pc := 210) (tgt := 215) ok dX7_bestMove_210 (by decide) ?_
                  refine a_istore (pc := 215) ok dX7_bestMove_215 rfl (by rw [hN]; decide) ?_
                  exact AW.cast (s217 (↑j + 1, mS P, ab (↑j + 1 - u)) P (mS P) B I Fi Co Br Wt _ _ hj e.symm hB hI) rfl rfl rfl
          · rw [bz_neg hb] at hz
            subst hz
            have e := bmK_f (ok := bmO S u) (M := Mv) (u := u) (k := j) (fun z => hb (by rw [← hq, hMP] at z; exact z.2))
            rw [← hq] at e
            refine a_istore (pc := 173) ok dX7_bestMove_173 rfl (by rw [hN]; decide) ?_
            refine a_iload (pc := 175) ok dX7_bestMove_175 rfl ?_
            refine a_if_eq (pc := 177) (tgt := 185) ok dX7_bestMove_177 (by decide) (by first | omega | (unfold rg; omega) | (simp only [rg] at *; omega) | exact bz_rg _ | grind [rg]) (fun c177 => ?_) (fun c177 => ?_)
            · refine a_iload_n (pc := 185) ok dX7_bestMove_185 rfl ?_
              refine a_istore_n (pc := 186) ok dX7_bestMove_186 rfl (by rw [hN]; decide) ?_
              refine a_iload (pc := 187) ok dX7_bestMove_187 rfl ?_
              refine a_if_eq (pc := 189) (tgt := 199) ok dX7_bestMove_189 (by decide) (by first | omega | (unfold rg; omega) | (simp only [rg] at *; omega) | exact bz_rg _ | grind [rg]) (fun c189 => ?_) (fun c189 => ?_)
              · refine a_iload (pc := 199) ok dX7_bestMove_199 rfl ?_
                refine a_istore (pc := 201) ok dX7_bestMove_201 rfl (by rw [hN]; decide) ?_
                refine a_iload (pc := 203) ok dX7_bestMove_203 rfl ?_
                refine a_if_eq (pc := 205) (tgt := 213) ok dX7_bestMove_205 (by decide) (by first | omega | (unfold rg; omega) | (simp only [rg] at *; omega) | exact bz_rg _ | grind [rg]) (fun c205 => ?_) (fun c205 => ?_)
                · refine a_iload (pc := 213) ok dX7_bestMove_213 rfl ?_
                  refine a_istore (pc := 215) ok dX7_bestMove_215 rfl (by rw [hN]; decide) ?_
                  exact AW.cast (s217 (best, few, far) P (mS P) B I Fi Co Br Wt _ _ hj e.symm hB hI) rfl rfl rfl
                · omega
              · omega
            · omega
        have s136 : ∀ (P : St) (B I Fi Co Br Wt : Int → Int) (d : Int), j < 99 → bmO S u (j + 1) → Mv (j + 1) = mS P → (1 ≤ mS P ∧ mS P ≤ 144) → d = ab (j + 1 - u) → (∀ i, 0 ≤ B i ∧ B i ≤ 5) → (∀ i, rg (I i)) →
            AW X 0 0 136 [some (.ref 0), some (iv k), some (iv u), some (iv best), some (iv few), some (iv far), some (iv (j + 1)), none, none] [iv d] (mdW (0) sz S ac B I (mS P) Fi Co Br Wt mk gy (P) tx di ke ik ea sd rt lf wy sp ou) := by
          intro P B I Fi Co Br Wt d hj hok hMP hmr hd hB hI
          subst hd
          have hab : 0 ≤ ab (j + 1 - u) ∧ ab (j + 1 - u) ≤ 100 := by unfold ab; omega
          refine a_istore (pc := 136) ok dX7_bestMove_136 rfl (by rw [hN]; decide) ?_
          refine a_iload_n (pc := 138) ok dX7_bestMove_138 rfl ?_
          refine a_iconst (pc := 139) ok dX7_bestMove_139 ?_
          refine a_icmp_eq (pc := 140) (tgt := 168) ok dX7_bestMove_140 (by decide) (by first | omega | (unfold rg; omega) | (simp only [rg] at *; omega) | exact bz_rg _ | grind [rg]) (by first | omega | (unfold rg; omega) | (simp only [rg] at *; omega) | exact bz_rg _ | grind [rg]) (fun c140 => ?_) (fun c140 => ?_)
          · refine a_iconst (pc := 168) ok dX7_bestMove_168 ?_
            refine a_goto (pc := 169) (tgt := 173) ok dX7_bestMove_169 (by decide) ?_
            exact s173 P B I Fi Co Br Wt 1 hj hok hMP hmr (bz_pos (Or.inl c140)).symm hB hI
          · refine a_aload_n (pc := 143) ok dX7_bestMove_143 rfl ?_
            refine a_getf (pc := 144) ok dX7_bestMove_144 fl7_78 rfl rfl ?_
            refine a_iload (pc := 147) ok dX7_bestMove_147 rfl ?_
            refine a_icmp_lt (pc := 149) (tgt := 168) ok dX7_bestMove_149 (by decide) (by first | omega | (unfold rg; omega) | (simp only [rg] at *; omega) | exact bz_rg _ | grind [rg]) (by first | omega | (unfold rg; omega) | (simp only [rg] at *; omega) | exact bz_rg _ | grind [rg]) (fun c149 => ?_) (fun c149 => ?_)
            · refine a_iconst (pc := 168) ok dX7_bestMove_168 ?_
              refine a_goto (pc := 169) (tgt := 173) ok dX7_bestMove_169 (by decide) ?_
              exact s173 P B I Fi Co Br Wt 1 hj hok hMP hmr (bz_pos (Or.inr (Or.inl c149))).symm hB hI
            · refine a_aload_n (pc := 152) ok dX7_bestMove_152 rfl ?_
              refine a_getf (pc := 153) ok dX7_bestMove_153 fl7_78 rfl rfl ?_
              refine a_iload (pc := 156) ok dX7_bestMove_156 rfl ?_
              refine a_icmp_ne (pc := 158) (tgt := 172) ok dX7_bestMove_158 (by decide) (by first | omega | (unfold rg; omega) | (simp only [rg] at *; omega) | exact bz_rg _ | grind [rg]) (by first | omega | (unfold rg; omega) | (simp only [rg] at *; omega) | exact bz_rg _ | grind [rg]) (fun c158 => ?_) (fun c158 => ?_)
              · refine a_iconst (pc := 172) ok dX7_bestMove_172 ?_
                exact s173 P B I Fi Co Br Wt 0 hj hok hMP hmr (bz_neg (by rintro (h | h | h) <;> dsimp only at h <;> omega)).symm hB hI
              · refine a_iload (pc := 161) ok dX7_bestMove_161 rfl ?_
                refine a_iload (pc := 163) ok dX7_bestMove_163 rfl ?_
                refine a_icmp_ge (pc := 165) (tgt := 172) ok dX7_bestMove_165 (by decide) (by first | omega | (unfold rg; omega) | (simp only [rg] at *; omega) | exact bz_rg _ | grind [rg]) (by first | omega | (unfold rg; omega) | (simp only [rg] at *; omega) | exact bz_rg _ | grind [rg]) (fun c165 => ?_) (fun c165 => ?_)
                · refine a_iconst (pc := 172) ok dX7_bestMove_172 ?_
                  exact s173 P B I Fi Co Br Wt 0 hj hok hMP hmr (bz_neg (by rintro (h | h | h) <;> dsimp only at h <;> omega)).symm hB hI
                · refine a_iconst (pc := 168) ok dX7_bestMove_168 ?_
                  refine a_goto (pc := 169) (tgt := 173) ok dX7_bestMove_169 (by decide) ?_
                  exact s173 P B I Fi Co Br Wt 1 hj hok hMP hmr (bz_pos (Or.inr (Or.inr ⟨by dsimp only; omega, by dsimp only; omega⟩))).symm hB hI
        have s111 : ∀ (P : St) (m : Int) (B I Fi Co Br Wt : Int → Int), j < 99 → bmO S u (j + 1) → SV P → Mv (j + 1) = mS P → (∀ i, 0 ≤ B i ∧ B i ≤ 5) → (∀ i, rg (I i)) →
            AW X 0 0 111 [some (.ref 0), some (iv k), some (iv u), some (iv best), some (iv few), some (iv far), some (iv (j + 1)), none, none] [] (mdW (0) sz S ac B I m Fi Co Br Wt mk gy (P) tx di ke ik ea sd rt lf wy sp ou) := by
          intro P m B I Fi Co Br Wt hj hok hP hMP hB hI
          have hmr := mS_rg hP.1
          refine a_aload_n (pc := 111) ok dX7_bestMove_111 rfl ?_
          refine a_aload_n (pc := 112) ok dX7_bestMove_112 rfl ?_
          refine a_getf (pc := 113) ok dX7_bestMove_113 fl7_16 rfl rfl ?_
          refine x_callV (pc := 116) ok [0, 10, 2, 3, 4, 5, 6, 7, 8, 9, 1, 10, 11, 12, 13, 14, 15] 10 dX7_bestMove_116 mv7_255 miX7_findAs (c_findNow (S := P) hP hB hI) ⟨by decide, by decide, rfl, rfl, Nat.zero_le _, Nat.zero_le _⟩ rfl rfl (Nat.le_of_ble_eq_true rfl) mdM_len rfl (by decide) rfl rfl (fun v M' h => by obtain ⟨_, _, _, _, _, _, _, h, _⟩ := h; rw [h]; rfl) ?_
          rintro _ M' ⟨rfl, B', I', Fi', Co', Br', Q', rfl, hJ⟩
          refine AW.cast (st2 := []) (M2 := (mdW (0) sz S ac (B') (I') (mS P) (Fi') (Co') (Br') (Q') mk gy (P) tx di ke ik ea sd rt lf wy sp ou)) ?_ rfl rfl rfl
          refine a_iload (pc := 119) ok dX7_bestMove_119 rfl ?_
          refine a_iload_n (pc := 121) ok dX7_bestMove_121 rfl ?_
          refine a_icmp_ge (pc := 122) (tgt := 132) ok dX7_bestMove_122 (by decide) (by first | omega | (unfold rg; omega) | (simp only [rg] at *; omega) | exact bz_rg _ | grind [rg]) (by first | omega | (unfold rg; omega) | (simp only [rg] at *; omega) | exact bz_rg _ | grind [rg]) (fun c122 => ?_) (fun c122 => ?_)
          · refine a_iload (pc := 132) ok dX7_bestMove_132 rfl ?_
            refine a_iload_n (pc := 134) ok dX7_bestMove_134 rfl ?_
            refine a_isub (pc := 135) ok dX7_bestMove_135 ?_
            exact s136 P B' I' Fi' Co' Br' Q' _ hj hok hMP hmr (by unfold ab; omega) hJ.1 hJ.2.1
          · refine a_iload_n (pc := 125) ok dX7_bestMove_125 rfl ?_
            refine a_iload (pc := 126) ok dX7_bestMove_126 rfl ?_
            refine a_isub (pc := 128) ok dX7_bestMove_128 ?_
            refine a_goto (pc := 129) (tgt := 136) ok dX7_bestMove_129 (by decide) ?_
            exact s136 P B' I' Fi' Co' Br' Q' _ hj hok hMP hmr (by unfold ab; omega) hJ.1 hJ.2.1
        have s90 : j < 99 → bmO S u (j + 1) → AW X 0 0 77 [some (.ref 0), some (iv k), some (iv u), some (iv best), some (iv few), some (iv far), some (iv (j + 1)), none, none] [] (mdW (0) sz S ac B I m Fi Co Br Wt mk gy S2 tx di ke ik ea sd rt lf wy sp ou) := by
          intro hj hok
          have hc0 : canT (sT S) (sN S) u 0 = true := by unfold canT; rw [if_pos rfl]; exact hhu
          have hP := SV_mv (u := u) (v := j + 1) hS hhu hub (by omega) hok
          have hc1 := mv_can (v := j + 1) hS hhu hok
          have hS0 := SV_gTo hS hub hc0
          obtain ⟨S0, e0⟩ : ∃ S0, S0 = gT S u 0 := ⟨_, rfl⟩
          rw [show mvS S u (j + 1) = gT (gT S u 0) (j + 1) 1 from rfl, ← e0] at hP
          rw [← e0] at hc1 hS0
          obtain ⟨P, eP⟩ : ∃ P, P = gT S0 (j + 1) 1 := ⟨_, rfl⟩
          rw [← eP] at hP
          have hMP : Mv (j + 1) = mS P := by rw [hMv, eP, e0]
          refine a_aload_n (pc := 77) ok dX7_bestMove_77 rfl ?_
          refine a_getf (pc := 78) ok dX7_bestMove_78 fl7_13 rfl rfl ?_
          refine a_iconst (pc := 81) ok dX7_bestMove_81 ?_
          refine a_aload_n (pc := 82) ok dX7_bestMove_82 rfl ?_
          refine a_getf (pc := 83) ok dX7_bestMove_83 fl7_16 rfl rfl ?_
          refine a_iconst (pc := 86) ok dX7_bestMove_86 ?_
          refine a_callSv (pc := 87) ok [1, 10] dX7_bestMove_87 mv7_246 miX7_copyState (c_copyRow) ⟨by decide, by decide, rfl, rfl, Nat.zero_le _, Nat.zero_le _⟩ rfl rfl (Nat.le_of_ble_eq_true rfl) rfl (by decide) rfl ?_
          refine AW.cast (M2 := (mdW (0) sz S ac B I m Fi Co Br Wt mk gy (S) tx di ke ik ea sd rt lf wy sp ou)) ?_ rfl rfl rfl
          refine a_aload_n (pc := 90) ok dX7_bestMove_90 rfl ?_
          refine a_getf (pc := 91) ok dX7_bestMove_91 fl7_16 rfl rfl ?_
          refine a_iload_n (pc := 94) ok dX7_bestMove_94 rfl ?_
          refine a_iconst (pc := 95) ok dX7_bestMove_95 ?_
          refine a_callSi (pc := 96) ok [10] dX7_bestMove_96 mv7_170 miX7_partOn (c_partOn hS.2.2.2.2.1 hS.2.2.1 hS.2.2.2.1 (by unfold rg; omega) (by unfold rg; omega) hc0) ⟨by decide, by decide, rfl, rfl, Nat.zero_le _, Nat.zero_le _⟩ rfl rfl (Nat.le_of_ble_eq_true rfl) rfl (by decide) rfl ?_
          refine AW.cast (M2 := (mdW (0) sz S ac B I m Fi Co Br Wt mk gy (S0) tx di ke ik ea sd rt lf wy sp ou)) ?_ rfl rfl (by rw [e0]; rfl)
          refine a_pop (pc := 99) ok dX7_bestMove_99 rfl ?_
          refine a_aload_n (pc := 100) ok dX7_bestMove_100 rfl ?_
          refine a_getf (pc := 101) ok dX7_bestMove_101 fl7_16 rfl rfl ?_
          refine a_iload (pc := 104) ok dX7_bestMove_104 rfl ?_
          refine a_iconst (pc := 106) ok dX7_bestMove_106 ?_
          refine a_callSi (pc := 107) ok [10] dX7_bestMove_107 mv7_170 miX7_partOn (c_partOn hS0.2.2.2.2.1 hS0.2.2.1 hS0.2.2.2.1 (by unfold rg; omega) (by unfold rg; omega) hc1) ⟨by decide, by decide, rfl, rfl, Nat.zero_le _, Nat.zero_le _⟩ rfl rfl (Nat.le_of_ble_eq_true rfl) rfl (by decide) rfl ?_
          refine AW.cast (M2 := (mdW (0) sz S ac B I m Fi Co Br Wt mk gy (P) tx di ke ik ea sd rt lf wy sp ou)) ?_ rfl rfl (by rw [eP]; rfl)
          refine a_pop (pc := 110) ok dX7_bestMove_110 rfl ?_
          exact s111 P m B I Fi Co Br Wt hj hok hP hMP hB hI
        refine a_iload (pc := 52) ok dX7_bestMove_52 rfl ?_
        refine a_bipush (pc := 54) ok dX7_bestMove_54 (by decide) ?_
        refine a_icmp_gt (pc := 56) (tgt := 223) ok dX7_bestMove_56 (by decide) (by first | omega | (unfold rg; omega) | (simp only [rg] at *; omega) | exact bz_rg _ | grind [rg]) (by first | omega | (unfold rg; omega) | (simp only [rg] at *; omega) | exact bz_rg _ | grind [rg]) (fun c56 => ?_) (fun c56 => ?_)
        · refine a_iload_n (pc := 223) ok dX7_bestMove_223 rfl ?_
          exact a_iret (pc := 224) ok dX7_bestMove_224 (⟨by rw [show (99 : Nat) = j by omega, ← hq], WM_mk hB hI⟩)
        · refine a_iload (pc := 59) ok dX7_bestMove_59 rfl ?_
          refine a_iload_n (pc := 61) ok dX7_bestMove_61 rfl ?_
          refine a_icmp_eq (pc := 62) (tgt := 77) ok dX7_bestMove_62 (by decide) (by first | omega | (unfold rg; omega) | (simp only [rg] at *; omega) | exact bz_rg _ | grind [rg]) (by first | omega | (unfold rg; omega) | (simp only [rg] at *; omega) | exact bz_rg _ | grind [rg]) (fun c62 => ?_) (fun c62 => ?_)
          · exact s90 (by omega) (Or.inl c62)
          · refine a_aload_n (pc := 65) ok dX7_bestMove_65 rfl ?_
            refine a_getf (pc := 66) ok dX7_bestMove_66 fl7_13 rfl rfl ?_
            refine a_iload (pc := 69) ok dX7_bestMove_69 rfl ?_
            refine a_callSp (pc := 71) ok [1] dX7_bestMove_71 mv7_164 miX7_isThere (c_isThere hn hS.2.2.1 hS.2.2.2.1 (by unfold rg; omega)) ⟨by decide, by decide, rfl, rfl, Nat.zero_le _, Nat.zero_le _⟩ rfl rfl (Nat.le_of_ble_eq_true rfl) rfl (by decide) ?_
            refine a_if_ne (pc := 74) (tgt := 217) ok dX7_bestMove_74 (by decide) (by exact bz_rg _) (fun c74 => ?_) (fun c74 => ?_)
            · refine AW.cast (s217 (best, few, far) S2 m B I Fi Co Br Wt none none (by omega) ?_ hB hI) rfl rfl rfl
              rw [hq]
              refine (bmK_f fun z => ?_).symm
              rcases z.1 with y | y
              · exact c62 y
              · exact c74 (by rw [y]; decide)
            · refine s90 (by omega) (Or.inr ?_)
              cases e : hasT (sT S) (sN S) (j + 1)
              · rfl
              · exact absurd e (bz_0.mp c74)
      refine x_callVi (pc := 24) ok [0, 11, 1, 10, 12, 13, 14, 2, 3, 4, 5, 6, 7, 8, 9, 15] 1 dX7_bestMove_24 mv7_192 miX7_refused (c_refused (by unfold rg; omega)) ⟨by decide, by decide, rfl, rfl, Nat.zero_le _, Nat.zero_le _⟩ rfl rfl (Nat.le_of_ble_eq_true rfl) rfl rfl (by decide) rfl rfl rfl ?_
      refine a_if_eq (pc := 27) (tgt := 32) ok dX7_bestMove_27 (by decide) (by first | omega | (unfold rg; omega) | (simp only [rg] at *; omega) | exact bz_rg _ | grind [rg]) (fun c27 => ?_) (fun c27 => ?_)
      · refine AW.cast (M2 := (mdW (0) sz S ac B I m Fi Co Br Wt mk gy S2 tx di ke ik ea sd rt lf wy sp ou)) ?_ rfl rfl rfl
        refine a_aload_n (pc := 32) ok dX7_bestMove_32 rfl ?_
        refine a_getf (pc := 33) ok dX7_bestMove_33 fl7_13 rfl rfl ?_
        refine a_iconst (pc := 36) ok dX7_bestMove_36 ?_
        refine a_iload_n (pc := 37) ok dX7_bestMove_37 rfl ?_
        refine a_iadd (pc := 38) ok dX7_bestMove_38 ?_
        refine a_rldT (pc := 39) (b := k) ok dX7_bestMove_39 rfl (by omega) (by first | omega | (unfold rg; omega) | (simp only [rg] at *; omega) | exact bz_rg _ | grind [rg]) ?_
        refine a_istore_n (pc := 40) ok dX7_bestMove_40 rfl (by rw [hN]; decide) ?_
        refine a_iconst (pc := 41) ok dX7_bestMove_41 ?_
        refine a_istore_n (pc := 42) ok dX7_bestMove_42 rfl (by rw [hN]; decide) ?_
        refine a_iconst (pc := 43) ok dX7_bestMove_43 ?_
        refine a_istore (pc := 44) ok dX7_bestMove_44 rfl (by rw [hN]; decide) ?_
        refine a_iconst (pc := 46) ok dX7_bestMove_46 ?_
        refine a_istore (pc := 47) ok dX7_bestMove_47 rfl (by rw [hN]; decide) ?_
        refine a_iconst (pc := 49) ok dX7_bestMove_49 ?_
        refine a_istore (pc := 50) ok dX7_bestMove_50 rfl (by rw [hN]; decide) ?_
        exact AW.cast (loop (0, S2, m, B, I, Fi, Co, Br, Wt) ⟨by dsimp only; omega, hB, hI⟩) (by rw [← hu]; rfl) rfl rfl
      · exact absurd rfl c27
    · rw [if_neg k0, kIn_1 k0] at ok
      rw [kIn_1 k0] at hz
      subst hz
      refine x_callVi (pc := 24) ok [0, 11, 1, 10, 12, 13, 14, 2, 3, 4, 5, 6, 7, 8, 9, 15] 1 dX7_bestMove_24 mv7_192 miX7_refused (c_refused (by unfold rg; omega)) ⟨by decide, by decide, rfl, rfl, Nat.zero_le _, Nat.zero_le _⟩ rfl rfl (Nat.le_of_ble_eq_true rfl) rfl rfl (by decide) rfl rfl rfl ?_
      refine a_if_eq (pc := 27) (tgt := 32) ok dX7_bestMove_27 (by decide) (by first | omega | (unfold rg; omega) | (simp only [rg] at *; omega) | exact bz_rg _ | grind [rg]) (fun c27 => ?_) (fun c27 => ?_)
      · exact absurd c27 (by decide)
      · refine a_iconst (pc := 30) ok dX7_bestMove_30 ?_
        exact a_iret (pc := 31) ok dX7_bestMove_31 (⟨rfl, WM_mk hB hI⟩)
  refine a_aload_n (pc := 0) ok dX7_bestMove_0 rfl ?_
  refine a_iload_n (pc := 1) ok dX7_bestMove_1 rfl ?_
  refine a_i2l (pc := 2) ok dX7_bestMove_2 (by first | omega | (unfold rg; omega) | (simp only [rg] at *; omega) | exact bz_rg _ | grind [rg]) ?_
  refine a_lconst (pc := 3) (z := 0) ok dX7_bestMove_3 rfl ?_
  refine a_aload_n (pc := 4) ok dX7_bestMove_4 rfl ?_
  refine a_getf (pc := 5) ok dX7_bestMove_5 fl7_13 rfl rfl ?_
  refine a_iconst (pc := 8) ok dX7_bestMove_8 ?_
  refine a_rldN (pc := 9) ok dX7_bestMove_9 rfl ?_
  refine a_iconst (pc := 10) ok dX7_bestMove_10 ?_
  refine a_isub (pc := 11) ok dX7_bestMove_11 ?_
  refine a_i2l (pc := 12) ok dX7_bestMove_12 (by unfold rg; omega) ?_
  refine a_callSp (pc := 13) ok [] dX7_bestMove_13 mv7_68 miX7_in (c_in (by unfold rgL; unfold rg at hk; omega) (by unfold rgL; omega) (by unfold rgL; omega)) ⟨by decide, by decide, rfl, rfl, Nat.zero_le _, Nat.zero_le _⟩ rfl rfl (Nat.le_of_ble_eq_true rfl) rfl (by decide) ?_
  refine a_if_eq (pc := 16) (tgt := 23) ok dX7_bestMove_16 (by decide) (by exact bz_rg _) (fun c16 => ?_) (fun c16 => ?_)
  · refine a_iconst (pc := 23) ok dX7_bestMove_23 ?_
    exact s24 1 (by unfold kIn; rw [if_neg (bz_0.mp c16)])
  · refine a_iconst (pc := 19) ok dX7_bestMove_19 ?_
    refine a_goto (pc := 20) (tgt := 24) ok dX7_bestMove_20 (by decide) ?_
    exact s24 0 (by unfold kIn; rw [if_pos (Classical.byContradiction fun z => c16 (bz_0.mpr z))])
end MQ5
