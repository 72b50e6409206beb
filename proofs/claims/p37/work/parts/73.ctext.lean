/-! THE CLASS: text, load, save slots. -/
section CX1
variable {l : Launch} {S : St} {kn nk : Int} {gb : Int → Int} {sz : Int} {tx sv : Int → Int} {cnt nx : Int} {Rs : Nat → Option Nat} {P0 P1 : St}
abbrev obX (kn nk : Int) : va_E := ob 6 [.ref 1, .ref 3, .ref 4, .ref 5, .ref 6, .ref 7, .ref 8, iv kn, iv nk, .ref 9, .ref 10, .ref 11, .ref 12]
abbrev clX (kn nk sz : Int) (tx : Int → Int) : List va_E := obX kn nk :: txA 1 sz tx
theorem dX6_append_0 : decode cX6_append 0 = .ok (.iload_n 1, 1) := by decide +kernel
theorem dX6_append_1 : decode cX6_append 1 = .ok (.iconst 0, 1) := by decide +kernel
theorem dX6_append_2 : decode cX6_append 2 = .ok (.sipush 255, 3) := by decide +kernel
theorem dX6_append_5 : decode cX6_append 5 = .ok (.invokestatic 76, 3) := by decide +kernel
theorem dX6_append_8 : decode cX6_append 8 = .ok (.aload_n 0, 1) := by decide +kernel
theorem dX6_append_9 : decode cX6_append 9 = .ok (.getfield 10, 3) := by decide +kernel
theorem dX6_append_12 : decode cX6_append 12 = .ok (.invokevirtual 80, 3) := by decide +kernel
theorem dX6_append_15 : decode cX6_append 15 = .ok (.ifCond .eq 13, 3) := by decide +kernel
theorem dX6_append_18 : decode cX6_append 18 = .ok (.new 84, 3) := by decide +kernel
theorem dX6_append_21 : decode cX6_append 21 = .ok (.dup, 1) := by decide +kernel
theorem dX6_append_22 : decode cX6_append 22 = .ok (.ldc 86, 2) := by decide +kernel
theorem dX6_append_24 : decode cX6_append 24 = .ok (.invokespecial 88, 3) := by decide +kernel
theorem dX6_append_27 : decode cX6_append 27 = .ok (.athrow, 1) := by decide +kernel
theorem dX6_append_28 : decode cX6_append 28 = .ok (.aload_n 0, 1) := by decide +kernel
theorem dX6_append_29 : decode cX6_append 29 = .ok (.getfield 10, 3) := by decide +kernel
theorem dX6_append_32 : decode cX6_append 32 = .ok (.iload_n 1, 1) := by decide +kernel
theorem dX6_append_33 : decode cX6_append 33 = .ok (.invokevirtual 91, 3) := by decide +kernel
theorem dX6_append_36 : decode cX6_append 36 = .ok (.ireturn, 1) := by decide +kernel
theorem c_append {x : Int} (hn : 0 ≤ sz ∧ sz ≤ 120) (h : kAppend sz x = 0) (hx : rg x) : Cd l yX6_append cX6_append 2 (some .int) rmX6_append [.ref 0, iv x] (clX kn nk sz tx) (some (iv (sz + 1))) (clX kn nk (sz + 1) (up tx sz x)) := by
  refine Ct.of miX6_append (Nat.le_of_ble_eq_true rfl) ?_
  intro X hXl hN ok
  refine AW.cast (L2 := [some (.ref 0), some (iv x)]) ?_ rfl rfl rfl
  have k1 : (0 ≤ x ∧ x ≤ 255) ∧ sz ≠ 120 := by
    unfold kAppend at h
    repeat' split at h
    all_goals omega
  refine a_iload_n (pc := 0) ok dX6_append_0 rfl ?_
  refine a_iconst (pc := 1) ok dX6_append_1 ?_
  refine a_sipush (pc := 2) ok dX6_append_2 (by decide) ?_
  refine a_callSv (pc := 5) ok [] dX6_append_5 mv6_76 miX6_mustBeWithin (c_mustBeWithin k1.1 hx (by unfold rg; omega) (by unfold rg; omega)) ⟨by decide, by decide, rfl, rfl, Nat.zero_le _, Nat.zero_le _⟩ rfl rfl (Nat.le_of_ble_eq_true rfl) rfl (by decide) rfl ?_
  refine a_aload_n (pc := 8) ok dX6_append_8 rfl ?_
  refine a_getf (pc := 9) ok dX6_append_9 fl6_10 rfl rfl ?_
  refine a_callVp (pc := 12) ok [1, 2] dX6_append_12 mv6_80 miX5_isFull (c_isFull hn) ⟨by decide, by decide, rfl, rfl, Nat.zero_le _, Nat.zero_le _⟩ rfl rfl (Nat.le_of_ble_eq_true rfl) rfl (by decide) rfl rfl ?_
  refine a_if_eq (pc := 15) (tgt := 28) ok dX6_append_15 (by decide) (by exact bz_rg _) (fun c15 => ?_) (fun c15 => ?_)
  · refine a_aload_n (pc := 28) ok dX6_append_28 rfl ?_
    refine a_getf (pc := 29) ok dX6_append_29 fl6_10 rfl rfl ?_
    refine a_iload_n (pc := 32) ok dX6_append_32 rfl ?_
    refine a_callVi (pc := 33) ok [1, 2] dX6_append_33 mv6_91 miX5_add (c_add (by omega)) ⟨by decide, by decide, rfl, rfl, Nat.zero_le _, Nat.zero_le _⟩ rfl rfl (Nat.le_of_ble_eq_true rfl) rfl (by decide) rfl rfl rfl ?_
    exact a_iret (pc := 36) ok dX6_append_36 (⟨rfl, rfl⟩)
  · exact absurd (bz_y c15) k1.2
/-- the object: text 6, state 1, memory 9, slots 10, saved 8, islands 11, nest 12, trial 13, its islands 14, contour 15, greys before 5 -/
abbrev obL (kn nk : Int) : va_E := ob 6 [.ref 6, .ref 1, .ref 9, .ref 10, .ref 8, .ref 11, .ref 12, iv kn, iv nk, .ref 13, .ref 14, .ref 15, .ref 5]
abbrev clW (kn nk : Int) (S : St) (gb : Int → Int) (sz : Int) (tx : Int → Int) : List va_E := obL kn nk :: (stS 1 S ++ (ia 144 gb :: txA 6 sz tx))
abbrev clL (kn nk : Int) (S : St) (gb : Int → Int) (sz : Int) (tx sv : Int → Int) (cnt nx : Int) : List va_E := obL kn nk :: (stS 1 S ++ (ia 144 gb :: (txA 6 sz tx ++ [za 2 sv, ob 1 [.ref 16, iv cnt, iv nx]])))
theorem eP_dim (hn : 0 ≤ sz ∧ sz ≤ 120) (h : eP tx sz = -1) : dim (nmA tx sz 1) (nmA tx sz 3) ∧ wS tx sz 1 = 5 := by
  have e0 : eP tx sz = if wEr tx sz 0 1 ≠ -1 then wEr tx sz 0 1 else eF tx sz 120 1 := by
    show eF tx sz 121 0 = _
    have : eF tx sz 121 0 = if sz ≤ wS tx sz 0 ∧ 0 < 0 then -1 else if wEr tx sz (wS tx sz 0) (if 0 = 0 then 1 else 0) ≠ -1 then wEr tx sz (wS tx sz 0) (if 0 = 0 then 1 else 0) else eF tx sz 120 (0 + 1) := rfl
    rw [this, if_neg (by omega), if_pos rfl]
    rfl
  have hw : wEr tx sz 0 1 = -1 := Classical.byContradiction fun z => by rw [if_pos z] at e0; exact z (e0 ▸ h)
  have hok : wOk tx sz 0 1 := Classical.byContradiction fun z => by rw [wEr_no z] at hw; omega
  have h69 : sg tx sz 0 = 69 := by
    have := hok.2.1
    split at this
    · assumption
    · omega
  have e1 := wEr_ok hok
  rw [h69, hw] at e1
  have hb : dBad tx sz 69 0 2 = -1 := Classical.byContradiction fun z => by
    have := dBad_rg (t := tx) (n := sz) (k := 69) (p := 0) 2
    rw [show (nuO 69).toNat = 2 from rfl, if_neg z] at e1
    omega
  have g0 := fq_good hn.2 (Int.le_refl 0) hb 0 (by omega) 1 (by omega)
  have g1 := fq_good hn.2 (Int.le_refl 0) hb 1 (by omega) 3 (by omega)
  have k0 := g0.2
  have k1 := g1.2
  rw [show loO 69 = 1 from rfl, show hiO 69 ((0 : Nat) : Int) = 12 from rfl] at k0
  rw [show loO 69 = 1 from rfl, show hiO 69 ((1 : Nat) : Int) = 12 from rfl] at k1
  refine ⟨⟨k0.1, k0.2, k1.1, k1.2⟩, ?_⟩
  show wE tx sz 0 = 5
  unfold wE
  rw [h69]; rfl
theorem SV_xF {n : Int} : ∀ (f k : Nat) (s : St × Int), SV s.1 → SV (xF tx n f k s).1
  | 0, _, s, h => h
  | f + 1, k, s, h => by
    simp only [xF]
    split
    · exact h
    · exact SV_xF f _ _ (SV_exW h)
theorem SV_xT (hn : 0 ≤ sz ∧ sz ≤ 120) (h : eP tx sz = -1) {T : Int → Int} (hT : ∀ i, 0 ≤ T i ∧ T i ≤ 99) : SV (xT tx sz T).1 := SV_xF _ _ _ (SV_st0 hT (eP_dim hn h).1)
theorem dX6_obeysWord_0 : decode cX6_obeysWord 0 = .ok (.aload_n 0, 1) := by decide +kernel
theorem dX6_obeysWord_1 : decode cX6_obeysWord 1 = .ok (.getfield 10, 3) := by decide +kernel
theorem dX6_obeysWord_4 : decode cX6_obeysWord 4 = .ok (.iload_n 1, 1) := by decide +kernel
theorem dX6_obeysWord_5 : decode cX6_obeysWord 5 = .ok (.iconst 1, 1) := by decide +kernel
theorem dX6_obeysWord_6 : decode cX6_obeysWord 6 = .ok (.iadd, 1) := by decide +kernel
theorem dX6_obeysWord_7 : decode cX6_obeysWord 7 = .ok (.invokevirtual 110, 3) := by decide +kernel
theorem dX6_obeysWord_10 : decode cX6_obeysWord 10 = .ok (.istore_n 2, 1) := by decide +kernel
theorem dX6_obeysWord_11 : decode cX6_obeysWord 11 = .ok (.aload_n 0, 1) := by decide +kernel
theorem dX6_obeysWord_12 : decode cX6_obeysWord 12 = .ok (.getfield 10, 3) := by decide +kernel
theorem dX6_obeysWord_15 : decode cX6_obeysWord 15 = .ok (.iload_n 1, 1) := by decide +kernel
theorem dX6_obeysWord_16 : decode cX6_obeysWord 16 = .ok (.iconst 3, 1) := by decide +kernel
theorem dX6_obeysWord_17 : decode cX6_obeysWord 17 = .ok (.iadd, 1) := by decide +kernel
theorem dX6_obeysWord_18 : decode cX6_obeysWord 18 = .ok (.invokevirtual 110, 3) := by decide +kernel
theorem dX6_obeysWord_21 : decode cX6_obeysWord 21 = .ok (.istore_n 3, 1) := by decide +kernel
theorem dX6_obeysWord_22 : decode cX6_obeysWord 22 = .ok (.aload_n 0, 1) := by decide +kernel
theorem dX6_obeysWord_23 : decode cX6_obeysWord 23 = .ok (.getfield 10, 3) := by decide +kernel
theorem dX6_obeysWord_26 : decode cX6_obeysWord 26 = .ok (.iload_n 1, 1) := by decide +kernel
theorem dX6_obeysWord_27 : decode cX6_obeysWord 27 = .ok (.iconst 5, 1) := by decide +kernel
theorem dX6_obeysWord_28 : decode cX6_obeysWord 28 = .ok (.iadd, 1) := by decide +kernel
theorem dX6_obeysWord_29 : decode cX6_obeysWord 29 = .ok (.invokevirtual 110, 3) := by decide +kernel
theorem dX6_obeysWord_32 : decode cX6_obeysWord 32 = .ok (.istore 4, 2) := by decide +kernel
theorem dX6_obeysWord_34 : decode cX6_obeysWord 34 = .ok (.aload_n 0, 1) := by decide +kernel
theorem dX6_obeysWord_35 : decode cX6_obeysWord 35 = .ok (.getfield 10, 3) := by decide +kernel
theorem dX6_obeysWord_38 : decode cX6_obeysWord 38 = .ok (.iload_n 1, 1) := by decide +kernel
theorem dX6_obeysWord_39 : decode cX6_obeysWord 39 = .ok (.invokevirtual 128, 3) := by decide +kernel
theorem dX6_obeysWord_42 : decode cX6_obeysWord 42 = .ok (.tableswitch 192 98 117 #[106, 192, 192, 192, 192, 192, 192, 192, 192, 150, 192, 160, 192, 192, 94, 192, 192, 169, 140, 178], 94) := by decide +kernel
theorem dX6_obeysWord_136 : decode cX6_obeysWord 136 = .ok (.aload_n 0, 1) := by decide +kernel
theorem dX6_obeysWord_137 : decode cX6_obeysWord 137 = .ok (.getfield 19, 3) := by decide +kernel
theorem dX6_obeysWord_140 : decode cX6_obeysWord 140 = .ok (.iload_n 2, 1) := by decide +kernel
theorem dX6_obeysWord_141 : decode cX6_obeysWord 141 = .ok (.iload_n 3, 1) := by decide +kernel
theorem dX6_obeysWord_142 : decode cX6_obeysWord 142 = .ok (.iload 4, 2) := by decide +kernel
theorem dX6_obeysWord_144 : decode cX6_obeysWord 144 = .ok (.invokevirtual 131, 3) := by decide +kernel
theorem dX6_obeysWord_147 : decode cX6_obeysWord 147 = .ok (.ireturn, 1) := by decide +kernel
theorem dX6_obeysWord_148 : decode cX6_obeysWord 148 = .ok (.aload_n 0, 1) := by decide +kernel
theorem dX6_obeysWord_149 : decode cX6_obeysWord 149 = .ok (.getfield 19, 3) := by decide +kernel
theorem dX6_obeysWord_152 : decode cX6_obeysWord 152 = .ok (.iload_n 2, 1) := by decide +kernel
theorem dX6_obeysWord_153 : decode cX6_obeysWord 153 = .ok (.iload_n 3, 1) := by decide +kernel
theorem dX6_obeysWord_154 : decode cX6_obeysWord 154 = .ok (.iload 4, 2) := by decide +kernel
theorem dX6_obeysWord_156 : decode cX6_obeysWord 156 = .ok (.aload_n 0, 1) := by decide +kernel
theorem dX6_obeysWord_157 : decode cX6_obeysWord 157 = .ok (.getfield 10, 3) := by decide +kernel
theorem dX6_obeysWord_160 : decode cX6_obeysWord 160 = .ok (.iload_n 1, 1) := by decide +kernel
theorem dX6_obeysWord_161 : decode cX6_obeysWord 161 = .ok (.bipush 7, 2) := by decide +kernel
theorem dX6_obeysWord_163 : decode cX6_obeysWord 163 = .ok (.iadd, 1) := by decide +kernel
theorem dX6_obeysWord_164 : decode cX6_obeysWord 164 = .ok (.invokevirtual 110, 3) := by decide +kernel
theorem dX6_obeysWord_167 : decode cX6_obeysWord 167 = .ok (.aload_n 0, 1) := by decide +kernel
theorem dX6_obeysWord_168 : decode cX6_obeysWord 168 = .ok (.getfield 10, 3) := by decide +kernel
theorem dX6_obeysWord_171 : decode cX6_obeysWord 171 = .ok (.iload_n 1, 1) := by decide +kernel
theorem dX6_obeysWord_172 : decode cX6_obeysWord 172 = .ok (.bipush 9, 2) := by decide +kernel
theorem dX6_obeysWord_174 : decode cX6_obeysWord 174 = .ok (.iadd, 1) := by decide +kernel
theorem dX6_obeysWord_175 : decode cX6_obeysWord 175 = .ok (.invokevirtual 110, 3) := by decide +kernel
theorem dX6_obeysWord_178 : decode cX6_obeysWord 178 = .ok (.invokevirtual 135, 3) := by decide +kernel
theorem dX6_obeysWord_181 : decode cX6_obeysWord 181 = .ok (.ireturn, 1) := by decide +kernel
theorem dX6_obeysWord_182 : decode cX6_obeysWord 182 = .ok (.aload_n 0, 1) := by decide +kernel
theorem dX6_obeysWord_183 : decode cX6_obeysWord 183 = .ok (.getfield 19, 3) := by decide +kernel
theorem dX6_obeysWord_186 : decode cX6_obeysWord 186 = .ok (.iload_n 2, 1) := by decide +kernel
theorem dX6_obeysWord_187 : decode cX6_obeysWord 187 = .ok (.iconst 1, 1) := by decide +kernel
theorem dX6_obeysWord_188 : decode cX6_obeysWord 188 = .ok (.invokevirtual 139, 3) := by decide +kernel
theorem dX6_obeysWord_191 : decode cX6_obeysWord 191 = .ok (.ireturn, 1) := by decide +kernel
theorem dX6_obeysWord_192 : decode cX6_obeysWord 192 = .ok (.aload_n 0, 1) := by decide +kernel
theorem dX6_obeysWord_193 : decode cX6_obeysWord 193 = .ok (.getfield 19, 3) := by decide +kernel
theorem dX6_obeysWord_196 : decode cX6_obeysWord 196 = .ok (.iload_n 2, 1) := by decide +kernel
theorem dX6_obeysWord_197 : decode cX6_obeysWord 197 = .ok (.iconst 0, 1) := by decide +kernel
theorem dX6_obeysWord_198 : decode cX6_obeysWord 198 = .ok (.invokevirtual 139, 3) := by decide +kernel
theorem dX6_obeysWord_201 : decode cX6_obeysWord 201 = .ok (.ireturn, 1) := by decide +kernel
theorem dX6_obeysWord_202 : decode cX6_obeysWord 202 = .ok (.aload_n 0, 1) := by decide +kernel
theorem dX6_obeysWord_203 : decode cX6_obeysWord 203 = .ok (.getfield 19, 3) := by decide +kernel
theorem dX6_obeysWord_206 : decode cX6_obeysWord 206 = .ok (.iload_n 2, 1) := by decide +kernel
theorem dX6_obeysWord_207 : decode cX6_obeysWord 207 = .ok (.invokevirtual 143, 3) := by decide +kernel
theorem dX6_obeysWord_210 : decode cX6_obeysWord 210 = .ok (.ireturn, 1) := by decide +kernel
theorem dX6_obeysWord_211 : decode cX6_obeysWord 211 = .ok (.aload_n 0, 1) := by decide +kernel
theorem dX6_obeysWord_212 : decode cX6_obeysWord 212 = .ok (.getfield 19, 3) := by decide +kernel
theorem dX6_obeysWord_215 : decode cX6_obeysWord 215 = .ok (.iload_n 2, 1) := by decide +kernel
theorem dX6_obeysWord_216 : decode cX6_obeysWord 216 = .ok (.invokevirtual 146, 3) := by decide +kernel
theorem dX6_obeysWord_219 : decode cX6_obeysWord 219 = .ok (.ireturn, 1) := by decide +kernel
theorem dX6_obeysWord_220 : decode cX6_obeysWord 220 = .ok (.aload_n 0, 1) := by decide +kernel
theorem dX6_obeysWord_221 : decode cX6_obeysWord 221 = .ok (.getfield 19, 3) := by decide +kernel
theorem dX6_obeysWord_224 : decode cX6_obeysWord 224 = .ok (.aload_n 0, 1) := by decide +kernel
theorem dX6_obeysWord_225 : decode cX6_obeysWord 225 = .ok (.getfield 72, 3) := by decide +kernel
theorem dX6_obeysWord_228 : decode cX6_obeysWord 228 = .ok (.invokevirtual 149, 3) := by decide +kernel
theorem dX6_obeysWord_231 : decode cX6_obeysWord 231 = .ok (.pop, 1) := by decide +kernel
theorem dX6_obeysWord_232 : decode cX6_obeysWord 232 = .ok (.iconst 1, 1) := by decide +kernel
theorem dX6_obeysWord_233 : decode cX6_obeysWord 233 = .ok (.ireturn, 1) := by decide +kernel
theorem dX6_obeysWord_234 : decode cX6_obeysWord 234 = .ok (.aload_n 0, 1) := by decide +kernel
theorem dX6_obeysWord_235 : decode cX6_obeysWord 235 = .ok (.getfield 19, 3) := by decide +kernel
theorem dX6_obeysWord_238 : decode cX6_obeysWord 238 = .ok (.invokevirtual 153, 3) := by decide +kernel
theorem dX6_obeysWord_241 : decode cX6_obeysWord 241 = .ok (.pop, 1) := by decide +kernel
theorem dX6_obeysWord_242 : decode cX6_obeysWord 242 = .ok (.iconst 1, 1) := by decide +kernel
theorem dX6_obeysWord_243 : decode cX6_obeysWord 243 = .ok (.ireturn, 1) := by decide +kernel
set_option maxRecDepth 100000 in
theorem c_obeysWord {p : Int} (hS : SV S) (hn : 0 ≤ sz ∧ sz ≤ 120) (ht : ∀ j, 0 ≤ tx j ∧ tx j ≤ 255) (hp : 0 ≤ p ∧ p < sz) : Ct l yX6_obeysWord cX6_obeysWord 5 (some .boolean) rmX6_obeysWord [.ref 0, iv p] (clW kn nk S gb sz tx)
    (fun z M => z = some (iv (okZ tx sz p S)) ∧ ∃ gb' : Int → Int, M = (clW kn nk (exW tx sz p S) (gb') sz tx)) := by
  refine Ct.of miX6_obeysWord (Nat.le_of_ble_eq_true rfl) ?_
  intro X hXl hN ok
  refine AW.cast (L2 := [some (.ref 0), some (iv p), none, none, none]) ?_ rfl rfl rfl
  have hd := hS.1
  have hsg := sg_rg (t := tx) (n := sz) ht p
  have hnm : ∀ q, rg (nmA tx sz q) := fun q => by
    have a := sg_rg (t := tx) (n := sz) ht q
    have b := sg_rg (t := tx) (n := sz) ht (q + 1)
    unfold nmA rg; omega
  have zp : sg tx sz p = 112 → okZ tx sz p S = bz (kP S (nmA tx sz (p + 1)) (nmA tx sz (p + 3)) (nmA tx sz (p + 5))) ∧ exW tx sz p S = stP S (nmA tx sz (p + 1)) (nmA tx sz (p + 3)) (nmA tx sz (p + 5)) := fun e => by unfold okZ exW; rw [e]; exact ⟨rfl, rfl⟩
  have zb : sg tx sz p = 98 → okZ tx sz p S = bz (kB S (nmA tx sz (p + 1)) (nmA tx sz (p + 3)) (nmA tx sz (p + 5)) (nmA tx sz (p + 7)) (nmA tx sz (p + 9))) ∧ exW tx sz p S = stB S (nmA tx sz (p + 1)) (nmA tx sz (p + 3)) (nmA tx sz (p + 5)) (nmA tx sz (p + 7)) (nmA tx sz (p + 9)) := fun e => by unfold okZ exW; rw [e]; exact ⟨rfl, rfl⟩
  have zt : sg tx sz p = 116 → okZ tx sz p S = bz (kT S (nmA tx sz (p + 1)) 1) ∧ exW tx sz p S = stT S (nmA tx sz (p + 1)) 1 := fun e => by unfold okZ exW; rw [e]; exact ⟨rfl, rfl⟩
  have zk : sg tx sz p = 107 → okZ tx sz p S = bz (kT S (nmA tx sz (p + 1)) 0) ∧ exW tx sz p S = stT S (nmA tx sz (p + 1)) 0 := fun e => by unfold okZ exW; rw [e]; exact ⟨rfl, rfl⟩
  have zm : sg tx sz p = 109 → okZ tx sz p S = bz (1 ≤ nmA tx sz (p + 1) ∧ nmA tx sz (p + 1) ≤ 30) ∧ exW tx sz p S = stL S (nmA tx sz (p + 1)) := fun e => by unfold okZ exW; rw [e]; exact ⟨rfl, rfl⟩
  have zs : sg tx sz p = 115 → okZ tx sz p S = bz (1 ≤ nmA tx sz (p + 1) ∧ nmA tx sz (p + 1) ≤ 49) ∧ exW tx sz p S = stQ S (nmA tx sz (p + 1)) := fun e => by unfold okZ exW; rw [e]; exact ⟨rfl, rfl⟩
  have zu : sg tx sz p = 117 → okZ tx sz p S = 1 ∧ exW tx sz p S = gU S := fun e => by unfold okZ exW; rw [e]; exact ⟨rfl, rfl⟩
  have zo : sg tx sz p ≠ 112 ∧ sg tx sz p ≠ 98 ∧ sg tx sz p ≠ 116 ∧ sg tx sz p ≠ 107 ∧ sg tx sz p ≠ 109 ∧ sg tx sz p ≠ 115 ∧ sg tx sz p ≠ 117 → okZ tx sz p S = 1 ∧ exW tx sz p S = gI S := fun ⟨e1, e2, e3, e4, e5, e6, e7⟩ => by
    unfold okZ exW
    rw [if_neg e1, if_neg e2, if_neg e3, if_neg e4, if_neg e5, if_neg e6, if_neg e1, if_neg e2, if_neg e3, if_neg e4, if_neg e5, if_neg e6, if_neg e7]
    exact ⟨rfl, rfl⟩
  have done : ∀ {v : Int} {M : List va_E} {S3 : St} (gb' : Int → Int), M = (clW kn nk (S3) (gb') sz tx) → okZ tx sz p S = v ∧ exW tx sz p S = S3 → some (iv v) = some (iv (okZ tx sz p S)) ∧ ∃ gb' : Int → Int, M = (clW kn nk (exW tx sz p S) (gb') sz tx) := fun gb' e1 e2 => by subst e1; rw [e2.1, e2.2]; exact ⟨rfl, gb', rfl⟩
  refine a_aload_n (pc := 0) ok dX6_obeysWord_0 rfl ?_
  refine a_getf (pc := 1) ok dX6_obeysWord_1 fl6_10 rfl rfl ?_
  refine a_iload_n (pc := 4) ok dX6_obeysWord_4 rfl ?_
  refine a_iconst (pc := 5) ok dX6_obeysWord_5 ?_
  refine a_iadd (pc := 6) ok dX6_obeysWord_6 ?_
  refine a_callVp (pc := 7) ok [6, 7] dX6_obeysWord_7 mv6_110 miX5_numberAt (c_numberAt hn (by omega)) ⟨by decide, by decide, rfl, rfl, Nat.zero_le _, Nat.zero_le _⟩ rfl rfl (Nat.le_of_ble_eq_true rfl) rfl (by decide) rfl rfl ?_
  refine a_istore_n (pc := 10) ok dX6_obeysWord_10 rfl (by rw [hN]; decide) ?_
  refine a_aload_n (pc := 11) ok dX6_obeysWord_11 rfl ?_
  refine a_getf (pc := 12) ok dX6_obeysWord_12 fl6_10 rfl rfl ?_
  refine a_iload_n (pc := 15) ok dX6_obeysWord_15 rfl ?_
  refine a_iconst (pc := 16) ok dX6_obeysWord_16 ?_
  refine a_iadd (pc := 17) ok dX6_obeysWord_17 ?_
  refine a_callVp (pc := 18) ok [6, 7] dX6_obeysWord_18 mv6_110 miX5_numberAt (c_numberAt hn (by omega)) ⟨by decide, by decide, rfl, rfl, Nat.zero_le _, Nat.zero_le _⟩ rfl rfl (Nat.le_of_ble_eq_true rfl) rfl (by decide) rfl rfl ?_
  refine a_istore_n (pc := 21) ok dX6_obeysWord_21 rfl (by rw [hN]; decide) ?_
  refine a_aload_n (pc := 22) ok dX6_obeysWord_22 rfl ?_
  refine a_getf (pc := 23) ok dX6_obeysWord_23 fl6_10 rfl rfl ?_
  refine a_iload_n (pc := 26) ok dX6_obeysWord_26 rfl ?_
  refine a_iconst (pc := 27) ok dX6_obeysWord_27 ?_
  refine a_iadd (pc := 28) ok dX6_obeysWord_28 ?_
  refine a_callVp (pc := 29) ok [6, 7] dX6_obeysWord_29 mv6_110 miX5_numberAt (c_numberAt hn (by omega)) ⟨by decide, by decide, rfl, rfl, Nat.zero_le _, Nat.zero_le _⟩ rfl rfl (Nat.le_of_ble_eq_true rfl) rfl (by decide) rfl rfl ?_
  refine a_istore (pc := 32) ok dX6_obeysWord_32 rfl (by rw [hN]; decide) ?_
  refine a_aload_n (pc := 34) ok dX6_obeysWord_34 rfl ?_
  refine a_getf (pc := 35) ok dX6_obeysWord_35 fl6_10 rfl rfl ?_
  refine a_iload_n (pc := 38) ok dX6_obeysWord_38 rfl ?_
  refine a_callVp (pc := 39) ok [6, 7] dX6_obeysWord_39 mv6_128 miX5_signAt (c_signAt hn (by unfold rg; omega)) ⟨by decide, by decide, rfl, rfl, Nat.zero_le _, Nat.zero_le _⟩ rfl rfl (Nat.le_of_ble_eq_true rfl) rfl (by decide) rfl rfl ?_
  refine a_tab (pc := 42) (dt := 234) ok [148, 234, 234, 234, 234, 234, 234, 234, 234, 192, 234, 202, 234, 234, 136, 234, 234, 211, 182, 220] dX6_obeysWord_42 (by decide) (by decide) (by decide) (by unfold rg; omega) (fun j42 hj42 c42 => ?_) (fun c42 => ?_)
  · rcases (show j42 = 0 ∨ j42 = 1 ∨ j42 = 2 ∨ j42 = 3 ∨ j42 = 4 ∨ j42 = 5 ∨ j42 = 6 ∨ j42 = 7 ∨ j42 = 8 ∨ j42 = 9 ∨ j42 = 10 ∨ j42 = 11 ∨ j42 = 12 ∨ j42 = 13 ∨ j42 = 14 ∨ j42 = 15 ∨ j42 = 16 ∨ j42 = 17 ∨ j42 = 18 ∨ j42 = 19 by simp only [List.length_cons, List.length_nil] at hj42; omega) with rfl | rfl | rfl | rfl | rfl | rfl | rfl | rfl | rfl | rfl | rfl | rfl | rfl | rfl | rfl | rfl | rfl | rfl | rfl | rfl
    · refine a_aload_n (pc := 148) ok dX6_obeysWord_148 rfl ?_
      refine a_getf (pc := 149) ok dX6_obeysWord_149 fl6_19 rfl rfl ?_
      refine a_iload_n (pc := 152) ok dX6_obeysWord_152 rfl ?_
      refine a_iload_n (pc := 153) ok dX6_obeysWord_153 rfl ?_
      refine a_iload (pc := 154) ok dX6_obeysWord_154 rfl ?_
      refine a_aload_n (pc := 156) ok dX6_obeysWord_156 rfl ?_
      refine a_getf (pc := 157) ok dX6_obeysWord_157 fl6_10 rfl rfl ?_
      refine a_iload_n (pc := 160) ok dX6_obeysWord_160 rfl ?_
      refine a_bipush (pc := 161) ok dX6_obeysWord_161 (by decide) ?_
      refine a_iadd (pc := 163) ok dX6_obeysWord_163 ?_
      refine a_callVp (pc := 164) ok [6, 7] dX6_obeysWord_164 mv6_110 miX5_numberAt (c_numberAt hn (by omega)) ⟨by decide, by decide, rfl, rfl, Nat.zero_le _, Nat.zero_le _⟩ rfl rfl (Nat.le_of_ble_eq_true rfl) rfl (by decide) rfl rfl ?_
      refine a_aload_n (pc := 167) ok dX6_obeysWord_167 rfl ?_
      refine a_getf (pc := 168) ok dX6_obeysWord_168 fl6_10 rfl rfl ?_
      refine a_iload_n (pc := 171) ok dX6_obeysWord_171 rfl ?_
      refine a_bipush (pc := 172) ok dX6_obeysWord_172 (by decide) ?_
      refine a_iadd (pc := 174) ok dX6_obeysWord_174 ?_
      refine a_callVp (pc := 175) ok [6, 7] dX6_obeysWord_175 mv6_110 miX5_numberAt (c_numberAt hn (by omega)) ⟨by decide, by decide, rfl, rfl, Nat.zero_le _, Nat.zero_le _⟩ rfl rfl (Nat.le_of_ble_eq_true rfl) rfl (by decide) rfl rfl ?_
      refine a_callVi (pc := 178) ok [1, 2, 3, 4] dX6_obeysWord_178 mv6_135 miX4_tryFillBox (c_tB hS (hnm _) (hnm _) (hnm _) (hnm _) (hnm _)) ⟨by decide, by decide, rfl, rfl, Nat.zero_le _, Nat.zero_le _⟩ rfl rfl (Nat.le_of_ble_eq_true rfl) rfl (by decide) rfl rfl rfl ?_
      exact a_zret (pc := 181) ok dX6_obeysWord_181 (by first | rfl | exact nb_bz _ | exact @nb_bz _ (Classical.propDecidable _) | decide | exact nb_01 (by assumption)) (done gb rfl (zb (by omega)))
    · refine a_aload_n (pc := 234) ok dX6_obeysWord_234 rfl ?_
      refine a_getf (pc := 235) ok dX6_obeysWord_235 fl6_19 rfl rfl ?_
      refine a_callVi (pc := 238) ok [1, 2, 3, 4] dX6_obeysWord_238 mv6_153 miX4_invertGreys (c_invertGreys hd) ⟨by decide, by decide, rfl, rfl, Nat.zero_le _, Nat.zero_le _⟩ rfl rfl (Nat.le_of_ble_eq_true rfl) rfl (by decide) rfl rfl rfl ?_
      refine a_pop (pc := 241) ok dX6_obeysWord_241 rfl ?_
      refine a_iconst (pc := 242) ok dX6_obeysWord_242 ?_
      exact a_zret (pc := 243) ok dX6_obeysWord_243 (by first | rfl | exact nb_bz _ | exact @nb_bz _ (Classical.propDecidable _) | decide | exact nb_01 (by assumption)) (done gb rfl (zo (by omega)))
    · refine a_aload_n (pc := 234) ok dX6_obeysWord_234 rfl ?_
      refine a_getf (pc := 235) ok dX6_obeysWord_235 fl6_19 rfl rfl ?_
      refine a_callVi (pc := 238) ok [1, 2, 3, 4] dX6_obeysWord_238 mv6_153 miX4_invertGreys (c_invertGreys hd) ⟨by decide, by decide, rfl, rfl, Nat.zero_le _, Nat.zero_le _⟩ rfl rfl (Nat.le_of_ble_eq_true rfl) rfl (by decide) rfl rfl rfl ?_
      refine a_pop (pc := 241) ok dX6_obeysWord_241 rfl ?_
      refine a_iconst (pc := 242) ok dX6_obeysWord_242 ?_
      exact a_zret (pc := 243) ok dX6_obeysWord_243 (by first | rfl | exact nb_bz _ | exact @nb_bz _ (Classical.propDecidable _) | decide | exact nb_01 (by assumption)) (done gb rfl (zo (by omega)))
    · refine a_aload_n (pc := 234) ok dX6_obeysWord_234 rfl ?_
      refine a_getf (pc := 235) ok dX6_obeysWord_235 fl6_19 rfl rfl ?_
      refine a_callVi (pc := 238) ok [1, 2, 3, 4] dX6_obeysWord_238 mv6_153 miX4_invertGreys (c_invertGreys hd) ⟨by decide, by decide, rfl, rfl, Nat.zero_le _, Nat.zero_le _⟩ rfl rfl (Nat.le_of_ble_eq_true rfl) rfl (by decide) rfl rfl rfl ?_
      refine a_pop (pc := 241) ok dX6_obeysWord_241 rfl ?_
      refine a_iconst (pc := 242) ok dX6_obeysWord_242 ?_
      exact a_zret (pc := 243) ok dX6_obeysWord_243 (by first | rfl | exact nb_bz _ | exact @nb_bz _ (Classical.propDecidable _) | decide | exact nb_01 (by assumption)) (done gb rfl (zo (by omega)))
    · refine a_aload_n (pc := 234) ok dX6_obeysWord_234 rfl ?_
      refine a_getf (pc := 235) ok dX6_obeysWord_235 fl6_19 rfl rfl ?_
      refine a_callVi (pc := 238) ok [1, 2, 3, 4] dX6_obeysWord_238 mv6_153 miX4_invertGreys (c_invertGreys hd) ⟨by decide, by decide, rfl, rfl, Nat.zero_le _, Nat.zero_le _⟩ rfl rfl (Nat.le_of_ble_eq_true rfl) rfl (by decide) rfl rfl rfl ?_
      refine a_pop (pc := 241) ok dX6_obeysWord_241 rfl ?_
      refine a_iconst (pc := 242) ok dX6_obeysWord_242 ?_
      exact a_zret (pc := 243) ok dX6_obeysWord_243 (by first | rfl | exact nb_bz _ | exact @nb_bz _ (Classical.propDecidable _) | decide | exact nb_01 (by assumption)) (done gb rfl (zo (by omega)))
    · refine a_aload_n (pc := 234) ok dX6_obeysWord_234 rfl ?_
      refine a_getf (pc := 235) ok dX6_obeysWord_235 fl6_19 rfl rfl ?_
      refine a_callVi (pc := 238) ok [1, 2, 3, 4] dX6_obeysWord_238 mv6_153 miX4_invertGreys (c_invertGreys hd) ⟨by decide, by decide, rfl, rfl, Nat.zero_le _, Nat.zero_le _⟩ rfl rfl (Nat.le_of_ble_eq_true rfl) rfl (by decide) rfl rfl rfl ?_
      refine a_pop (pc := 241) ok dX6_obeysWord_241 rfl ?_
      refine a_iconst (pc := 242) ok dX6_obeysWord_242 ?_
      exact a_zret (pc := 243) ok dX6_obeysWord_243 (by first | rfl | exact nb_bz _ | exact @nb_bz _ (Classical.propDecidable _) | decide | exact nb_01 (by assumption)) (done gb rfl (zo (by omega)))
    · refine a_aload_n (pc := 234) ok dX6_obeysWord_234 rfl ?_
      refine a_getf (pc := 235) ok dX6_obeysWord_235 fl6_19 rfl rfl ?_
      refine a_callVi (pc := 238) ok [1, 2, 3, 4] dX6_obeysWord_238 mv6_153 miX4_invertGreys (c_invertGreys hd) ⟨by decide, by decide, rfl, rfl, Nat.zero_le _, Nat.zero_le _⟩ rfl rfl (Nat.le_of_ble_eq_true rfl) rfl (by decide) rfl rfl rfl ?_
      refine a_pop (pc := 241) ok dX6_obeysWord_241 rfl ?_
      refine a_iconst (pc := 242) ok dX6_obeysWord_242 ?_
      exact a_zret (pc := 243) ok dX6_obeysWord_243 (by first | rfl | exact nb_bz _ | exact @nb_bz _ (Classical.propDecidable _) | decide | exact nb_01 (by assumption)) (done gb rfl (zo (by omega)))
    · refine a_aload_n (pc := 234) ok dX6_obeysWord_234 rfl ?_
      refine a_getf (pc := 235) ok dX6_obeysWord_235 fl6_19 rfl rfl ?_
      refine a_callVi (pc := 238) ok [1, 2, 3, 4] dX6_obeysWord_238 mv6_153 miX4_invertGreys (c_invertGreys hd) ⟨by decide, by decide, rfl, rfl, Nat.zero_le _, Nat.zero_le _⟩ rfl rfl (Nat.le_of_ble_eq_true rfl) rfl (by decide) rfl rfl rfl ?_
      refine a_pop (pc := 241) ok dX6_obeysWord_241 rfl ?_
      refine a_iconst (pc := 242) ok dX6_obeysWord_242 ?_
      exact a_zret (pc := 243) ok dX6_obeysWord_243 (by first | rfl | exact nb_bz _ | exact @nb_bz _ (Classical.propDecidable _) | decide | exact nb_01 (by assumption)) (done gb rfl (zo (by omega)))
    · refine a_aload_n (pc := 234) ok dX6_obeysWord_234 rfl ?_
      refine a_getf (pc := 235) ok dX6_obeysWord_235 fl6_19 rfl rfl ?_
      refine a_callVi (pc := 238) ok [1, 2, 3, 4] dX6_obeysWord_238 mv6_153 miX4_invertGreys (c_invertGreys hd) ⟨by decide, by decide, rfl, rfl, Nat.zero_le _, Nat.zero_le _⟩ rfl rfl (Nat.le_of_ble_eq_true rfl) rfl (by decide) rfl rfl rfl ?_
      refine a_pop (pc := 241) ok dX6_obeysWord_241 rfl ?_
      refine a_iconst (pc := 242) ok dX6_obeysWord_242 ?_
      exact a_zret (pc := 243) ok dX6_obeysWord_243 (by first | rfl | exact nb_bz _ | exact @nb_bz _ (Classical.propDecidable _) | decide | exact nb_01 (by assumption)) (done gb rfl (zo (by omega)))
    · refine a_aload_n (pc := 192) ok dX6_obeysWord_192 rfl ?_
      refine a_getf (pc := 193) ok dX6_obeysWord_193 fl6_19 rfl rfl ?_
      refine a_iload_n (pc := 196) ok dX6_obeysWord_196 rfl ?_
      refine a_iconst (pc := 197) ok dX6_obeysWord_197 ?_
      refine a_callVi (pc := 198) ok [1, 2, 3, 4] dX6_obeysWord_198 mv6_139 miX4_tryChangeThreshold (c_tT hS (hnm _) (by unfold rg; omega)) ⟨by decide, by decide, rfl, rfl, Nat.zero_le _, Nat.zero_le _⟩ rfl rfl (Nat.le_of_ble_eq_true rfl) rfl (by decide) rfl rfl rfl ?_
      exact a_zret (pc := 201) ok dX6_obeysWord_201 (by first | rfl | exact nb_bz _ | exact @nb_bz _ (Classical.propDecidable _) | decide | exact nb_01 (by assumption)) (done gb rfl (zk (by omega)))
    · refine a_aload_n (pc := 234) ok dX6_obeysWord_234 rfl ?_
      refine a_getf (pc := 235) ok dX6_obeysWord_235 fl6_19 rfl rfl ?_
      refine a_callVi (pc := 238) ok [1, 2, 3, 4] dX6_obeysWord_238 mv6_153 miX4_invertGreys (c_invertGreys hd) ⟨by decide, by decide, rfl, rfl, Nat.zero_le _, Nat.zero_le _⟩ rfl rfl (Nat.le_of_ble_eq_true rfl) rfl (by decide) rfl rfl rfl ?_
      refine a_pop (pc := 241) ok dX6_obeysWord_241 rfl ?_
      refine a_iconst (pc := 242) ok dX6_obeysWord_242 ?_
      exact a_zret (pc := 243) ok dX6_obeysWord_243 (by first | rfl | exact nb_bz _ | exact @nb_bz _ (Classical.propDecidable _) | decide | exact nb_01 (by assumption)) (done gb rfl (zo (by omega)))
    · refine a_aload_n (pc := 202) ok dX6_obeysWord_202 rfl ?_
      refine a_getf (pc := 203) ok dX6_obeysWord_203 fl6_19 rfl rfl ?_
      refine a_iload_n (pc := 206) ok dX6_obeysWord_206 rfl ?_
      refine a_callVi (pc := 207) ok [1, 2, 3, 4] dX6_obeysWord_207 mv6_143 miX4_trySetLeast (c_tL (hnm _)) ⟨by decide, by decide, rfl, rfl, Nat.zero_le _, Nat.zero_le _⟩ rfl rfl (Nat.le_of_ble_eq_true rfl) rfl (by decide) rfl rfl rfl ?_
      exact a_zret (pc := 210) ok dX6_obeysWord_210 (by first | rfl | exact nb_bz _ | exact @nb_bz _ (Classical.propDecidable _) | decide | exact nb_01 (by assumption)) (done gb rfl (zm (by omega)))
    · refine a_aload_n (pc := 234) ok dX6_obeysWord_234 rfl ?_
      refine a_getf (pc := 235) ok dX6_obeysWord_235 fl6_19 rfl rfl ?_
      refine a_callVi (pc := 238) ok [1, 2, 3, 4] dX6_obeysWord_238 mv6_153 miX4_invertGreys (c_invertGreys hd) ⟨by decide, by decide, rfl, rfl, Nat.zero_le _, Nat.zero_le _⟩ rfl rfl (Nat.le_of_ble_eq_true rfl) rfl (by decide) rfl rfl rfl ?_
      refine a_pop (pc := 241) ok dX6_obeysWord_241 rfl ?_
      refine a_iconst (pc := 242) ok dX6_obeysWord_242 ?_
      exact a_zret (pc := 243) ok dX6_obeysWord_243 (by first | rfl | exact nb_bz _ | exact @nb_bz _ (Classical.propDecidable _) | decide | exact nb_01 (by assumption)) (done gb rfl (zo (by omega)))
    · refine a_aload_n (pc := 234) ok dX6_obeysWord_234 rfl ?_
      refine a_getf (pc := 235) ok dX6_obeysWord_235 fl6_19 rfl rfl ?_
      refine a_callVi (pc := 238) ok [1, 2, 3, 4] dX6_obeysWord_238 mv6_153 miX4_invertGreys (c_invertGreys hd) ⟨by decide, by decide, rfl, rfl, Nat.zero_le _, Nat.zero_le _⟩ rfl rfl (Nat.le_of_ble_eq_true rfl) rfl (by decide) rfl rfl rfl ?_
      refine a_pop (pc := 241) ok dX6_obeysWord_241 rfl ?_
      refine a_iconst (pc := 242) ok dX6_obeysWord_242 ?_
      exact a_zret (pc := 243) ok dX6_obeysWord_243 (by first | rfl | exact nb_bz _ | exact @nb_bz _ (Classical.propDecidable _) | decide | exact nb_01 (by assumption)) (done gb rfl (zo (by omega)))
    · refine a_aload_n (pc := 136) ok dX6_obeysWord_136 rfl ?_
      refine a_getf (pc := 137) ok dX6_obeysWord_137 fl6_19 rfl rfl ?_
      refine a_iload_n (pc := 140) ok dX6_obeysWord_140 rfl ?_
      refine a_iload_n (pc := 141) ok dX6_obeysWord_141 rfl ?_
      refine a_iload (pc := 142) ok dX6_obeysWord_142 rfl ?_
      refine a_callVi (pc := 144) ok [1, 2, 3, 4] dX6_obeysWord_144 mv6_131 miX4_trySetGrey (c_tP hS (hnm _) (hnm _) (hnm _)) ⟨by decide, by decide, rfl, rfl, Nat.zero_le _, Nat.zero_le _⟩ rfl rfl (Nat.le_of_ble_eq_true rfl) rfl (by decide) rfl rfl rfl ?_
      exact a_zret (pc := 147) ok dX6_obeysWord_147 (by first | rfl | exact nb_bz _ | exact @nb_bz _ (Classical.propDecidable _) | decide | exact nb_01 (by assumption)) (done gb rfl (zp (by omega)))
    · refine a_aload_n (pc := 234) ok dX6_obeysWord_234 rfl ?_
      refine a_getf (pc := 235) ok dX6_obeysWord_235 fl6_19 rfl rfl ?_
      refine a_callVi (pc := 238) ok [1, 2, 3, 4] dX6_obeysWord_238 mv6_153 miX4_invertGreys (c_invertGreys hd) ⟨by decide, by decide, rfl, rfl, Nat.zero_le _, Nat.zero_le _⟩ rfl rfl (Nat.le_of_ble_eq_true rfl) rfl (by decide) rfl rfl rfl ?_
      refine a_pop (pc := 241) ok dX6_obeysWord_241 rfl ?_
      refine a_iconst (pc := 242) ok dX6_obeysWord_242 ?_
      exact a_zret (pc := 243) ok dX6_obeysWord_243 (by first | rfl | exact nb_bz _ | exact @nb_bz _ (Classical.propDecidable _) | decide | exact nb_01 (by assumption)) (done gb rfl (zo (by omega)))
    · refine a_aload_n (pc := 234) ok dX6_obeysWord_234 rfl ?_
      refine a_getf (pc := 235) ok dX6_obeysWord_235 fl6_19 rfl rfl ?_
      refine a_callVi (pc := 238) ok [1, 2, 3, 4] dX6_obeysWord_238 mv6_153 miX4_invertGreys (c_invertGreys hd) ⟨by decide, by decide, rfl, rfl, Nat.zero_le _, Nat.zero_le _⟩ rfl rfl (Nat.le_of_ble_eq_true rfl) rfl (by decide) rfl rfl rfl ?_
      refine a_pop (pc := 241) ok dX6_obeysWord_241 rfl ?_
      refine a_iconst (pc := 242) ok dX6_obeysWord_242 ?_
      exact a_zret (pc := 243) ok dX6_obeysWord_243 (by first | rfl | exact nb_bz _ | exact @nb_bz _ (Classical.propDecidable _) | decide | exact nb_01 (by assumption)) (done gb rfl (zo (by omega)))
    · refine a_aload_n (pc := 211) ok dX6_obeysWord_211 rfl ?_
      refine a_getf (pc := 212) ok dX6_obeysWord_212 fl6_19 rfl rfl ?_
      refine a_iload_n (pc := 215) ok dX6_obeysWord_215 rfl ?_
      refine a_callVi (pc := 216) ok [1, 2, 3, 4] dX6_obeysWord_216 mv6_146 miX4_trySpread (c_tQ hS (hnm _)) ⟨by decide, by decide, rfl, rfl, Nat.zero_le _, Nat.zero_le _⟩ rfl rfl (Nat.le_of_ble_eq_true rfl) rfl (by decide) rfl rfl rfl ?_
      exact a_zret (pc := 219) ok dX6_obeysWord_219 (by first | rfl | exact nb_bz _ | exact @nb_bz _ (Classical.propDecidable _) | decide | exact nb_01 (by assumption)) (done gb rfl (zs (by omega)))
    · refine a_aload_n (pc := 182) ok dX6_obeysWord_182 rfl ?_
      refine a_getf (pc := 183) ok dX6_obeysWord_183 fl6_19 rfl rfl ?_
      refine a_iload_n (pc := 186) ok dX6_obeysWord_186 rfl ?_
      refine a_iconst (pc := 187) ok dX6_obeysWord_187 ?_
      refine a_callVi (pc := 188) ok [1, 2, 3, 4] dX6_obeysWord_188 mv6_139 miX4_tryChangeThreshold (c_tT hS (hnm _) (by unfold rg; omega)) ⟨by decide, by decide, rfl, rfl, Nat.zero_le _, Nat.zero_le _⟩ rfl rfl (Nat.le_of_ble_eq_true rfl) rfl (by decide) rfl rfl rfl ?_
      exact a_zret (pc := 191) ok dX6_obeysWord_191 (by first | rfl | exact nb_bz _ | exact @nb_bz _ (Classical.propDecidable _) | decide | exact nb_01 (by assumption)) (done gb rfl (zt (by omega)))
    · refine a_aload_n (pc := 220) ok dX6_obeysWord_220 rfl ?_
      refine a_getf (pc := 221) ok dX6_obeysWord_221 fl6_19 rfl rfl ?_
      refine a_aload_n (pc := 224) ok dX6_obeysWord_224 rfl ?_
      refine a_getf (pc := 225) ok dX6_obeysWord_225 fl6_72 rfl rfl ?_
      refine a_callVi (pc := 228) ok [1, 2, 3, 4, 5] dX6_obeysWord_228 mv6_149 miX4_blurGreys (c_blurGreys hd hS.2.1) ⟨by decide, by decide, rfl, rfl, Nat.zero_le _, Nat.zero_le _⟩ rfl rfl (Nat.le_of_ble_eq_true rfl) rfl (by decide) rfl rfl rfl ?_
      refine a_pop (pc := 231) ok dX6_obeysWord_231 rfl ?_
      refine a_iconst (pc := 232) ok dX6_obeysWord_232 ?_
      exact a_zret (pc := 233) ok dX6_obeysWord_233 (by first | rfl | exact nb_bz _ | exact @nb_bz _ (Classical.propDecidable _) | decide | exact nb_01 (by assumption)) (done (sG S) rfl (zu (by omega)))
  · refine a_aload_n (pc := 234) ok dX6_obeysWord_234 rfl ?_
    refine a_getf (pc := 235) ok dX6_obeysWord_235 fl6_19 rfl rfl ?_
    refine a_callVi (pc := 238) ok [1, 2, 3, 4] dX6_obeysWord_238 mv6_153 miX4_invertGreys (c_invertGreys hd) ⟨by decide, by decide, rfl, rfl, Nat.zero_le _, Nat.zero_le _⟩ rfl rfl (Nat.le_of_ble_eq_true rfl) rfl (by decide) rfl rfl rfl ?_
    refine a_pop (pc := 241) ok dX6_obeysWord_241 rfl ?_
    refine a_iconst (pc := 242) ok dX6_obeysWord_242 ?_
    exact a_zret (pc := 243) ok dX6_obeysWord_243 (by first | rfl | exact nb_bz _ | exact @nb_bz _ (Classical.propDecidable _) | decide | exact nb_01 (by assumption)) (done gb rfl (zo (by omega)))
theorem dX6_load_0 : decode cX6_load 0 = .ok (.aload_n 0, 1) := by decide +kernel
theorem dX6_load_1 : decode cX6_load 1 = .ok (.getfield 10, 3) := by decide +kernel
theorem dX6_load_4 : decode cX6_load 4 = .ok (.invokevirtual 99, 3) := by decide +kernel
theorem dX6_load_7 : decode cX6_load 7 = .ok (.iconst (-1), 1) := by decide +kernel
theorem dX6_load_8 : decode cX6_load 8 = .ok (.if_icmp .eq 13, 3) := by decide +kernel
theorem dX6_load_11 : decode cX6_load 11 = .ok (.new 84, 3) := by decide +kernel
theorem dX6_load_14 : decode cX6_load 14 = .ok (.dup, 1) := by decide +kernel
theorem dX6_load_15 : decode cX6_load 15 = .ok (.ldc 102, 2) := by decide +kernel
theorem dX6_load_17 : decode cX6_load 17 = .ok (.invokespecial 88, 3) := by decide +kernel
theorem dX6_load_20 : decode cX6_load 20 = .ok (.athrow, 1) := by decide +kernel
theorem dX6_load_21 : decode cX6_load 21 = .ok (.aload_n 0, 1) := by decide +kernel
theorem dX6_load_22 : decode cX6_load 22 = .ok (.getfield 26, 3) := by decide +kernel
theorem dX6_load_25 : decode cX6_load 25 = .ok (.invokevirtual 104, 3) := by decide +kernel
theorem dX6_load_28 : decode cX6_load 28 = .ok (.iconst 0, 1) := by decide +kernel
theorem dX6_load_29 : decode cX6_load 29 = .ok (.istore_n 1, 1) := by decide +kernel
theorem dX6_load_30 : decode cX6_load 30 = .ok (.iload_n 1, 1) := by decide +kernel
theorem dX6_load_31 : decode cX6_load 31 = .ok (.iconst 2, 1) := by decide +kernel
theorem dX6_load_32 : decode cX6_load 32 = .ok (.if_icmp .ge 16, 3) := by decide +kernel
theorem dX6_load_35 : decode cX6_load 35 = .ok (.aload_n 0, 1) := by decide +kernel
theorem dX6_load_36 : decode cX6_load 36 = .ok (.getfield 34, 3) := by decide +kernel
theorem dX6_load_39 : decode cX6_load 39 = .ok (.iload_n 1, 1) := by decide +kernel
theorem dX6_load_40 : decode cX6_load 40 = .ok (.iconst 0, 1) := by decide +kernel
theorem dX6_load_41 : decode cX6_load 41 = .ok (.bastore, 1) := by decide +kernel
theorem dX6_load_42 : decode cX6_load 42 = .ok (.iinc 1 1, 3) := by decide +kernel
theorem dX6_load_45 : decode cX6_load 45 = .ok (.goto (-15), 3) := by decide +kernel
theorem dX6_load_48 : decode cX6_load 48 = .ok (.aload_n 0, 1) := by decide +kernel
theorem dX6_load_49 : decode cX6_load 49 = .ok (.invokevirtual 107, 3) := by decide +kernel
theorem dX6_load_52 : decode cX6_load 52 = .ok (.aload_n 0, 1) := by decide +kernel
theorem dX6_load_53 : decode cX6_load 53 = .ok (.getfield 19, 3) := by decide +kernel
theorem dX6_load_56 : decode cX6_load 56 = .ok (.aload_n 0, 1) := by decide +kernel
theorem dX6_load_57 : decode cX6_load 57 = .ok (.getfield 10, 3) := by decide +kernel
theorem dX6_load_60 : decode cX6_load 60 = .ok (.iconst 1, 1) := by decide +kernel
theorem dX6_load_61 : decode cX6_load 61 = .ok (.invokevirtual 110, 3) := by decide +kernel
theorem dX6_load_64 : decode cX6_load 64 = .ok (.aload_n 0, 1) := by decide +kernel
theorem dX6_load_65 : decode cX6_load 65 = .ok (.getfield 10, 3) := by decide +kernel
theorem dX6_load_68 : decode cX6_load 68 = .ok (.iconst 3, 1) := by decide +kernel
theorem dX6_load_69 : decode cX6_load 69 = .ok (.invokevirtual 110, 3) := by decide +kernel
theorem dX6_load_72 : decode cX6_load 72 = .ok (.invokevirtual 113, 3) := by decide +kernel
theorem dX6_load_75 : decode cX6_load 75 = .ok (.iconst 0, 1) := by decide +kernel
theorem dX6_load_76 : decode cX6_load 76 = .ok (.istore_n 1, 1) := by decide +kernel
theorem dX6_load_77 : decode cX6_load 77 = .ok (.aload_n 0, 1) := by decide +kernel
theorem dX6_load_78 : decode cX6_load 78 = .ok (.getfield 10, 3) := by decide +kernel
theorem dX6_load_81 : decode cX6_load 81 = .ok (.iconst 0, 1) := by decide +kernel
theorem dX6_load_82 : decode cX6_load 82 = .ok (.invokevirtual 117, 3) := by decide +kernel
theorem dX6_load_85 : decode cX6_load 85 = .ok (.istore_n 2, 1) := by decide +kernel
theorem dX6_load_86 : decode cX6_load 86 = .ok (.iconst 0, 1) := by decide +kernel
theorem dX6_load_87 : decode cX6_load 87 = .ok (.istore_n 3, 1) := by decide +kernel
theorem dX6_load_88 : decode cX6_load 88 = .ok (.iload_n 3, 1) := by decide +kernel
theorem dX6_load_89 : decode cX6_load 89 = .ok (.bipush 120, 2) := by decide +kernel
theorem dX6_load_91 : decode cX6_load 91 = .ok (.if_icmp .ge 40, 3) := by decide +kernel
theorem dX6_load_94 : decode cX6_load 94 = .ok (.iload_n 2, 1) := by decide +kernel
theorem dX6_load_95 : decode cX6_load 95 = .ok (.aload_n 0, 1) := by decide +kernel
theorem dX6_load_96 : decode cX6_load 96 = .ok (.getfield 10, 3) := by decide +kernel
theorem dX6_load_99 : decode cX6_load 99 = .ok (.getfield 120, 3) := by decide +kernel
theorem dX6_load_102 : decode cX6_load 102 = .ok (.if_icmp .ge 29, 3) := by decide +kernel
theorem dX6_load_105 : decode cX6_load 105 = .ok (.aload_n 0, 1) := by decide +kernel
theorem dX6_load_106 : decode cX6_load 106 = .ok (.iload_n 2, 1) := by decide +kernel
theorem dX6_load_107 : decode cX6_load 107 = .ok (.invokevirtual 124, 3) := by decide +kernel
theorem dX6_load_110 : decode cX6_load 110 = .ok (.ifCond .ne 6, 3) := by decide +kernel
theorem dX6_load_113 : decode cX6_load 113 = .ok (.iinc 1 1, 3) := by decide +kernel
theorem dX6_load_116 : decode cX6_load 116 = .ok (.aload_n 0, 1) := by decide +kernel
theorem dX6_load_117 : decode cX6_load 117 = .ok (.getfield 10, 3) := by decide +kernel
theorem dX6_load_120 : decode cX6_load 120 = .ok (.iload_n 2, 1) := by decide +kernel
theorem dX6_load_121 : decode cX6_load 121 = .ok (.invokevirtual 117, 3) := by decide +kernel
theorem dX6_load_124 : decode cX6_load 124 = .ok (.istore_n 2, 1) := by decide +kernel
theorem dX6_load_125 : decode cX6_load 125 = .ok (.iinc 3 1, 3) := by decide +kernel
theorem dX6_load_128 : decode cX6_load 128 = .ok (.goto (-40), 3) := by decide +kernel
theorem dX6_load_131 : decode cX6_load 131 = .ok (.iload_n 1, 1) := by decide +kernel
theorem dX6_load_132 : decode cX6_load 132 = .ok (.ireturn, 1) := by decide +kernel
set_option maxRecDepth 100000 in
theorem c_load (hS : SV S) (hn : 0 ≤ sz ∧ sz ≤ 120) (ht : ∀ j, 0 ≤ tx j ∧ tx j ≤ 255) (he : eP tx sz = -1) : Ct l yX6_load cX6_load 4 (some .int) rmX6_load [.ref 0] (clL kn nk S gb sz tx sv cnt nx)
    (fun z M => z = some (iv (xT tx sz (sT S)).2) ∧ ∃ gb' : Int → Int, M = (clL (0) (0) ((xT tx sz (sT S)).1) (gb') sz tx (up (up sv 0 0) 1 0) (0) nx)) := by
  refine Ct.of miX6_load (Nat.le_of_ble_eq_true rfl) ?_
  intro X hXl hN ok
  refine AW.cast (L2 := [some (.ref 0), none, none, none]) ?_ rfl rfl rfl
  obtain ⟨hdm, hw1⟩ := eP_dim hn he
  have ef : ∀ l : Launch, Cd l yX5_firstError cX5_firstError 4 (some .int) rmX5_firstError [.ref 0] (txM sz tx) (some (iv (-1))) (txM sz tx) := fun l => by have := c_firstError (l := l) hn ht; rw [he] at this; exact this
  have loop : ∀ q : Nat × St × (Int → Int) × Int, (q.1 ≤ 120 ∧ (0 < q.1 → wS tx sz q.1 < sz) ∧ SV q.2.1 ∧ xT tx sz (sT S) = xF tx sz (120 - q.1) (q.1 + 1) (q.2.1, q.2.2.2)) →
      AW X 0 0 88 [some (.ref 0), some (iv q.2.2.2), some (iv (wS tx sz (q.1 + 1))), some (iv q.1)] [] (clL (0) (0) (q.2.1) (q.2.2.1) sz tx (up (up sv 0 0) 1 0) (0) nx) := by
    refine wfl (fun q : Nat × St × (Int → Int) × Int => 121 - q.1) _ _ ?_
    rintro ⟨k, P, gb, ou⟩ ⟨q1, q2, q3, q4⟩ ih
    dsimp only at q1 q2 q3 q4 ih ⊢
    obtain ⟨w, hw⟩ : ∃ w, w = wS tx sz (k + 1) := ⟨_, rfl⟩
    have hwr : 0 ≤ w ∧ w ≤ 140 := by
      have a := wS_rg tx sz k
      have b := (wS_rg tx sz (k + 1)).1
      rcases (show k = 0 ∨ 0 < k by omega) with z | z
      · subst z; rw [hw, hw1]; omega
      · have := q2 z; omega
    have hwE : wE tx sz w = wS tx sz (k + 1 + 1) := by rw [hw]; rfl
    rw [← hw]
    by_cases h120 : k = 120
    · subst h120
      have e : xT tx sz (sT S) = (P, ou) := q4
      rw [e] at ok
      refine a_iload_n (pc := 88) ok dX6_load_88 rfl ?_
      refine a_bipush (pc := 89) ok dX6_load_89 (by decide) ?_
      refine a_icmp_ge (pc := 91) (tgt := 131) ok dX6_load_91 (by decide) (by first | omega | (unfold rg; omega) | (simp only [rg] at *; omega) | exact bz_rg _ | grind [rg]) (by first | omega | (unfold rg; omega) | (simp only [rg] at *; omega) | exact bz_rg _ | grind [rg]) (fun c91 => ?_) (fun c91 => ?_)
      · refine a_iload_n (pc := 131) ok dX6_load_131 rfl ?_
        exact a_iret (pc := 132) ok dX6_load_132 (⟨rfl, gb, rfl⟩)
      · omega
    · have xk : xF tx sz (120 - k) (k + 1) (P, ou) = if sz ≤ w then (P, ou) else xF tx sz (120 - (k + 1)) (k + 1 + 1) (exW tx sz w P, ou + (1 - okZ tx sz w P)) := by
        rw [show 120 - k = (120 - (k + 1)) + 1 by omega, hw]; rfl
      rw [xk] at q4
      by_cases hws : sz ≤ w
      · rw [if_pos hws] at q4
        rw [q4] at ok
        refine a_iload_n (pc := 88) ok dX6_load_88 rfl ?_
        refine a_bipush (pc := 89) ok dX6_load_89 (by decide) ?_
        refine a_icmp_ge (pc := 91) (tgt := 131) ok dX6_load_91 (by decide) (by first | omega | (unfold rg; omega) | (simp only [rg] at *; omega) | exact bz_rg _ | grind [rg]) (by first | omega | (unfold rg; omega) | (simp only [rg] at *; omega) | exact bz_rg _ | grind [rg]) (fun c91 => ?_) (fun c91 => ?_)
        · omega
        · refine a_iload_n (pc := 94) ok dX6_load_94 rfl ?_
          refine a_aload_n (pc := 95) ok dX6_load_95 rfl ?_
          refine a_getf (pc := 96) ok dX6_load_96 fl6_10 rfl rfl ?_
          refine a_getf (pc := 99) ok dX6_load_99 fl6_120 rfl rfl ?_
          refine a_icmp_ge (pc := 102) (tgt := 131) ok dX6_load_102 (by decide) (by first | omega | (unfold rg; omega) | (simp only [rg] at *; omega) | exact bz_rg _ | grind [rg]) (by first | omega | (unfold rg; omega) | (simp only [rg] at *; omega) | exact bz_rg _ | grind [rg]) (fun c102 => ?_) (fun c102 => ?_)
          · refine a_iload_n (pc := 131) ok dX6_load_131 rfl ?_
            exact a_iret (pc := 132) ok dX6_load_132 (⟨rfl, gb, rfl⟩)
          · omega
      · rw [if_neg hws] at q4
        have h01 := okZ_01 (t := tx) (n := sz) (p := w) (S := P)
        have s116 : ∀ (gb : Int → Int) (ou2 : Int), ou2 = ou + (1 - okZ tx sz w P) → AW X 0 0 116 [some (.ref 0), some (iv ou2), some (iv w), some (iv k)] [] (clL (0) (0) (exW tx sz w P) gb sz tx (up (up sv 0 0) 1 0) (0) nx) := by
          intro gb ou2 ho
          refine a_aload_n (pc := 116) ok dX6_load_116 rfl ?_
          refine a_getf (pc := 117) ok dX6_load_117 fl6_10 rfl rfl ?_
          refine a_iload_n (pc := 120) ok dX6_load_120 rfl ?_
          refine a_callVp (pc := 121) ok [6, 7] dX6_load_121 mv6_117 miX5_wordEnd (c_wordEnd hn ht (by omega)) ⟨by decide, by decide, rfl, rfl, Nat.zero_le _, Nat.zero_le _⟩ rfl rfl (Nat.le_of_ble_eq_true rfl) rfl (by decide) rfl rfl ?_
          refine a_istore_n (pc := 124) ok dX6_load_124 rfl (by rw [hN]; decide) ?_
          refine a_iinc (pc := 125) ok dX6_load_125 rfl rfl (by rw [hN]; decide) ?_
          refine a_goto (pc := 128) (tgt := 88) ok dX6_load_128 (by decide) ?_
          exact AW.cast (ih (k + 1, exW tx sz w P, gb, ou2) ⟨by dsimp only; omega, fun _ => by dsimp only; omega, SV_exW q3, by dsimp only; rw [ho]; exact q4⟩ (by dsimp only; omega)) (by rw [hwE]; rfl) rfl rfl
        refine a_iload_n (pc := 88) ok dX6_load_88 rfl ?_
        refine a_bipush (pc := 89) ok dX6_load_89 (by decide) ?_
        refine a_icmp_ge (pc := 91) (tgt := 131) ok dX6_load_91 (by decide) (by first | omega | (unfold rg; omega) | (simp only [rg] at *; omega) | exact bz_rg _ | grind [rg]) (by first | omega | (unfold rg; omega) | (simp only [rg] at *; omega) | exact bz_rg _ | grind [rg]) (fun c91 => ?_) (fun c91 => ?_)
        · omega
        · refine a_iload_n (pc := 94) ok dX6_load_94 rfl ?_
          refine a_aload_n (pc := 95) ok dX6_load_95 rfl ?_
          refine a_getf (pc := 96) ok dX6_load_96 fl6_10 rfl rfl ?_
          refine a_getf (pc := 99) ok dX6_load_99 fl6_120 rfl rfl ?_
          refine a_icmp_ge (pc := 102) (tgt := 131) ok dX6_load_102 (by decide) (by first | omega | (unfold rg; omega) | (simp only [rg] at *; omega) | exact bz_rg _ | grind [rg]) (by first | omega | (unfold rg; omega) | (simp only [rg] at *; omega) | exact bz_rg _ | grind [rg]) (fun c102 => ?_) (fun c102 => ?_)
          · omega
          · refine a_aload_n (pc := 105) ok dX6_load_105 rfl ?_
            refine a_iload_n (pc := 106) ok dX6_load_106 rfl ?_
            refine x_callV (pc := 107) ok [0, 1, 2, 3, 4, 5, 6, 7, 8, 9, 10, 11, 12, 13, 14, 15] 8 dX6_load_107 mv6_124 miX6_obeysWord (c_obeysWord (p := w) q3 hn ht (by omega)) ⟨by decide, by decide, rfl, rfl, Nat.zero_le _, Nat.zero_le _⟩ rfl rfl (Nat.le_of_ble_eq_true rfl) rfl rfl (by decide) rfl rfl (fun v M' h => by obtain ⟨_, _, h⟩ := h; rw [h]; rfl) ?_
            rintro _ M' ⟨rfl, gb', rfl⟩
            refine AW.cast (st2 := [iv (okZ tx sz w P)]) (M2 := (clL (0) (0) (exW tx sz w P) (gb') sz tx (up (up sv 0 0) 1 0) (0) nx)) ?_ rfl rfl rfl
            refine a_if_ne (pc := 110) (tgt := 116) ok dX6_load_110 (by decide) (by unfold rg; omega) (fun c110 => ?_) (fun c110 => ?_)
            · exact s116 gb' ou (by omega)
            · refine a_iinc (pc := 113) ok dX6_load_113 rfl rfl (by rw [hN]; decide) ?_
              exact s116 gb' (ou + 1) (by omega)
  have t2 : AW X 0 0 30 [some (.ref 0), some (iv 2), none, none] [] (clL kn nk S gb sz tx (up (up sv 0 0) 1 0) (0) nx) := by
    refine a_iload_n (pc := 30) ok dX6_load_30 rfl ?_
    refine a_iconst (pc := 31) ok dX6_load_31 ?_
    refine a_icmp_ge (pc := 32) (tgt := 48) ok dX6_load_32 (by decide) (by first | omega | (unfold rg; omega) | (simp only [rg] at *; omega) | exact bz_rg _ | grind [rg]) (by first | omega | (unfold rg; omega) | (simp only [rg] at *; omega) | exact bz_rg _ | grind [rg]) (fun c32 => ?_) (fun c32 => ?_)
    · refine a_aload_n (pc := 48) ok dX6_load_48 rfl ?_
      refine x_callVv (pc := 49) ok [0, 6, 1, 9, 10, 8, 11, 12, 13, 14, 15, 5] 1 dX6_load_49 mv6_107 miX6_forgetFindings (c_forgetFindings) ⟨by decide, by decide, rfl, rfl, Nat.zero_le _, Nat.zero_le _⟩ rfl rfl (Nat.le_of_ble_eq_true rfl) rfl rfl (by decide) rfl rfl rfl ?_
      refine AW.cast (M2 := (clL (0) (0) S gb sz tx (up (up sv 0 0) 1 0) (0) nx)) ?_ rfl rfl rfl
      refine a_aload_n (pc := 52) ok dX6_load_52 rfl ?_
      refine a_getf (pc := 53) ok dX6_load_53 fl6_19 rfl rfl ?_
      refine a_aload_n (pc := 56) ok dX6_load_56 rfl ?_
      refine a_getf (pc := 57) ok dX6_load_57 fl6_10 rfl rfl ?_
      refine a_iconst (pc := 60) ok dX6_load_60 ?_
      refine a_callVp (pc := 61) ok [6, 7] dX6_load_61 mv6_110 miX5_numberAt (c_numberAt hn (by omega)) ⟨by decide, by decide, rfl, rfl, Nat.zero_le _, Nat.zero_le _⟩ rfl rfl (Nat.le_of_ble_eq_true rfl) rfl (by decide) rfl rfl ?_
      refine a_aload_n (pc := 64) ok dX6_load_64 rfl ?_
      refine a_getf (pc := 65) ok dX6_load_65 fl6_10 rfl rfl ?_
      refine a_iconst (pc := 68) ok dX6_load_68 ?_
      refine a_callVp (pc := 69) ok [6, 7] dX6_load_69 mv6_110 miX5_numberAt (c_numberAt hn (by omega)) ⟨by decide, by decide, rfl, rfl, Nat.zero_le _, Nat.zero_le _⟩ rfl rfl (Nat.le_of_ble_eq_true rfl) rfl (by decide) rfl rfl ?_
      refine a_callVv (pc := 72) ok [1, 2, 3, 4] dX6_load_72 mv6_113 miX4_reset (c_reset) ⟨by decide, by decide, rfl, rfl, Nat.zero_le _, Nat.zero_le _⟩ rfl rfl (Nat.le_of_ble_eq_true rfl) rfl (by decide) rfl rfl rfl ?_
      refine AW.cast (M2 := (clL (0) (0) (st0 (sT S) (nmA tx sz 1) (nmA tx sz 3)) gb sz tx (up (up sv 0 0) 1 0) (0) nx)) ?_ rfl rfl rfl
      refine a_iconst (pc := 75) ok dX6_load_75 ?_
      refine a_istore_n (pc := 76) ok dX6_load_76 rfl (by rw [hN]; decide) ?_
      refine a_aload_n (pc := 77) ok dX6_load_77 rfl ?_
      refine a_getf (pc := 78) ok dX6_load_78 fl6_10 rfl rfl ?_
      refine a_iconst (pc := 81) ok dX6_load_81 ?_
      refine a_callVp (pc := 82) ok [6, 7] dX6_load_82 mv6_117 miX5_wordEnd (c_wordEnd hn ht (by omega)) ⟨by decide, by decide, rfl, rfl, Nat.zero_le _, Nat.zero_le _⟩ rfl rfl (Nat.le_of_ble_eq_true rfl) rfl (by decide) rfl rfl ?_
      refine a_istore_n (pc := 85) ok dX6_load_85 rfl (by rw [hN]; decide) ?_
      refine a_iconst (pc := 86) ok dX6_load_86 ?_
      refine a_istore_n (pc := 87) ok dX6_load_87 rfl (by rw [hN]; decide) ?_
      exact AW.cast (loop (0, st0 (sT S) (nmA tx sz 1) (nmA tx sz 3), gb, 0) ⟨by dsimp only; omega, fun z => absurd z (by dsimp only; omega), SV_st0 hS.2.2.1 hdm, rfl⟩) rfl rfl rfl
    · omega
  have t1 : AW X 0 0 30 [some (.ref 0), some (iv 1), none, none] [] (clL kn nk S gb sz tx (up sv 0 0) (0) nx) := by
    refine a_iload_n (pc := 30) ok dX6_load_30 rfl ?_
    refine a_iconst (pc := 31) ok dX6_load_31 ?_
    refine a_icmp_ge (pc := 32) (tgt := 48) ok dX6_load_32 (by decide) (by first | omega | (unfold rg; omega) | (simp only [rg] at *; omega) | exact bz_rg _ | grind [rg]) (by first | omega | (unfold rg; omega) | (simp only [rg] at *; omega) | exact bz_rg _ | grind [rg]) (fun c32 => ?_) (fun c32 => ?_)
    · omega
    · refine a_aload_n (pc := 35) ok dX6_load_35 rfl ?_
      refine a_getf (pc := 36) ok dX6_load_36 fl6_34 rfl rfl ?_
      refine a_iload_n (pc := 39) ok dX6_load_39 rfl ?_
      refine a_iconst (pc := 40) ok dX6_load_40 ?_
      refine a_zast (pc := 41) ok dX6_load_41 rfl (by decide) (by first | omega | (unfold rg; omega) | (simp only [rg] at *; omega) | exact bz_rg _ | grind [rg]) (by decide) ?_
      refine a_iinc (pc := 42) ok dX6_load_42 rfl rfl (by rw [hN]; decide) ?_
      refine a_goto (pc := 45) (tgt := 30) ok dX6_load_45 (by decide) ?_
      exact AW.cast t2 rfl rfl rfl
  have t0 : AW X 0 0 30 [some (.ref 0), some (iv 0), none, none] [] (clL kn nk S gb sz tx sv (0) nx) := by
    refine a_iload_n (pc := 30) ok dX6_load_30 rfl ?_
    refine a_iconst (pc := 31) ok dX6_load_31 ?_
    refine a_icmp_ge (pc := 32) (tgt := 48) ok dX6_load_32 (by decide) (by first | omega | (unfold rg; omega) | (simp only [rg] at *; omega) | exact bz_rg _ | grind [rg]) (by first | omega | (unfold rg; omega) | (simp only [rg] at *; omega) | exact bz_rg _ | grind [rg]) (fun c32 => ?_) (fun c32 => ?_)
    · omega
    · refine a_aload_n (pc := 35) ok dX6_load_35 rfl ?_
      refine a_getf (pc := 36) ok dX6_load_36 fl6_34 rfl rfl ?_
      refine a_iload_n (pc := 39) ok dX6_load_39 rfl ?_
      refine a_iconst (pc := 40) ok dX6_load_40 ?_
      refine a_zast (pc := 41) ok dX6_load_41 rfl (by decide) (by first | omega | (unfold rg; omega) | (simp only [rg] at *; omega) | exact bz_rg _ | grind [rg]) (by decide) ?_
      refine a_iinc (pc := 42) ok dX6_load_42 rfl rfl (by rw [hN]; decide) ?_
      refine a_goto (pc := 45) (tgt := 30) ok dX6_load_45 (by decide) ?_
      exact AW.cast t1 rfl rfl rfl
  refine a_aload_n (pc := 0) ok dX6_load_0 rfl ?_
  refine a_getf (pc := 1) ok dX6_load_1 fl6_10 rfl rfl ?_
  refine a_callVp (pc := 4) ok [6, 7] dX6_load_4 mv6_99 miX5_firstError (ef _) ⟨by decide, by decide, rfl, rfl, Nat.zero_le _, Nat.zero_le _⟩ rfl rfl (Nat.le_of_ble_eq_true rfl) rfl (by decide) rfl rfl ?_
  refine a_iconst (pc := 7) ok dX6_load_7 ?_
  refine a_icmp_eq (pc := 8) (tgt := 21) ok dX6_load_8 (by decide) (by first | omega | (unfold rg; omega) | (simp only [rg] at *; omega) | exact bz_rg _ | grind [rg]) (by first | omega | (unfold rg; omega) | (simp only [rg] at *; omega) | exact bz_rg _ | grind [rg]) (fun c8 => ?_) (fun c8 => ?_)
  · refine a_aload_n (pc := 21) ok dX6_load_21 rfl ?_
    refine a_getf (pc := 22) ok dX6_load_22 fl6_26 rfl rfl ?_
    refine x_callVv (pc := 25) ok [9, 16] 1 dX6_load_25 mv6_104 miX1_forgetAll (c_forgetAll) ⟨by decide, by decide, rfl, rfl, Nat.zero_le _, Nat.zero_le _⟩ rfl rfl (Nat.le_of_ble_eq_true rfl) rfl rfl (by decide) rfl rfl rfl ?_
    refine AW.cast (M2 := (clL kn nk S gb sz tx sv (0) nx)) ?_ rfl rfl rfl
    refine a_iconst (pc := 28) ok dX6_load_28 ?_
    refine a_istore_n (pc := 29) ok dX6_load_29 rfl (by rw [hN]; decide) ?_
    exact t0
  · omega
/-- the object: text 16, state 1, memory 15, slots 5, saved 14, islands 17, nest 18, trial 19, its islands 20, contour 21, greys before 22 -/
abbrev obS (kn nk : Int) : va_E := ob 6 [.ref 16, .ref 1, .ref 15, .ref 5, .ref 14, .ref 17, .ref 18, iv kn, iv nk, .ref 19, .ref 20, .ref 21, .ref 22]
def slotP (p : Nat) : Nat → Option Nat := fun i => if i < 2 then some (p + 4 * i) else none
theorem slot_eq (p q : Nat) (π : List Nat) (h : ∀ i : Nat, i < 2 → rn π (p + 4 * i) = q + 4 * i) : (fun i => (slotP p i).map (rn π)) = slotP q := by
  funext i
  unfold slotP
  by_cases hi : i < 2
  · rw [if_pos hi, if_pos hi, Option.map_some, h i hi]
  · rw [if_neg hi, if_neg hi]; rfl
abbrev clS (Rs : Nat → Option Nat) (kn nk : Int) (S P0 P1 : St) (sv : Int → Int) (cnt nx : Int) : List va_E := obS kn nk :: (stS 1 S ++ (qa 2 Rs :: (stS 6 P0 ++ (stS 10 P1 ++ [za 2 sv, ob 1 [.ref 23, iv cnt, iv nx]]))))
theorem dX6_save_0 : decode cX6_save 0 = .ok (.iload_n 1, 1) := by decide +kernel
theorem dX6_save_1 : decode cX6_save 1 = .ok (.iconst 0, 1) := by decide +kernel
theorem dX6_save_2 : decode cX6_save 2 = .ok (.iconst 1, 1) := by decide +kernel
theorem dX6_save_3 : decode cX6_save 3 = .ok (.invokestatic 330, 3) := by decide +kernel
theorem dX6_save_6 : decode cX6_save 6 = .ok (.invokestatic 203, 3) := by decide +kernel
theorem dX6_save_9 : decode cX6_save 9 = .ok (.aload_n 0, 1) := by decide +kernel
theorem dX6_save_10 : decode cX6_save 10 = .ok (.getfield 30, 3) := by decide +kernel
theorem dX6_save_13 : decode cX6_save 13 = .ok (.iload_n 1, 1) := by decide +kernel
theorem dX6_save_14 : decode cX6_save 14 = .ok (.aaload, 1) := by decide +kernel
theorem dX6_save_15 : decode cX6_save 15 = .ok (.aload_n 0, 1) := by decide +kernel
theorem dX6_save_16 : decode cX6_save 16 = .ok (.getfield 19, 3) := by decide +kernel
theorem dX6_save_19 : decode cX6_save 19 = .ok (.invokevirtual 354, 3) := by decide +kernel
theorem dX6_save_22 : decode cX6_save 22 = .ok (.aload_n 0, 1) := by decide +kernel
theorem dX6_save_23 : decode cX6_save 23 = .ok (.getfield 34, 3) := by decide +kernel
theorem dX6_save_26 : decode cX6_save 26 = .ok (.iload_n 1, 1) := by decide +kernel
theorem dX6_save_27 : decode cX6_save 27 = .ok (.iconst 1, 1) := by decide +kernel
theorem dX6_save_28 : decode cX6_save 28 = .ok (.bastore, 1) := by decide +kernel
theorem dX6_save_29 : decode cX6_save 29 = .ok (.aload_n 0, 1) := by decide +kernel
theorem dX6_save_30 : decode cX6_save 30 = .ok (.getfield 19, 3) := by decide +kernel
theorem dX6_save_33 : decode cX6_save 33 = .ok (.invokevirtual 196, 3) := by decide +kernel
theorem dX6_save_36 : decode cX6_save 36 = .ok (.ireturn, 1) := by decide +kernel
theorem c_save {v : Int} (hS : SV S) (h : kIn v 0 1 = 0) (hv : rg v) : Cd l yX6_save cX6_save 2 (some .int) rmX6_save [.ref 0, iv v] (clS (slotP 6) kn nk S P0 P1 sv cnt nx) (some (iv (sumK (sG S) (sC S * sR S).toNat))) (clS (slotP 6) kn nk S (if v = 0 then S else P0) (if v = 0 then P1 else S) (up sv v 1) cnt nx) := by
  have hd := hS.1
  rcases (show v = 0 ∨ v = 1 by have := kIn_0 h; omega) with e | e
  · subst e
    rw [if_pos rfl, if_pos rfl]
    refine Ct.of miX6_save (Nat.le_of_ble_eq_true rfl) ?_
    intro X hXl hN ok
    refine AW.cast (L2 := [some (.ref 0), some (iv 0)]) ?_ rfl rfl rfl
    refine a_iload_n (pc := 0) ok dX6_save_0 rfl ?_
    refine a_iconst (pc := 1) ok dX6_save_1 ?_
    refine a_iconst (pc := 2) ok dX6_save_2 ?_
    refine a_callSp (pc := 3) ok [] dX6_save_3 mv6_330 miX6_isWithin (c_isWithin hv (by unfold rg; omega) (by unfold rg; omega)) ⟨by decide, by decide, rfl, rfl, Nat.zero_le _, Nat.zero_le _⟩ rfl rfl (Nat.le_of_ble_eq_true rfl) rfl (by decide) ?_
    refine a_callSv (pc := 6) ok [] dX6_save_6 mv6_203 miX6_mustExist (c_mustExist (bz_pos (by omega))) ⟨by decide, by decide, rfl, rfl, Nat.zero_le _, Nat.zero_le _⟩ rfl rfl (Nat.le_of_ble_eq_true rfl) rfl (by decide) rfl ?_
    refine a_aload_n (pc := 9) ok dX6_save_9 rfl ?_
    refine a_getf (pc := 10) ok dX6_save_10 fl6_30 rfl rfl ?_
    refine a_iload_n (pc := 13) ok dX6_save_13 rfl ?_
    refine a_aald (pc := 14) ok dX6_save_14 rfl (by decide) (by first | omega | (unfold rg; omega) | (simp only [rg] at *; omega) | exact bz_rg _ | grind [rg]) rfl ?_
    refine a_aload_n (pc := 15) ok dX6_save_15 rfl ?_
    refine a_getf (pc := 16) ok dX6_save_16 fl6_19 rfl rfl ?_
    refine a_callVv (pc := 19) ok [6, 7, 8, 9, 1, 2, 3, 4] dX6_save_19 mv6_354 miX4_copyFrom (c_copyFrom) ⟨by decide, by decide, rfl, rfl, Nat.zero_le _, Nat.zero_le _⟩ rfl rfl (Nat.le_of_ble_eq_true rfl) rfl (by decide) rfl rfl rfl ?_
    refine a_aload_n (pc := 22) ok dX6_save_22 rfl ?_
    refine a_getf (pc := 23) ok dX6_save_23 fl6_34 rfl rfl ?_
    refine a_iload_n (pc := 26) ok dX6_save_26 rfl ?_
    refine a_iconst (pc := 27) ok dX6_save_27 ?_
    refine a_zast (pc := 28) ok dX6_save_28 rfl (by decide) (by first | omega | (unfold rg; omega) | (simp only [rg] at *; omega) | exact bz_rg _ | grind [rg]) (by decide) ?_
    refine a_aload_n (pc := 29) ok dX6_save_29 rfl ?_
    refine a_getf (pc := 30) ok dX6_save_30 fl6_19 rfl rfl ?_
    refine a_callVp (pc := 33) ok [1, 2, 3, 4] dX6_save_33 mv6_196 miX4_sumOfGreys (c_sumOfGreys hd) ⟨by decide, by decide, rfl, rfl, Nat.zero_le _, Nat.zero_le _⟩ rfl rfl (Nat.le_of_ble_eq_true rfl) rfl (by decide) rfl rfl ?_
    exact a_iret (pc := 36) ok dX6_save_36 (⟨rfl, rfl⟩)
  · subst e
    rw [if_neg (by omega), if_neg (by omega)]
    refine Ct.of miX6_save (Nat.le_of_ble_eq_true rfl) ?_
    intro X hXl hN ok
    refine AW.cast (L2 := [some (.ref 0), some (iv 1)]) ?_ rfl rfl rfl
    refine a_iload_n (pc := 0) ok dX6_save_0 rfl ?_
    refine a_iconst (pc := 1) ok dX6_save_1 ?_
    refine a_iconst (pc := 2) ok dX6_save_2 ?_
    refine a_callSp (pc := 3) ok [] dX6_save_3 mv6_330 miX6_isWithin (c_isWithin hv (by unfold rg; omega) (by unfold rg; omega)) ⟨by decide, by decide, rfl, rfl, Nat.zero_le _, Nat.zero_le _⟩ rfl rfl (Nat.le_of_ble_eq_true rfl) rfl (by decide) ?_
    refine a_callSv (pc := 6) ok [] dX6_save_6 mv6_203 miX6_mustExist (c_mustExist (bz_pos (by omega))) ⟨by decide, by decide, rfl, rfl, Nat.zero_le _, Nat.zero_le _⟩ rfl rfl (Nat.le_of_ble_eq_true rfl) rfl (by decide) rfl ?_
    refine a_aload_n (pc := 9) ok dX6_save_9 rfl ?_
    refine a_getf (pc := 10) ok dX6_save_10 fl6_30 rfl rfl ?_
    refine a_iload_n (pc := 13) ok dX6_save_13 rfl ?_
    refine a_aald (pc := 14) ok dX6_save_14 rfl (by decide) (by first | omega | (unfold rg; omega) | (simp only [rg] at *; omega) | exact bz_rg _ | grind [rg]) rfl ?_
    refine a_aload_n (pc := 15) ok dX6_save_15 rfl ?_
    refine a_getf (pc := 16) ok dX6_save_16 fl6_19 rfl rfl ?_
    refine a_callVv (pc := 19) ok [10, 11, 12, 13, 1, 2, 3, 4] dX6_save_19 mv6_354 miX4_copyFrom (c_copyFrom) ⟨by decide, by decide, rfl, rfl, Nat.zero_le _, Nat.zero_le _⟩ rfl rfl (Nat.le_of_ble_eq_true rfl) rfl (by decide) rfl rfl rfl ?_
    refine a_aload_n (pc := 22) ok dX6_save_22 rfl ?_
    refine a_getf (pc := 23) ok dX6_save_23 fl6_34 rfl rfl ?_
    refine a_iload_n (pc := 26) ok dX6_save_26 rfl ?_
    refine a_iconst (pc := 27) ok dX6_save_27 ?_
    refine a_zast (pc := 28) ok dX6_save_28 rfl (by decide) (by first | omega | (unfold rg; omega) | (simp only [rg] at *; omega) | exact bz_rg _ | grind [rg]) (by decide) ?_
    refine a_aload_n (pc := 29) ok dX6_save_29 rfl ?_
    refine a_getf (pc := 30) ok dX6_save_30 fl6_19 rfl rfl ?_
    refine a_callVp (pc := 33) ok [1, 2, 3, 4] dX6_save_33 mv6_196 miX4_sumOfGreys (c_sumOfGreys hd) ⟨by decide, by decide, rfl, rfl, Nat.zero_le _, Nat.zero_le _⟩ rfl rfl (Nat.le_of_ble_eq_true rfl) rfl (by decide) rfl rfl ?_
    exact a_iret (pc := 36) ok dX6_save_36 (⟨rfl, rfl⟩)
theorem dX6_restore_0 : decode cX6_restore 0 = .ok (.iload_n 1, 1) := by decide +kernel
theorem dX6_restore_1 : decode cX6_restore 1 = .ok (.iconst 0, 1) := by decide +kernel
theorem dX6_restore_2 : decode cX6_restore 2 = .ok (.iconst 1, 1) := by decide +kernel
theorem dX6_restore_3 : decode cX6_restore 3 = .ok (.invokestatic 330, 3) := by decide +kernel
theorem dX6_restore_6 : decode cX6_restore 6 = .ok (.invokestatic 203, 3) := by decide +kernel
theorem dX6_restore_9 : decode cX6_restore 9 = .ok (.aload_n 0, 1) := by decide +kernel
theorem dX6_restore_10 : decode cX6_restore 10 = .ok (.getfield 34, 3) := by decide +kernel
theorem dX6_restore_13 : decode cX6_restore 13 = .ok (.iload_n 1, 1) := by decide +kernel
theorem dX6_restore_14 : decode cX6_restore 14 = .ok (.baload, 1) := by decide +kernel
theorem dX6_restore_15 : decode cX6_restore 15 = .ok (.ifCond .ne 14, 3) := by decide +kernel
theorem dX6_restore_18 : decode cX6_restore 18 = .ok (.new 84, 3) := by decide +kernel
theorem dX6_restore_21 : decode cX6_restore 21 = .ok (.dup, 1) := by decide +kernel
theorem dX6_restore_22 : decode cX6_restore 22 = .ok (.ldc_w 393, 3) := by decide +kernel
theorem dX6_restore_25 : decode cX6_restore 25 = .ok (.invokespecial 88, 3) := by decide +kernel
theorem dX6_restore_28 : decode cX6_restore 28 = .ok (.athrow, 1) := by decide +kernel
theorem dX6_restore_29 : decode cX6_restore 29 = .ok (.aload_n 0, 1) := by decide +kernel
theorem dX6_restore_30 : decode cX6_restore 30 = .ok (.getfield 26, 3) := by decide +kernel
theorem dX6_restore_33 : decode cX6_restore 33 = .ok (.invokevirtual 104, 3) := by decide +kernel
theorem dX6_restore_36 : decode cX6_restore 36 = .ok (.aload_n 0, 1) := by decide +kernel
theorem dX6_restore_37 : decode cX6_restore 37 = .ok (.invokevirtual 107, 3) := by decide +kernel
theorem dX6_restore_40 : decode cX6_restore 40 = .ok (.aload_n 0, 1) := by decide +kernel
theorem dX6_restore_41 : decode cX6_restore 41 = .ok (.getfield 19, 3) := by decide +kernel
theorem dX6_restore_44 : decode cX6_restore 44 = .ok (.aload_n 0, 1) := by decide +kernel
theorem dX6_restore_45 : decode cX6_restore 45 = .ok (.getfield 30, 3) := by decide +kernel
theorem dX6_restore_48 : decode cX6_restore 48 = .ok (.iload_n 1, 1) := by decide +kernel
theorem dX6_restore_49 : decode cX6_restore 49 = .ok (.aaload, 1) := by decide +kernel
theorem dX6_restore_50 : decode cX6_restore 50 = .ok (.invokevirtual 354, 3) := by decide +kernel
theorem dX6_restore_53 : decode cX6_restore 53 = .ok (.aload_n 0, 1) := by decide +kernel
theorem dX6_restore_54 : decode cX6_restore 54 = .ok (.getfield 19, 3) := by decide +kernel
theorem dX6_restore_57 : decode cX6_restore 57 = .ok (.invokevirtual 196, 3) := by decide +kernel
theorem dX6_restore_60 : decode cX6_restore 60 = .ok (.ireturn, 1) := by decide +kernel
theorem c_restore {v : Int} (hP : SV (if v = 0 then P0 else P1)) (h : kRes sv v = 0) (hv : rg v) (hsv : ∀ i, 0 ≤ sv i ∧ sv i ≤ 1) : Cd l yX6_restore cX6_restore 2 (some .int) rmX6_restore [.ref 0, iv v] (clS (slotP 6) kn nk S P0 P1 sv cnt nx) (some (iv (sumK (sG (if v = 0 then P0 else P1)) (sC (if v = 0 then P0 else P1) * sR (if v = 0 then P0 else P1)).toNat))) (clS (slotP 6) (0) (0) (if v = 0 then P0 else P1) P0 P1 sv (0) nx) := by
  have hw := kRes_0 h
  have hs0 := hsv v
  rcases (show v = 0 ∨ v = 1 by omega) with e | e
  · subst e
    rw [if_pos rfl] at hP ⊢
    have hd := hP.1
    refine Ct.of miX6_restore (Nat.le_of_ble_eq_true rfl) ?_
    intro X hXl hN ok
    refine AW.cast (L2 := [some (.ref 0), some (iv 0)]) ?_ rfl rfl rfl
    refine a_iload_n (pc := 0) ok dX6_restore_0 rfl ?_
    refine a_iconst (pc := 1) ok dX6_restore_1 ?_
    refine a_iconst (pc := 2) ok dX6_restore_2 ?_
    refine a_callSp (pc := 3) ok [] dX6_restore_3 mv6_330 miX6_isWithin (c_isWithin hv (by unfold rg; omega) (by unfold rg; omega)) ⟨by decide, by decide, rfl, rfl, Nat.zero_le _, Nat.zero_le _⟩ rfl rfl (Nat.le_of_ble_eq_true rfl) rfl (by decide) ?_
    refine a_callSv (pc := 6) ok [] dX6_restore_6 mv6_203 miX6_mustExist (c_mustExist (bz_pos (by omega))) ⟨by decide, by decide, rfl, rfl, Nat.zero_le _, Nat.zero_le _⟩ rfl rfl (Nat.le_of_ble_eq_true rfl) rfl (by decide) rfl ?_
    refine a_aload_n (pc := 9) ok dX6_restore_9 rfl ?_
    refine a_getf (pc := 10) ok dX6_restore_10 fl6_34 rfl rfl ?_
    refine a_iload_n (pc := 13) ok dX6_restore_13 rfl ?_
    refine a_zald (pc := 14) ok dX6_restore_14 rfl (by decide) (by first | omega | (unfold rg; omega) | (simp only [rg] at *; omega) | exact bz_rg _ | grind [rg]) ?_
    refine a_if_ne (pc := 15) (tgt := 29) ok dX6_restore_15 (by decide) (by unfold rg; omega) (fun c15 => ?_) (fun c15 => ?_)
    · refine a_aload_n (pc := 29) ok dX6_restore_29 rfl ?_
      refine a_getf (pc := 30) ok dX6_restore_30 fl6_26 rfl rfl ?_
      refine x_callVv (pc := 33) ok [15, 23] 1 dX6_restore_33 mv6_104 miX1_forgetAll (c_forgetAll) ⟨by decide, by decide, rfl, rfl, Nat.zero_le _, Nat.zero_le _⟩ rfl rfl (Nat.le_of_ble_eq_true rfl) rfl rfl (by decide) rfl rfl rfl ?_
      refine a_aload_n (pc := 36) ok dX6_restore_36 rfl ?_
      refine x_callVv (pc := 37) ok [0, 16, 1, 15, 5, 14, 17, 18, 19, 20, 21, 22] 1 dX6_restore_37 mv6_107 miX6_forgetFindings (c_forgetFindings) ⟨by decide, by decide, rfl, rfl, Nat.zero_le _, Nat.zero_le _⟩ rfl rfl (Nat.le_of_ble_eq_true rfl) rfl rfl (by decide) rfl rfl rfl ?_
      refine AW.cast (M2 := (clS (slotP 6) (0) (0) S P0 P1 sv (0) nx)) ?_ rfl rfl rfl
      refine a_aload_n (pc := 40) ok dX6_restore_40 rfl ?_
      refine a_getf (pc := 41) ok dX6_restore_41 fl6_19 rfl rfl ?_
      refine a_aload_n (pc := 44) ok dX6_restore_44 rfl ?_
      refine a_getf (pc := 45) ok dX6_restore_45 fl6_30 rfl rfl ?_
      refine a_iload_n (pc := 48) ok dX6_restore_48 rfl ?_
      refine a_aald (pc := 49) ok dX6_restore_49 rfl (by decide) (by first | omega | (unfold rg; omega) | (simp only [rg] at *; omega) | exact bz_rg _ | grind [rg]) rfl ?_
      refine a_callVv (pc := 50) ok [1, 2, 3, 4, 6, 7, 8, 9] dX6_restore_50 mv6_354 miX4_copyFrom (c_copyFrom) ⟨by decide, by decide, rfl, rfl, Nat.zero_le _, Nat.zero_le _⟩ rfl rfl (Nat.le_of_ble_eq_true rfl) rfl (by decide) rfl rfl rfl ?_
      refine a_aload_n (pc := 53) ok dX6_restore_53 rfl ?_
      refine a_getf (pc := 54) ok dX6_restore_54 fl6_19 rfl rfl ?_
      refine a_callVp (pc := 57) ok [1, 2, 3, 4] dX6_restore_57 mv6_196 miX4_sumOfGreys (c_sumOfGreys (G := sG P0) hd) ⟨by decide, by decide, rfl, rfl, Nat.zero_le _, Nat.zero_le _⟩ rfl rfl (Nat.le_of_ble_eq_true rfl) rfl (by decide) rfl rfl ?_
      exact a_iret (pc := 60) ok dX6_restore_60 (⟨rfl, rfl⟩)
    · omega
  · subst e
    rw [if_neg (by omega)] at hP ⊢
    have hd := hP.1
    refine Ct.of miX6_restore (Nat.le_of_ble_eq_true rfl) ?_
    intro X hXl hN ok
    refine AW.cast (L2 := [some (.ref 0), some (iv 1)]) ?_ rfl rfl rfl
    refine a_iload_n (pc := 0) ok dX6_restore_0 rfl ?_
    refine a_iconst (pc := 1) ok dX6_restore_1 ?_
    refine a_iconst (pc := 2) ok dX6_restore_2 ?_
    refine a_callSp (pc := 3) ok [] dX6_restore_3 mv6_330 miX6_isWithin (c_isWithin hv (by unfold rg; omega) (by unfold rg; omega)) ⟨by decide, by decide, rfl, rfl, Nat.zero_le _, Nat.zero_le _⟩ rfl rfl (Nat.le_of_ble_eq_true rfl) rfl (by decide) ?_
    refine a_callSv (pc := 6) ok [] dX6_restore_6 mv6_203 miX6_mustExist (c_mustExist (bz_pos (by omega))) ⟨by decide, by decide, rfl, rfl, Nat.zero_le _, Nat.zero_le _⟩ rfl rfl (Nat.le_of_ble_eq_true rfl) rfl (by decide) rfl ?_
    refine a_aload_n (pc := 9) ok dX6_restore_9 rfl ?_
    refine a_getf (pc := 10) ok dX6_restore_10 fl6_34 rfl rfl ?_
    refine a_iload_n (pc := 13) ok dX6_restore_13 rfl ?_
    refine a_zald (pc := 14) ok dX6_restore_14 rfl (by decide) (by first | omega | (unfold rg; omega) | (simp only [rg] at *; omega) | exact bz_rg _ | grind [rg]) ?_
    refine a_if_ne (pc := 15) (tgt := 29) ok dX6_restore_15 (by decide) (by unfold rg; omega) (fun c15 => ?_) (fun c15 => ?_)
    · refine a_aload_n (pc := 29) ok dX6_restore_29 rfl ?_
      refine a_getf (pc := 30) ok dX6_restore_30 fl6_26 rfl rfl ?_
      refine x_callVv (pc := 33) ok [15, 23] 1 dX6_restore_33 mv6_104 miX1_forgetAll (c_forgetAll) ⟨by decide, by decide, rfl, rfl, Nat.zero_le _, Nat.zero_le _⟩ rfl rfl (Nat.le_of_ble_eq_true rfl) rfl rfl (by decide) rfl rfl rfl ?_
      refine a_aload_n (pc := 36) ok dX6_restore_36 rfl ?_
      refine x_callVv (pc := 37) ok [0, 16, 1, 15, 5, 14, 17, 18, 19, 20, 21, 22] 1 dX6_restore_37 mv6_107 miX6_forgetFindings (c_forgetFindings) ⟨by decide, by decide, rfl, rfl, Nat.zero_le _, Nat.zero_le _⟩ rfl rfl (Nat.le_of_ble_eq_true rfl) rfl rfl (by decide) rfl rfl rfl ?_
      refine AW.cast (M2 := (clS (slotP 6) (0) (0) S P0 P1 sv (0) nx)) ?_ rfl rfl rfl
      refine a_aload_n (pc := 40) ok dX6_restore_40 rfl ?_
      refine a_getf (pc := 41) ok dX6_restore_41 fl6_19 rfl rfl ?_
      refine a_aload_n (pc := 44) ok dX6_restore_44 rfl ?_
      refine a_getf (pc := 45) ok dX6_restore_45 fl6_30 rfl rfl ?_
      refine a_iload_n (pc := 48) ok dX6_restore_48 rfl ?_
      refine a_aald (pc := 49) ok dX6_restore_49 rfl (by decide) (by first | omega | (unfold rg; omega) | (simp only [rg] at *; omega) | exact bz_rg _ | grind [rg]) rfl ?_
      refine a_callVv (pc := 50) ok [1, 2, 3, 4, 10, 11, 12, 13] dX6_restore_50 mv6_354 miX4_copyFrom (c_copyFrom) ⟨by decide, by decide, rfl, rfl, Nat.zero_le _, Nat.zero_le _⟩ rfl rfl (Nat.le_of_ble_eq_true rfl) rfl (by decide) rfl rfl rfl ?_
      refine a_aload_n (pc := 53) ok dX6_restore_53 rfl ?_
      refine a_getf (pc := 54) ok dX6_restore_54 fl6_19 rfl rfl ?_
      refine a_callVp (pc := 57) ok [1, 2, 3, 4] dX6_restore_57 mv6_196 miX4_sumOfGreys (c_sumOfGreys (G := sG P1) hd) ⟨by decide, by decide, rfl, rfl, Nat.zero_le _, Nat.zero_le _⟩ rfl rfl (Nat.le_of_ble_eq_true rfl) rfl (by decide) rfl rfl ?_
      exact a_iret (pc := 60) ok dX6_restore_60 (⟨rfl, rfl⟩)
    · omega
end CX1
