/-! MODEL's face: text, what there is. -/
section MP1
variable {l : Launch} {rf sz : Int} {S : St} {ac : Int} {B I : Int → Int} {m : Int} {Fi Co Br Wt mk gy : Int → Int} {S2 : St} {tx di ke ik ea : Int → Int} {sd rt lf wy sp ou : Int}
/-- the whole Model: now at 1, trial at 10, text, diary, kept, isKept, earlier behind it -/
abbrev mdW (rf sz : Int) (S : St) (ac : Int) (B I : Int → Int) (m : Int) (Fi Co Br Wt mk gy : Int → Int) (S2 : St) (tx di ke ik ea : Int → Int) (sd rt lf wy sp ou : Int) : List va_E :=
  [ob 7 [iv rf, .ref 11, iv sz, .ref 1, .ref 10, .ref 12, iv ac, .ref 13, .ref 14, .ref 2, .ref 3, iv m, .ref 4, .ref 5, .ref 6, .ref 7, .ref 8, .ref 9, .ref 15, iv sd, iv rt, iv lf, iv wy, iv sp, iv ou], ia 160 (rowS S), ia 144 B, ia 144 I, ia 144 Fi, ia 144 Co, ia 144 Br, ia 144 Wt, ia 144 mk, ia 144 gy, ia 160 (rowS S2), ia 120 tx, ia 2240 di, ia 320 ke, za 2 ik, ia 144 ea]
/-- what is told of the Model: all but its working rows -/
def WM (rf sz : Int) (S : St) (ac : Int) (tx di ke ik : Int → Int) (M : List va_E) : Prop := ∃ (B I : Int → Int) (m : Int) (Fi Co Br Wt mk gy : Int → Int) (S2 : St) (ea : Int → Int) (sd rt lf wy sp ou : Int), M = (mdW rf sz S ac B I m Fi Co Br Wt mk gy S2 tx di ke ik ea sd rt lf wy sp ou) ∧ (∀ i, 0 ≤ B i ∧ B i ≤ 5) ∧ (∀ i, rg (I i))
theorem WM_mk (hB : ∀ i, 0 ≤ B i ∧ B i ≤ 5) (hI : ∀ i, rg (I i)) : WM rf sz S ac tx di ke ik (mdW rf sz S ac B I m Fi Co Br Wt mk gy S2 tx di ke ik ea sd rt lf wy sp ou) := ⟨B, I, m, Fi, Co, Br, Wt, mk, gy, S2, ea, sd, rt, lf, wy, sp, ou, rfl, hB, hI⟩
theorem WM_len {M : List va_E} (h : WM rf sz S ac tx di ke ik M) : M.length = 16 := by obtain ⟨B, I, m, Fi, Co, Br, Wt, mk, gy, S2, ea, sd, rt, lf, wy, sp, ou, rfl, -, -⟩ := h; rfl
/-- the Model alone -/
abbrev obM (rf sz ac m sd rt lf wy sp ou : Int) : List va_E := [ob 7 [iv rf, .ref 1, iv sz, .ref 2, .ref 3, .ref 4, iv ac, .ref 5, .ref 6, .ref 7, .ref 8, iv m, .ref 9, .ref 10, .ref 11, .ref 12, .ref 13, .ref 14, .ref 15, iv sd, iv rt, iv lf, iv wy, iv sp, iv ou]]
theorem dX7_refused_0 : decode cX7_refused 0 = .ok (.aload_n 0, 1) := by decide +kernel
theorem dX7_refused_1 : decode cX7_refused 1 = .ok (.iload_n 1, 1) := by decide +kernel
theorem dX7_refused_2 : decode cX7_refused 2 = .ok (.putfield 64, 3) := by decide +kernel
theorem dX7_refused_5 : decode cX7_refused 5 = .ok (.iload_n 1, 1) := by decide +kernel
theorem dX7_refused_6 : decode cX7_refused 6 = .ok (.ifCond .le 7, 3) := by decide +kernel
theorem dX7_refused_9 : decode cX7_refused 9 = .ok (.iconst 1, 1) := by decide +kernel
theorem dX7_refused_10 : decode cX7_refused 10 = .ok (.goto 4, 3) := by decide +kernel
theorem dX7_refused_13 : decode cX7_refused 13 = .ok (.iconst 0, 1) := by decide +kernel
theorem dX7_refused_14 : decode cX7_refused 14 = .ok (.ireturn, 1) := by decide +kernel
theorem c_refused {z : Int} (hz : rg z) : Cd l yX7_refused cX7_refused 2 (some .boolean) rmX7_refused [.ref 0, iv z] (obM rf sz ac m sd rt lf wy sp ou) (some (iv (bz (0 < z)))) (obM z sz ac m sd rt lf wy sp ou) := by
  refine Ct.of miX7_refused (Nat.le_of_ble_eq_true rfl) ?_
  intro X hXl hN ok
  refine AW.cast (L2 := [some (.ref 0), some (iv z)]) ?_ rfl rfl rfl
  refine a_aload_n (pc := 0) ok dX7_refused_0 rfl ?_
  refine a_iload_n (pc := 1) ok dX7_refused_1 rfl ?_
  refine a_putf (pc := 2) ok dX7_refused_2 fp7_64 rfl (by first | rfl | decide) (by first | rfl | decide) (Nat.le_of_ble_eq_true rfl) ?_
  refine a_iload_n (pc := 5) ok dX7_refused_5 rfl ?_
  refine a_if_le (pc := 6) (tgt := 13) ok dX7_refused_6 (by decide) (by first | omega | (unfold rg; omega) | (simp only [rg] at *; omega) | exact bz_rg _ | grind [rg]) (fun c6 => ?_) (fun c6 => ?_)
  · refine a_iconst (pc := 13) ok dX7_refused_13 ?_
    exact a_zret (pc := 14) ok dX7_refused_14 (by first | rfl | exact nb_bz _ | exact @nb_bz _ (Classical.propDecidable _) | decide) (⟨by first | rfl | exact congrArg (fun z => some (iv z)) (bz_pos (by first | omega | grind)).symm | exact congrArg (fun z => some (iv z)) (bz_neg (by first | omega | grind)).symm, rfl⟩)
  · refine a_iconst (pc := 9) ok dX7_refused_9 ?_
    refine a_goto (pc := 10) (tgt := 14) ok dX7_refused_10 (by decide) ?_
    exact a_zret (pc := 14) ok dX7_refused_14 (by first | rfl | exact nb_bz _ | exact @nb_bz _ (Classical.propDecidable _) | decide) (⟨by first | rfl | exact congrArg (fun z => some (iv z)) (bz_pos (by first | omega | grind)).symm | exact congrArg (fun z => some (iv z)) (bz_neg (by first | omega | grind)).symm, rfl⟩)
theorem dX7_thrown_0 : decode cX7_thrown 0 = .ok (.aload_n 0, 1) := by decide +kernel
theorem dX7_thrown_1 : decode cX7_thrown 1 = .ok (.getfield 64, 3) := by decide +kernel
theorem dX7_thrown_4 : decode cX7_thrown 4 = .ok (.ireturn, 1) := by decide +kernel
theorem c_thrown : Cd l yX7_thrown cX7_thrown 1 (some .int) rmX7_thrown [.ref 0] (obM rf sz ac m sd rt lf wy sp ou) (some (iv rf)) (obM rf sz ac m sd rt lf wy sp ou) := by
  refine Ct.of miX7_thrown (Nat.le_of_ble_eq_true rfl) ?_
  intro X hXl hN ok
  refine AW.cast (L2 := [some (.ref 0)]) ?_ rfl rfl rfl
  refine a_aload_n (pc := 0) ok dX7_thrown_0 rfl ?_
  refine a_getf (pc := 1) ok dX7_thrown_1 fl7_64 rfl rfl ?_
  exact a_iret (pc := 4) ok dX7_thrown_4 (⟨rfl, rfl⟩)
/-- which exception: append -/
def kAppend (sz x : Int) : Int := if ¬ (0 ≤ x ∧ x ≤ 255) then 1 else if sz = 120 then 2 else 0
theorem dX7_append_0 : decode cX7_append 0 = .ok (.aload_n 0, 1) := by decide +kernel
theorem dX7_append_1 : decode cX7_append 1 = .ok (.iload_n 1, 1) := by decide +kernel
theorem dX7_append_2 : decode cX7_append 2 = .ok (.i2l, 1) := by decide +kernel
theorem dX7_append_3 : decode cX7_append 3 = .ok (.lconst 0, 1) := by decide +kernel
theorem dX7_append_4 : decode cX7_append 4 = .ok (.ldc2_w 187, 3) := by decide +kernel
theorem dX7_append_7 : decode cX7_append 7 = .ok (.invokestatic 68, 3) := by decide +kernel
theorem dX7_append_10 : decode cX7_append 10 = .ok (.ifCond .ne 7, 3) := by decide +kernel
theorem dX7_append_13 : decode cX7_append 13 = .ok (.iconst 1, 1) := by decide +kernel
theorem dX7_append_14 : decode cX7_append 14 = .ok (.goto 17, 3) := by decide +kernel
theorem dX7_append_17 : decode cX7_append 17 = .ok (.aload_n 0, 1) := by decide +kernel
theorem dX7_append_18 : decode cX7_append 18 = .ok (.getfield 189, 3) := by decide +kernel
theorem dX7_append_21 : decode cX7_append 21 = .ok (.bipush 120, 2) := by decide +kernel
theorem dX7_append_23 : decode cX7_append 23 = .ok (.if_icmp .ne 7, 3) := by decide +kernel
theorem dX7_append_26 : decode cX7_append 26 = .ok (.iconst 2, 1) := by decide +kernel
theorem dX7_append_27 : decode cX7_append 27 = .ok (.goto 4, 3) := by decide +kernel
theorem dX7_append_30 : decode cX7_append 30 = .ok (.iconst 0, 1) := by decide +kernel
theorem dX7_append_31 : decode cX7_append 31 = .ok (.invokevirtual 192, 3) := by decide +kernel
theorem dX7_append_34 : decode cX7_append 34 = .ok (.ifCond .eq 5, 3) := by decide +kernel
theorem dX7_append_37 : decode cX7_append 37 = .ok (.iconst 0, 1) := by decide +kernel
theorem dX7_append_38 : decode cX7_append 38 = .ok (.ireturn, 1) := by decide +kernel
theorem dX7_append_39 : decode cX7_append 39 = .ok (.aload_n 0, 1) := by decide +kernel
theorem dX7_append_40 : decode cX7_append 40 = .ok (.getfield 7, 3) := by decide +kernel
theorem dX7_append_43 : decode cX7_append 43 = .ok (.aload_n 0, 1) := by decide +kernel
theorem dX7_append_44 : decode cX7_append 44 = .ok (.getfield 189, 3) := by decide +kernel
theorem dX7_append_47 : decode cX7_append 47 = .ok (.iload_n 1, 1) := by decide +kernel
theorem dX7_append_48 : decode cX7_append 48 = .ok (.iastore, 1) := by decide +kernel
theorem dX7_append_49 : decode cX7_append 49 = .ok (.aload_n 0, 1) := by decide +kernel
theorem dX7_append_50 : decode cX7_append 50 = .ok (.dup, 1) := by decide +kernel
theorem dX7_append_51 : decode cX7_append 51 = .ok (.getfield 189, 3) := by decide +kernel
theorem dX7_append_54 : decode cX7_append 54 = .ok (.iconst 1, 1) := by decide +kernel
theorem dX7_append_55 : decode cX7_append 55 = .ok (.iadd, 1) := by decide +kernel
theorem dX7_append_56 : decode cX7_append 56 = .ok (.putfield 189, 3) := by decide +kernel
theorem dX7_append_59 : decode cX7_append 59 = .ok (.aload_n 0, 1) := by decide +kernel
theorem dX7_append_60 : decode cX7_append 60 = .ok (.getfield 189, 3) := by decide +kernel
theorem dX7_append_63 : decode cX7_append 63 = .ok (.ireturn, 1) := by decide +kernel
theorem c_mappend {x : Int} (hB : ∀ i, 0 ≤ B i ∧ B i ≤ 5) (hI : ∀ i, rg (I i)) (hx : rg x) (hz : 0 ≤ sz ∧ sz ≤ 120) : Ct l yX7_append cX7_append 2 (some .int) rmX7_append [.ref 0, iv x] (mdW rf sz S ac B I m Fi Co Br Wt mk gy S2 tx di ke ik ea sd rt lf wy sp ou)
    (fun z M => z = some (iv (if kAppend sz x = 0 then sz + 1 else 0)) ∧ WM (kAppend sz x) (if kAppend sz x = 0 then sz + 1 else sz) S ac (if kAppend sz x = 0 then up tx sz x else tx) di ke ik M) := by
  refine Ct.of miX7_append (Nat.le_of_ble_eq_true rfl) ?_
  intro X hXl hN ok
  refine AW.cast (L2 := [some (.ref 0), some (iv x)]) ?_ rfl rfl rfl
  have s31 : ∀ z : Int, z = kAppend sz x → AW X 0 0 31 [some (.ref 0), some (iv x)] [iv z, .ref 0] (mdW rf sz S ac B I m Fi Co Br Wt mk gy S2 tx di ke ik ea sd rt lf wy sp ou) := by
    intro z hz2
    have hzr : 0 ≤ z ∧ z ≤ 2 := by rw [hz2]; unfold kAppend; repeat' split
                                   all_goals omega
    by_cases k0 : kAppend sz x = 0
    · have hgood : sz ≠ 120 := by unfold kAppend at k0; repeat' split at k0
                                  all_goals omega
      rw [if_pos k0, if_pos k0, if_pos k0, ← hz2] at ok
      rw [k0] at hz2
      refine x_callVi (pc := 31) ok [0, 11, 1, 10, 12, 13, 14, 2, 3, 4, 5, 6, 7, 8, 9, 15] 1 dX7_append_31 mv7_192 miX7_refused (c_refused (by unfold rg; omega)) ⟨by decide, by decide, rfl, rfl, Nat.zero_le _, Nat.zero_le _⟩ rfl rfl (Nat.le_of_ble_eq_true rfl) rfl rfl (by decide) rfl rfl rfl ?_
      refine a_if_eq (pc := 34) (tgt := 39) ok dX7_append_34 (by decide) (by exact bz_rg _) (fun c34 => ?_) (fun c34 => ?_)
      · refine a_aload_n (pc := 39) ok dX7_append_39 rfl ?_
        refine a_getf (pc := 40) ok dX7_append_40 fl7_7 rfl rfl ?_
        refine a_aload_n (pc := 43) ok dX7_append_43 rfl ?_
        refine a_getf (pc := 44) ok dX7_append_44 fl7_189 rfl rfl ?_
        refine a_iload_n (pc := 47) ok dX7_append_47 rfl ?_
        refine a_iast (pc := 48) ok dX7_append_48 rfl (by first | decide | omega) (by first | omega | (unfold rg; omega) | (simp only [rg] at *; omega) | exact bz_rg _ | grind [rg]) ?_
        refine a_aload_n (pc := 49) ok dX7_append_49 rfl ?_
        refine a_dup (pc := 50) ok dX7_append_50 rfl ?_
        refine a_getf (pc := 51) ok dX7_append_51 fl7_189 rfl rfl ?_
        refine a_iconst (pc := 54) ok dX7_append_54 ?_
        refine a_iadd (pc := 55) ok dX7_append_55 ?_
        refine a_putf (pc := 56) ok dX7_append_56 fp7_189 rfl (by first | rfl | decide) (by first | rfl | decide) (Nat.le_of_ble_eq_true rfl) ?_
        refine a_aload_n (pc := 59) ok dX7_append_59 rfl ?_
        refine a_getf (pc := 60) ok dX7_append_60 fl7_189 rfl rfl ?_
        exact a_iret (pc := 63) ok dX7_append_63 (⟨rfl, WM_mk hB hI⟩)
      · exact absurd (bz_neg (show ¬ 0 < z by omega)) c34
    · rw [if_neg k0, if_neg k0, if_neg k0, ← hz2] at ok
      refine x_callVi (pc := 31) ok [0, 11, 1, 10, 12, 13, 14, 2, 3, 4, 5, 6, 7, 8, 9, 15] 1 dX7_append_31 mv7_192 miX7_refused (c_refused (by unfold rg; omega)) ⟨by decide, by decide, rfl, rfl, Nat.zero_le _, Nat.zero_le _⟩ rfl rfl (Nat.le_of_ble_eq_true rfl) rfl rfl (by decide) rfl rfl rfl ?_
      refine a_if_eq (pc := 34) (tgt := 39) ok dX7_append_34 (by decide) (by exact bz_rg _) (fun c34 => ?_) (fun c34 => ?_)
      · exact absurd c34 (by rw [bz_pos (show 0 < z by omega)]; decide)
      · refine a_iconst (pc := 37) ok dX7_append_37 ?_
        exact a_iret (pc := 38) ok dX7_append_38 (⟨rfl, WM_mk hB hI⟩)
  refine a_aload_n (pc := 0) ok dX7_append_0 rfl ?_
  refine a_iload_n (pc := 1) ok dX7_append_1 rfl ?_
  refine a_i2l (pc := 2) ok dX7_append_2 (by first | omega | (unfold rg; omega) | (simp only [rg] at *; omega) | exact bz_rg _ | grind [rg]) ?_
  refine a_lconst (pc := 3) (z := 0) ok dX7_append_3 rfl ?_
  refine a_ldc2 (pc := 4) (z := 255) (v := Int64.ofInt 255) ok dX7_append_4 (ug5 154 (by decide +kernel) rfl) rfl ?_
  refine a_callSp (pc := 7) ok [] dX7_append_7 mv7_68 miX7_in (c_in (by unfold rgL; unfold rg at hx; omega) (by unfold rgL; omega) (by unfold rgL; omega)) ⟨by decide, by decide, rfl, rfl, Nat.zero_le _, Nat.zero_le _⟩ rfl rfl (Nat.le_of_ble_eq_true rfl) rfl (by decide) ?_
  refine a_if_ne (pc := 10) (tgt := 17) ok dX7_append_10 (by decide) (by exact bz_rg _) (fun c10 => ?_) (fun c10 => ?_)
  · refine a_aload_n (pc := 17) ok dX7_append_17 rfl ?_
    refine a_getf (pc := 18) ok dX7_append_18 fl7_189 rfl rfl ?_
    refine a_bipush (pc := 21) ok dX7_append_21 (by decide) ?_
    refine a_icmp_ne (pc := 23) (tgt := 30) ok dX7_append_23 (by decide) (by first | omega | (unfold rg; omega) | (simp only [rg] at *; omega) | exact bz_rg _ | grind [rg]) (by first | omega | (unfold rg; omega) | (simp only [rg] at *; omega) | exact bz_rg _ | grind [rg]) (fun c23 => ?_) (fun c23 => ?_)
    · refine a_iconst (pc := 30) ok dX7_append_30 ?_
      exact s31 0 (by unfold kAppend; rw [if_neg (fun z => c10 (bz_0.mpr z)), if_neg (by omega)])
    · refine a_iconst (pc := 26) ok dX7_append_26 ?_
      refine a_goto (pc := 27) (tgt := 31) ok dX7_append_27 (by decide) ?_
      exact s31 2 (by unfold kAppend; rw [if_neg (fun z => c10 (bz_0.mpr z)), if_pos (by omega)])
  · refine a_iconst (pc := 13) ok dX7_append_13 ?_
    refine a_goto (pc := 14) (tgt := 31) ok dX7_append_14 (by decide) ?_
    exact s31 1 (by unfold kAppend; rw [if_pos (bz_0.mp c10)])
theorem dX7_clearText_0 : decode cX7_clearText 0 = .ok (.aload_n 0, 1) := by decide +kernel
theorem dX7_clearText_1 : decode cX7_clearText 1 = .ok (.iconst 0, 1) := by decide +kernel
theorem dX7_clearText_2 : decode cX7_clearText 2 = .ok (.putfield 64, 3) := by decide +kernel
theorem dX7_clearText_5 : decode cX7_clearText 5 = .ok (.aload_n 0, 1) := by decide +kernel
theorem dX7_clearText_6 : decode cX7_clearText 6 = .ok (.getfield 189, 3) := by decide +kernel
theorem dX7_clearText_9 : decode cX7_clearText 9 = .ok (.istore_n 1, 1) := by decide +kernel
theorem dX7_clearText_10 : decode cX7_clearText 10 = .ok (.aload_n 0, 1) := by decide +kernel
theorem dX7_clearText_11 : decode cX7_clearText 11 = .ok (.iconst 0, 1) := by decide +kernel
theorem dX7_clearText_12 : decode cX7_clearText 12 = .ok (.putfield 189, 3) := by decide +kernel
theorem dX7_clearText_15 : decode cX7_clearText 15 = .ok (.iload_n 1, 1) := by decide +kernel
theorem dX7_clearText_16 : decode cX7_clearText 16 = .ok (.ireturn, 1) := by decide +kernel
theorem c_mclearText (hB : ∀ i, 0 ≤ B i ∧ B i ≤ 5) (hI : ∀ i, rg (I i)) : Ct l yX7_clearText cX7_clearText 2 (some .int) rmX7_clearText [.ref 0] (mdW rf sz S ac B I m Fi Co Br Wt mk gy S2 tx di ke ik ea sd rt lf wy sp ou)
    (fun z M => z = some (iv sz) ∧ WM 0 0 S ac tx di ke ik M) := by
  refine Ct.of miX7_clearText (Nat.le_of_ble_eq_true rfl) ?_
  intro X hXl hN ok
  refine AW.cast (L2 := [some (.ref 0), none]) ?_ rfl rfl rfl
  refine a_aload_n (pc := 0) ok dX7_clearText_0 rfl ?_
  refine a_iconst (pc := 1) ok dX7_clearText_1 ?_
  refine a_putf (pc := 2) ok dX7_clearText_2 fp7_64 rfl (by first | rfl | decide) (by first | rfl | decide) (Nat.le_of_ble_eq_true rfl) ?_
  refine a_aload_n (pc := 5) ok dX7_clearText_5 rfl ?_
  refine a_getf (pc := 6) ok dX7_clearText_6 fl7_189 rfl rfl ?_
  refine a_istore_n (pc := 9) ok dX7_clearText_9 rfl (by rw [hN]; decide) ?_
  refine a_aload_n (pc := 10) ok dX7_clearText_10 rfl ?_
  refine a_iconst (pc := 11) ok dX7_clearText_11 ?_
  refine a_putf (pc := 12) ok dX7_clearText_12 fp7_189 rfl (by first | rfl | decide) (by first | rfl | decide) (Nat.le_of_ble_eq_true rfl) ?_
  refine a_iload_n (pc := 15) ok dX7_clearText_15 rfl ?_
  exact a_iret (pc := 16) ok dX7_clearText_16 (⟨rfl, WM_mk hB hI⟩)
theorem dX7_errorPosition_0 : decode cX7_errorPosition 0 = .ok (.aload_n 0, 1) := by decide +kernel
theorem dX7_errorPosition_1 : decode cX7_errorPosition 1 = .ok (.iconst 0, 1) := by decide +kernel
theorem dX7_errorPosition_2 : decode cX7_errorPosition 2 = .ok (.putfield 64, 3) := by decide +kernel
theorem dX7_errorPosition_5 : decode cX7_errorPosition 5 = .ok (.aload_n 0, 1) := by decide +kernel
theorem dX7_errorPosition_6 : decode cX7_errorPosition 6 = .ok (.aload_n 0, 1) := by decide +kernel
theorem dX7_errorPosition_7 : decode cX7_errorPosition 7 = .ok (.getfield 16, 3) := by decide +kernel
theorem dX7_errorPosition_10 : decode cX7_errorPosition 10 = .ok (.invokevirtual 243, 3) := by decide +kernel
theorem dX7_errorPosition_13 : decode cX7_errorPosition 13 = .ok (.ireturn, 1) := by decide +kernel
theorem c_merrorPosition (hB : ∀ i, 0 ≤ B i ∧ B i ≤ 5) (hI : ∀ i, rg (I i)) (hn : 0 ≤ sz ∧ sz ≤ 120) (ht : ∀ j, 0 ≤ tx j ∧ tx j ≤ 255) : Ct l yX7_errorPosition cX7_errorPosition 1 (some .int) rmX7_errorPosition [.ref 0] (mdW rf sz S ac B I m Fi Co Br Wt mk gy S2 tx di ke ik ea sd rt lf wy sp ou)
    (fun z M => z = some (iv (eP tx sz)) ∧ WM 0 sz S ac tx di ke ik M) := by
  refine Ct.of miX7_errorPosition (Nat.le_of_ble_eq_true rfl) ?_
  intro X hXl hN ok
  refine AW.cast (L2 := [some (.ref 0)]) ?_ rfl rfl rfl
  refine a_aload_n (pc := 0) ok dX7_errorPosition_0 rfl ?_
  refine a_iconst (pc := 1) ok dX7_errorPosition_1 ?_
  refine a_putf (pc := 2) ok dX7_errorPosition_2 fp7_64 rfl (by first | rfl | decide) (by first | rfl | decide) (Nat.le_of_ble_eq_true rfl) ?_
  refine a_aload_n (pc := 5) ok dX7_errorPosition_5 rfl ?_
  refine a_aload_n (pc := 6) ok dX7_errorPosition_6 rfl ?_
  refine a_getf (pc := 7) ok dX7_errorPosition_7 fl7_16 rfl rfl ?_
  refine x_callV (pc := 10) ok [0, 10, 2, 3, 4, 5, 6, 7, 8, 9, 11, 1, 10, 12, 13, 14, 15] 11 dX7_errorPosition_10 mv7_243 miX7_readText (c_readText hn ht) ⟨by decide, by decide, rfl, rfl, Nat.zero_le _, Nat.zero_le _⟩ rfl rfl (Nat.le_of_ble_eq_true rfl) rfl rfl (by decide) rfl rfl (fun v M' h => by obtain ⟨_, _, _, _, _, h, _⟩ := h; rw [h]; rfl) ?_
  rintro _ M' ⟨rfl, S', gy', sp', ou', rfl, -⟩
  refine AW.cast (st2 := [iv (eP tx sz)]) (M2 := (mdW (0) sz S ac B I m Fi Co Br Wt mk (gy') (S') tx di ke ik ea sd rt lf wy (sp') (ou'))) ?_ rfl rfl rfl
  exact a_iret (pc := 13) ok dX7_errorPosition_13 (⟨rfl, WM_mk hB hI⟩)
theorem dX7_load_0 : decode cX7_load 0 = .ok (.aload_n 0, 1) := by decide +kernel
theorem dX7_load_1 : decode cX7_load 1 = .ok (.aload_n 0, 1) := by decide +kernel
theorem dX7_load_2 : decode cX7_load 2 = .ok (.aload_n 0, 1) := by decide +kernel
theorem dX7_load_3 : decode cX7_load 3 = .ok (.getfield 16, 3) := by decide +kernel
theorem dX7_load_6 : decode cX7_load 6 = .ok (.invokevirtual 243, 3) := by decide +kernel
theorem dX7_load_9 : decode cX7_load 9 = .ok (.iconst (-1), 1) := by decide +kernel
theorem dX7_load_10 : decode cX7_load 10 = .ok (.if_icmp .ne 7, 3) := by decide +kernel
theorem dX7_load_13 : decode cX7_load 13 = .ok (.iconst 0, 1) := by decide +kernel
theorem dX7_load_14 : decode cX7_load 14 = .ok (.goto 4, 3) := by decide +kernel
theorem dX7_load_17 : decode cX7_load 17 = .ok (.iconst 1, 1) := by decide +kernel
theorem dX7_load_18 : decode cX7_load 18 = .ok (.invokevirtual 192, 3) := by decide +kernel
theorem dX7_load_21 : decode cX7_load 21 = .ok (.ifCond .eq 5, 3) := by decide +kernel
theorem dX7_load_24 : decode cX7_load 24 = .ok (.iconst 0, 1) := by decide +kernel
theorem dX7_load_25 : decode cX7_load 25 = .ok (.ireturn, 1) := by decide +kernel
theorem dX7_load_26 : decode cX7_load 26 = .ok (.aload_n 0, 1) := by decide +kernel
theorem dX7_load_27 : decode cX7_load 27 = .ok (.getfield 16, 3) := by decide +kernel
theorem dX7_load_30 : decode cX7_load 30 = .ok (.iconst 0, 1) := by decide +kernel
theorem dX7_load_31 : decode cX7_load 31 = .ok (.aload_n 0, 1) := by decide +kernel
theorem dX7_load_32 : decode cX7_load 32 = .ok (.getfield 13, 3) := by decide +kernel
theorem dX7_load_35 : decode cX7_load 35 = .ok (.iconst 0, 1) := by decide +kernel
theorem dX7_load_36 : decode cX7_load 36 = .ok (.invokestatic 246, 3) := by decide +kernel
theorem dX7_load_39 : decode cX7_load 39 = .ok (.aload_n 0, 1) := by decide +kernel
theorem dX7_load_40 : decode cX7_load 40 = .ok (.iconst 0, 1) := by decide +kernel
theorem dX7_load_41 : decode cX7_load 41 = .ok (.putfield 250, 3) := by decide +kernel
theorem dX7_load_44 : decode cX7_load 44 = .ok (.aload_n 0, 1) := by decide +kernel
theorem dX7_load_45 : decode cX7_load 45 = .ok (.getfield 25, 3) := by decide +kernel
theorem dX7_load_48 : decode cX7_load 48 = .ok (.iconst 0, 1) := by decide +kernel
theorem dX7_load_49 : decode cX7_load 49 = .ok (.iconst 0, 1) := by decide +kernel
theorem dX7_load_50 : decode cX7_load 50 = .ok (.bastore, 1) := by decide +kernel
theorem dX7_load_51 : decode cX7_load 51 = .ok (.aload_n 0, 1) := by decide +kernel
theorem dX7_load_52 : decode cX7_load 52 = .ok (.getfield 25, 3) := by decide +kernel
theorem dX7_load_55 : decode cX7_load 55 = .ok (.iconst 1, 1) := by decide +kernel
theorem dX7_load_56 : decode cX7_load 56 = .ok (.iconst 0, 1) := by decide +kernel
theorem dX7_load_57 : decode cX7_load 57 = .ok (.bastore, 1) := by decide +kernel
theorem dX7_load_58 : decode cX7_load 58 = .ok (.aload_n 0, 1) := by decide +kernel
theorem dX7_load_59 : decode cX7_load 59 = .ok (.getfield 201, 3) := by decide +kernel
theorem dX7_load_62 : decode cX7_load 62 = .ok (.ireturn, 1) := by decide +kernel
theorem c_mload (hB : ∀ i, 0 ≤ B i ∧ B i ≤ 5) (hI : ∀ i, rg (I i)) (hn : 0 ≤ sz ∧ sz ≤ 120) (ht : ∀ j, 0 ≤ tx j ∧ tx j ≤ 255) : Ct l yX7_load cX7_load 1 (some .int) rmX7_load [.ref 0] (mdW rf sz S ac B I m Fi Co Br Wt mk gy S2 tx di ke ik ea sd rt lf wy sp ou)
    (fun z M => z = some (iv (if eP tx sz = -1 then (xT tx sz (fun _ => 0)).2 else 0)) ∧ WM (if eP tx sz = -1 then 0 else 1) sz (if eP tx sz = -1 then (xT tx sz (fun _ => 0)).1 else S) (if eP tx sz = -1 then 0 else ac) tx di ke (if eP tx sz = -1 then up (up ik 0 0) 1 0 else ik) M) := by
  refine Ct.of miX7_load (Nat.le_of_ble_eq_true rfl) ?_
  intro X hXl hN ok
  refine AW.cast (L2 := [some (.ref 0)]) ?_ rfl rfl rfl
  have er : rg (eP tx sz) := by
    have key : ∀ (f k : Nat), wS tx sz k ≤ 20 * k → k ≤ 121 → f + k ≤ 122 → -1 ≤ eF tx sz f k ∧ eF tx sz f k ≤ 100000 := by
      intro f
      induction f with
      | zero => intro k _ _ _; show (-1 : Int) ≤ -1 ∧ (-1 : Int) ≤ 100000; omega
      | succ f ih =>
        intro k h1 h2 h3
        have hw := wS_rg tx sz k
        have er : -1 ≤ wEr tx sz (wS tx sz k) (if k = 0 then 1 else 0) ∧ wEr tx sz (wS tx sz k) (if k = 0 then 1 else 0) ≤ 100000 := by
          by_cases z : wOk tx sz (wS tx sz k) (if k = 0 then 1 else 0)
          · rw [wEr_ok z]
            have := dBad_rg (t := tx) (n := sz) (k := sg tx sz (wS tx sz k)) (p := wS tx sz k) (nuO (sg tx sz (wS tx sz k))).toNat
            have hu := nuO_rg (sg tx sz (wS tx sz k))
            split <;> omega
          · rw [wEr_no z]; omega
        have e : eF tx sz (f + 1) k = if sz ≤ wS tx sz k ∧ 0 < k then -1 else if wEr tx sz (wS tx sz k) (if k = 0 then 1 else 0) ≠ -1 then wEr tx sz (wS tx sz k) (if k = 0 then 1 else 0) else eF tx sz f (k + 1) := rfl
        rw [e]
        obtain ⟨w, ew⟩ : ∃ w, w = wEr tx sz (wS tx sz k) (if k = 0 then 1 else 0) := ⟨_, rfl⟩
        rw [← ew] at er ⊢
        split
        · omega
        · split
          · exact er
          · by_cases z : k = 121
            · have : f = 0 := by omega
              subst this
              show (-1 : Int) ≤ -1 ∧ (-1 : Int) ≤ 100000; omega
            · exact ih (k + 1) (by omega) (by omega) (by omega)
    have := key 121 0 (Int.le_refl _) (by omega) (by omega)
    unfold eP rg; omega
  by_cases he : eP tx sz = -1
  · rw [if_pos he, if_pos he, if_pos he, if_pos he, if_pos he] at ok
    refine a_aload_n (pc := 0) ok dX7_load_0 rfl ?_
    refine a_aload_n (pc := 1) ok dX7_load_1 rfl ?_
    refine a_aload_n (pc := 2) ok dX7_load_2 rfl ?_
    refine a_getf (pc := 3) ok dX7_load_3 fl7_16 rfl rfl ?_
    refine x_callV (pc := 6) ok [0, 10, 2, 3, 4, 5, 6, 7, 8, 9, 11, 1, 10, 12, 13, 14, 15] 11 dX7_load_6 mv7_243 miX7_readText (c_readText hn ht) ⟨by decide, by decide, rfl, rfl, Nat.zero_le _, Nat.zero_le _⟩ rfl rfl (Nat.le_of_ble_eq_true rfl) rfl rfl (by decide) rfl rfl (fun v M' h => by obtain ⟨_, _, _, _, _, h, _⟩ := h; rw [h]; rfl) ?_
    rintro _ M' ⟨rfl, S', gy', sp', ou', rfl, hx⟩
    have hx := hx he
    rw [← hx] at ok
    refine AW.cast (st2 := [iv (eP tx sz), .ref 0]) (M2 := (mdW rf sz S ac B I m Fi Co Br Wt mk (gy') (S') tx di ke ik ea sd rt lf wy (sp') (ou'))) ?_ rfl rfl rfl
    refine a_iconst (pc := 9) ok dX7_load_9 ?_
    refine a_icmp_ne (pc := 10) (tgt := 17) ok dX7_load_10 (by decide) (by first | omega | (unfold rg; omega) | (simp only [rg] at *; omega) | exact bz_rg _ | grind [rg]) (by first | omega | (unfold rg; omega) | (simp only [rg] at *; omega) | exact bz_rg _ | grind [rg]) (fun c10 => ?_) (fun c10 => ?_)
    · exact absurd he c10
    · refine a_iconst (pc := 13) ok dX7_load_13 ?_
      refine a_goto (pc := 14) (tgt := 18) ok dX7_load_14 (by decide) ?_
      refine x_callVi (pc := 18) ok [0, 11, 1, 10, 12, 13, 14, 2, 3, 4, 5, 6, 7, 8, 9, 15] 1 dX7_load_18 mv7_192 miX7_refused (c_refused (by unfold rg; omega)) ⟨by decide, by decide, rfl, rfl, Nat.zero_le _, Nat.zero_le _⟩ rfl rfl (Nat.le_of_ble_eq_true rfl) rfl rfl (by decide) rfl rfl rfl ?_
      refine a_if_eq (pc := 21) (tgt := 26) ok dX7_load_21 (by decide) (by first | omega | (unfold rg; omega) | (simp only [rg] at *; omega) | exact bz_rg _ | grind [rg]) (fun c21 => ?_) (fun c21 => ?_)
      · refine AW.cast (M2 := (mdW (0) sz S ac B I m Fi Co Br Wt mk (gy') (S') tx di ke ik ea sd rt lf wy (sp') (ou'))) ?_ rfl rfl rfl
        refine a_aload_n (pc := 26) ok dX7_load_26 rfl ?_
        refine a_getf (pc := 27) ok dX7_load_27 fl7_16 rfl rfl ?_
        refine a_iconst (pc := 30) ok dX7_load_30 ?_
        refine a_aload_n (pc := 31) ok dX7_load_31 rfl ?_
        refine a_getf (pc := 32) ok dX7_load_32 fl7_13 rfl rfl ?_
        refine a_iconst (pc := 35) ok dX7_load_35 ?_
        refine a_callSv (pc := 36) ok [10, 1] dX7_load_36 mv7_246 miX7_copyState (c_copyRow) ⟨by decide, by decide, rfl, rfl, Nat.zero_le _, Nat.zero_le _⟩ rfl rfl (Nat.le_of_ble_eq_true rfl) rfl (by decide) rfl ?_
        refine AW.cast (M2 := (mdW (0) sz (S') ac B I m Fi Co Br Wt mk (gy') (S') tx di ke ik ea sd rt lf wy (sp') (ou'))) ?_ rfl rfl rfl
        refine a_aload_n (pc := 39) ok dX7_load_39 rfl ?_
        refine a_iconst (pc := 40) ok dX7_load_40 ?_
        refine a_putf (pc := 41) ok dX7_load_41 fp7_250 rfl (by first | rfl | decide) (by first | rfl | decide) (Nat.le_of_ble_eq_true rfl) ?_
        refine a_aload_n (pc := 44) ok dX7_load_44 rfl ?_
        refine a_getf (pc := 45) ok dX7_load_45 fl7_25 rfl rfl ?_
        refine a_iconst (pc := 48) ok dX7_load_48 ?_
        refine a_iconst (pc := 49) ok dX7_load_49 ?_
        refine a_zast (pc := 50) ok dX7_load_50 rfl (by decide) (by first | omega | (unfold rg; omega) | (simp only [rg] at *; omega) | exact bz_rg _ | grind [rg]) (by decide) ?_
        refine a_aload_n (pc := 51) ok dX7_load_51 rfl ?_
        refine a_getf (pc := 52) ok dX7_load_52 fl7_25 rfl rfl ?_
        refine a_iconst (pc := 55) ok dX7_load_55 ?_
        refine a_iconst (pc := 56) ok dX7_load_56 ?_
        refine a_zast (pc := 57) ok dX7_load_57 rfl (by decide) (by first | omega | (unfold rg; omega) | (simp only [rg] at *; omega) | exact bz_rg _ | grind [rg]) (by decide) ?_
        refine a_aload_n (pc := 58) ok dX7_load_58 rfl ?_
        refine a_getf (pc := 59) ok dX7_load_59 fl7_201 rfl rfl ?_
        exact a_iret (pc := 62) ok dX7_load_62 (⟨rfl, WM_mk hB hI⟩)
      · exact absurd rfl c21
  · rw [if_neg he, if_neg he, if_neg he, if_neg he, if_neg he] at ok
    refine a_aload_n (pc := 0) ok dX7_load_0 rfl ?_
    refine a_aload_n (pc := 1) ok dX7_load_1 rfl ?_
    refine a_aload_n (pc := 2) ok dX7_load_2 rfl ?_
    refine a_getf (pc := 3) ok dX7_load_3 fl7_16 rfl rfl ?_
    refine x_callV (pc := 6) ok [0, 10, 2, 3, 4, 5, 6, 7, 8, 9, 11, 1, 10, 12, 13, 14, 15] 11 dX7_load_6 mv7_243 miX7_readText (c_readText hn ht) ⟨by decide, by decide, rfl, rfl, Nat.zero_le _, Nat.zero_le _⟩ rfl rfl (Nat.le_of_ble_eq_true rfl) rfl rfl (by decide) rfl rfl (fun v M' h => by obtain ⟨_, _, _, _, _, h, _⟩ := h; rw [h]; rfl) ?_
    rintro _ M' ⟨rfl, S', gy', sp', ou', rfl, -⟩
    refine AW.cast (st2 := [iv (eP tx sz), .ref 0]) (M2 := (mdW rf sz S ac B I m Fi Co Br Wt mk (gy') (S') tx di ke ik ea sd rt lf wy (sp') (ou'))) ?_ rfl rfl rfl
    refine a_iconst (pc := 9) ok dX7_load_9 ?_
    refine a_icmp_ne (pc := 10) (tgt := 17) ok dX7_load_10 (by decide) (by first | omega | (unfold rg; omega) | (simp only [rg] at *; omega) | exact bz_rg _ | grind [rg]) (by first | omega | (unfold rg; omega) | (simp only [rg] at *; omega) | exact bz_rg _ | grind [rg]) (fun c10 => ?_) (fun c10 => ?_)
    · refine a_iconst (pc := 17) ok dX7_load_17 ?_
      refine x_callVi (pc := 18) ok [0, 11, 1, 10, 12, 13, 14, 2, 3, 4, 5, 6, 7, 8, 9, 15] 1 dX7_load_18 mv7_192 miX7_refused (c_refused (by unfold rg; omega)) ⟨by decide, by decide, rfl, rfl, Nat.zero_le _, Nat.zero_le _⟩ rfl rfl (Nat.le_of_ble_eq_true rfl) rfl rfl (by decide) rfl rfl rfl ?_
      refine a_if_eq (pc := 21) (tgt := 26) ok dX7_load_21 (by decide) (by first | omega | (unfold rg; omega) | (simp only [rg] at *; omega) | exact bz_rg _ | grind [rg]) (fun c21 => ?_) (fun c21 => ?_)
      · exact absurd c21 (by decide)
      · refine a_iconst (pc := 24) ok dX7_load_24 ?_
        exact a_iret (pc := 25) ok dX7_load_25 (⟨rfl, WM_mk hB hI⟩)
    · exact absurd c10 he
end MP1
