/-! THE LAW: what holds on each plate: rows behind an object. -/
section HR9
variable {X : Cx} {cc : ByteArray} {own0 : String} {ret : Option FieldType} {rm : Room} {post : Option Value → List va_E → Prop} {mc ms kc ks pc : Nat} {L : List (Option Value)} {st : List Value} {M R : List va_E}
/-- a new row of ints behind m cells -/
theorem a_newi {m n : Nat} {z : Int} (hm : M.length = m) (gk : GK X cc own0 ret rm post mc ms m) (hM : m < 4095) (hd : decode cc pc = .ok (.newarray .int, 2)) (hz : ¬ Int32.ofInt z < 0) (hN : (Int32.ofInt z).toNatClampNeg = n) (hbytes : n * componentBytes (newarray.typeOf .int) ≤ 536870912)
    (hroom : kc + 1 ≤ rm.cells ∧ ks + n ≤ rm.slots) (hcl : kcM m M) (hL : kcL m L = true) (hst : st.all (kcw m) = true)
    (k : ∀ X2 : Cx, smX X2 X → GK X2 cc own0 ret rm post mc ms (m + 1) → AW X2 (kc + 1) (ks + n) (pc + 2) L (.ref m :: st) (M ++ [ia n (fun _ => 0)])) : AW X kc ks pc L (iv z :: st) M := by
  subst hm
  exact a_newa (atype := .int) (t := 0) (n := n) (x := .inl (arr fun _ => 0)) gk hM hd ac_int (fun _ => rfl) (fun _ => rfl) True.intro (fun _ => rfl) hz hN hbytes hroom hcl hL hst k
theorem h_get (hM : M.length = 103) (j : Nat) : (M ++ R)[103 + j]? = R[j]? := by
  rw [List.getElem?_append_right (by omega), hM, Nat.add_sub_cancel_left]
theorem a_haL (ok : OK X cc own0 ret rm post mc ms) (hM : M.length = 103) {j n : Nat} {f : Int → Int} {i : Int} (hd : decode cc pc = .ok (.iaload, 1)) (hR : R[j]? = some (ia n f)) (hn : n ≤ 2147483647) (hi : 0 ≤ i ∧ i < n) (k : AW X kc ks (pc + 1) L (iv (f i) :: st) (M ++ R)) : AW X kc ks pc L (iv i :: .ref (103 + j) :: st) (M ++ R) :=
  a_iald ok hd ((h_get hM j).trans hR) hn hi k
theorem a_haS (ok : OK X cc own0 ret rm post mc ms) (hM : M.length = 103) {j n : Nat} {f : Int → Int} {i v : Int} (hd : decode cc pc = .ok (.iastore, 1)) (hR : R[j]? = some (ia n f)) (hn : n ≤ 2147483647) (hi : 0 ≤ i ∧ i < n) (k : AW X kc ks (pc + 1) L st (M ++ R.set j (ia n (up f i v)))) : AW X kc ks pc L (iv v :: iv i :: .ref (103 + j) :: st) (M ++ R) := by
  refine a_iast ok hd ((h_get hM j).trans hR) hn hi (AW.cast (M2 := M ++ R.set j (ia n (up f i v))) k rfl rfl ?_)
  rw [List.set_append_right _ _ (by omega), hM, Nat.add_sub_cancel_left]
/-- rows that are done with -/
theorem AW.drop (k : AW X kc ks pc L st M) : AW X kc ks pc L st (M ++ R) := by
  obtain ⟨⟨p, l, e, R0⟩, ⟨s, m, args, below⟩, ⟨meth, c, nL⟩, ⟨D, cT, ad⟩, A, Q⟩ := X
  intro H locs ls hP hD hS hl
  rw [cw_app] at hP hD
  exact k H locs ls (fun k q hq => hP k q (by rw [List.getElem?_append_left (List.getElem?_eq_some_iff.mp hq).1]; exact hq)) ⟨fun i j a b ha hb2 hab => hD.1 i j a b (by rw [List.getElem?_append_left (List.getElem?_eq_some_iff.mp ha).1]; exact ha) (by rw [List.getElem?_append_left (List.getElem?_eq_some_iff.mp hb2).1]; exact hb2) hab, fun k q hq => hD.2 k q (by rw [List.getElem?_append_left (List.getElem?_eq_some_iff.mp hq).1]; exact hq)⟩ hS hl
theorem fit_pair (hM : M.length = 103) {f g : Int → Int} {R : List va_E} : fitP [103, 104] (M ++ (ia 64 f :: ia 64 g :: R)) [ia 64 f, ia 64 g] := by
  have h0 := h_get (R := ia 64 f :: ia 64 g :: R) hM 0
  have h1 := h_get (R := ia 64 f :: ia 64 g :: R) hM 1
  unfold fitP
  show [(M ++ (ia 64 f :: ia 64 g :: R))[103 + 0]?, (M ++ (ia 64 f :: ia 64 g :: R))[103 + 1]?] = _
  rw [h0, h1]
  rfl
end HR9
abbrev rgL_pair : Room := { frames := 0, cells := 0, slots := 0, locals := 0 }
theorem miL_pair : MI yL_pair cL_pair 4 (some .boolean) 4 := ⟨ug5 53 (by exact rfl) rfl, by decide +kernel, by decide +kernel, ug1 0 (by decide +kernel) rfl⟩
theorem dL_pair_0 : decode cL_pair 0 = .ok (.aload_n 0, 1) := by decide +kernel
theorem dL_pair_1 : decode cL_pair 1 = .ok (.iload_n 2, 1) := by decide +kernel
theorem dL_pair_2 : decode cL_pair 2 = .ok (.iaload, 1) := by decide +kernel
theorem dL_pair_3 : decode cL_pair 3 = .ok (.aload_n 0, 1) := by decide +kernel
theorem dL_pair_4 : decode cL_pair 4 = .ok (.iload_n 3, 1) := by decide +kernel
theorem dL_pair_5 : decode cL_pair 5 = .ok (.iaload, 1) := by decide +kernel
theorem dL_pair_6 : decode cL_pair 6 = .ok (.if_icmp .ne 7, 3) := by decide +kernel
theorem dL_pair_9 : decode cL_pair 9 = .ok (.iconst 1, 1) := by decide +kernel
theorem dL_pair_10 : decode cL_pair 10 = .ok (.goto 4, 3) := by decide +kernel
theorem dL_pair_13 : decode cL_pair 13 = .ok (.iconst 0, 1) := by decide +kernel
theorem dL_pair_14 : decode cL_pair 14 = .ok (.aload_n 1, 1) := by decide +kernel
theorem dL_pair_15 : decode cL_pair 15 = .ok (.iload_n 2, 1) := by decide +kernel
theorem dL_pair_16 : decode cL_pair 16 = .ok (.iaload, 1) := by decide +kernel
theorem dL_pair_17 : decode cL_pair 17 = .ok (.aload_n 1, 1) := by decide +kernel
theorem dL_pair_18 : decode cL_pair 18 = .ok (.iload_n 3, 1) := by decide +kernel
theorem dL_pair_19 : decode cL_pair 19 = .ok (.iaload, 1) := by decide +kernel
theorem dL_pair_20 : decode cL_pair 20 = .ok (.if_icmp .ne 7, 3) := by decide +kernel
theorem dL_pair_23 : decode cL_pair 23 = .ok (.iconst 1, 1) := by decide +kernel
theorem dL_pair_24 : decode cL_pair 24 = .ok (.goto 4, 3) := by decide +kernel
theorem dL_pair_27 : decode cL_pair 27 = .ok (.iconst 0, 1) := by decide +kernel
theorem dL_pair_28 : decode cL_pair 28 = .ok (.if_icmp .ne 7, 3) := by decide +kernel
theorem dL_pair_31 : decode cL_pair 31 = .ok (.iconst 1, 1) := by decide +kernel
theorem dL_pair_32 : decode cL_pair 32 = .ok (.goto 4, 3) := by decide +kernel
theorem dL_pair_35 : decode cL_pair 35 = .ok (.iconst 0, 1) := by decide +kernel
theorem dL_pair_36 : decode cL_pair 36 = .ok (.ireturn, 1) := by decide +kernel
theorem c_lpair {l : Launch} {f g : Int → Int} {k t : Int} (hk : 0 ≤ k ∧ k < 64) (ht : 0 ≤ t ∧ t < 64) (r1 : rg (f k)) (r2 : rg (f t)) (r3 : rg (g k)) (r4 : rg (g t)) (h : f k = f t ↔ g k = g t) : Cd l yL_pair cL_pair 4 (some .boolean) rgL_pair [.ref 0, .ref 1, iv k, iv t] [ia 64 f, ia 64 g] (some (iv 1)) [ia 64 f, ia 64 g] := by
  refine Ct.of miL_pair (Nat.le_of_ble_eq_true rfl) ?_
  intro X hXl hN ok
  refine AW.cast (L2 := [some (.ref 0), some (.ref 1), some (iv k), some (iv t)]) ?_ rfl rfl rfl
  refine a_aload_n (pc := 0) ok dL_pair_0 rfl ?_
  refine a_iload_n (pc := 1) ok dL_pair_1 rfl ?_
  refine a_iald (pc := 2) ok dL_pair_2 rfl (by first | decide | omega) (by omega) ?_
  refine a_aload_n (pc := 3) ok dL_pair_3 rfl ?_
  refine a_iload_n (pc := 4) ok dL_pair_4 rfl ?_
  refine a_iald (pc := 5) ok dL_pair_5 rfl (by first | decide | omega) (by omega) ?_
  refine a_icmp_ne (pc := 6) (tgt := 13) ok dL_pair_6 (by decide) (by first | exact r1 | exact r2) (by first | exact r1 | exact r2) (fun c6 => ?_) (fun c6 => ?_)
  · refine a_iconst (pc := 13) ok dL_pair_13 ?_
    refine a_aload_n (pc := 14) ok dL_pair_14 rfl ?_
    refine a_iload_n (pc := 15) ok dL_pair_15 rfl ?_
    refine a_iald (pc := 16) ok dL_pair_16 rfl (by first | decide | omega) (by omega) ?_
    refine a_aload_n (pc := 17) ok dL_pair_17 rfl ?_
    refine a_iload_n (pc := 18) ok dL_pair_18 rfl ?_
    refine a_iald (pc := 19) ok dL_pair_19 rfl (by first | decide | omega) (by omega) ?_
    refine a_icmp_ne (pc := 20) (tgt := 27) ok dL_pair_20 (by decide) (by first | exact r3 | exact r4) (by first | exact r3 | exact r4) (fun c20 => ?_) (fun c20 => ?_)
    · refine a_iconst (pc := 27) ok dL_pair_27 ?_
      refine a_icmp_ne (pc := 28) (tgt := 35) ok dL_pair_28 (by decide) (by first | assumption | exact rg_w _ | exact rg_tw (by unfold rg; omega) (by unfold rg; omega) | (unfold rg; omega) | omega | exact bz_rg _ | grind [rg]) (by first | assumption | exact rg_w _ | exact rg_tw (by unfold rg; omega) (by unfold rg; omega) | (unfold rg; omega) | omega | exact bz_rg _ | grind [rg]) (fun c28 => ?_) (fun c28 => ?_)
      · exfalso; first | omega | grind
      · refine a_iconst (pc := 31) ok dL_pair_31 ?_
        refine a_goto (pc := 32) (tgt := 36) ok dL_pair_32 (by decide) ?_
        exact a_zret (pc := 36) ok dL_pair_36 (by first | rfl | exact nb_bz _ | exact @nb_bz _ (Classical.propDecidable _) | decide | exact nb_01 (by assumption)) (⟨rfl, rfl⟩)
    · refine a_iconst (pc := 23) ok dL_pair_23 ?_
      refine a_goto (pc := 24) (tgt := 28) ok dL_pair_24 (by decide) ?_
      refine a_icmp_ne (pc := 28) (tgt := 35) ok dL_pair_28 (by decide) (by first | assumption | exact rg_w _ | exact rg_tw (by unfold rg; omega) (by unfold rg; omega) | (unfold rg; omega) | omega | exact bz_rg _ | grind [rg]) (by first | assumption | exact rg_w _ | exact rg_tw (by unfold rg; omega) (by unfold rg; omega) | (unfold rg; omega) | omega | exact bz_rg _ | grind [rg]) (fun c28 => ?_) (fun c28 => ?_)
      · exact absurd (h.mpr (by first | exact c20 | exact Decidable.not_not.mp c20)) c6
      · exact absurd (h.mpr (by first | exact c20 | exact Decidable.not_not.mp c20)) c6
  · refine a_iconst (pc := 9) ok dL_pair_9 ?_
    refine a_goto (pc := 10) (tgt := 14) ok dL_pair_10 (by decide) ?_
    refine a_aload_n (pc := 14) ok dL_pair_14 rfl ?_
    refine a_iload_n (pc := 15) ok dL_pair_15 rfl ?_
    refine a_iald (pc := 16) ok dL_pair_16 rfl (by first | decide | omega) (by omega) ?_
    refine a_aload_n (pc := 17) ok dL_pair_17 rfl ?_
    refine a_iload_n (pc := 18) ok dL_pair_18 rfl ?_
    refine a_iald (pc := 19) ok dL_pair_19 rfl (by first | decide | omega) (by omega) ?_
    refine a_icmp_ne (pc := 20) (tgt := 27) ok dL_pair_20 (by decide) (by first | exact r3 | exact r4) (by first | exact r3 | exact r4) (fun c20 => ?_) (fun c20 => ?_)
    · refine a_iconst (pc := 27) ok dL_pair_27 ?_
      refine a_icmp_ne (pc := 28) (tgt := 35) ok dL_pair_28 (by decide) (by first | assumption | exact rg_w _ | exact rg_tw (by unfold rg; omega) (by unfold rg; omega) | (unfold rg; omega) | omega | exact bz_rg _ | grind [rg]) (by first | assumption | exact rg_w _ | exact rg_tw (by unfold rg; omega) (by unfold rg; omega) | (unfold rg; omega) | omega | exact bz_rg _ | grind [rg]) (fun c28 => ?_) (fun c28 => ?_)
      · exact absurd (h.mp (by first | exact c6 | exact Decidable.not_not.mp c6)) c20
      · exact absurd (h.mp (by first | exact c6 | exact Decidable.not_not.mp c6)) c20
    · refine a_iconst (pc := 23) ok dL_pair_23 ?_
      refine a_goto (pc := 24) (tgt := 28) ok dL_pair_24 (by decide) ?_
      refine a_icmp_ne (pc := 28) (tgt := 35) ok dL_pair_28 (by decide) (by first | assumption | exact rg_w _ | exact rg_tw (by unfold rg; omega) (by unfold rg; omega) | (unfold rg; omega) | omega | exact bz_rg _ | grind [rg]) (by first | assumption | exact rg_w _ | exact rg_tw (by unfold rg; omega) (by unfold rg; omega) | (unfold rg; omega) | omega | exact bz_rg _ | grind [rg]) (fun c28 => ?_) (fun c28 => ?_)
      · exfalso; first | omega | grind
      · refine a_iconst (pc := 31) ok dL_pair_31 ?_
        refine a_goto (pc := 32) (tgt := 36) ok dL_pair_32 (by decide) ?_
        exact a_zret (pc := 36) ok dL_pair_36 (by first | rfl | exact nb_bz _ | exact @nb_bz _ (Classical.propDecidable _) | decide | exact nb_01 (by assumption)) (⟨rfl, rfl⟩)
abbrev rgL_holds : Room := { frames := 11, cells := 5000, slots := 40000, locals := 268 }
theorem miL_holds : MI yL_holds cL_holds 21 (some .boolean) 1 := ⟨ug5 50 (by exact rfl) rfl, by decide +kernel, by decide +kernel, ug1 0 (by decide +kernel) rfl⟩
theorem dL_holds_0 : decode cL_holds 0 = .ok (.aload_n 0, 1) := by decide +kernel
theorem dL_holds_1 : decode cL_holds 1 = .ok (.iconst 2, 1) := by decide +kernel
theorem dL_holds_2 : decode cL_holds 2 = .ok (.iconst 0, 1) := by decide +kernel
theorem dL_holds_3 : decode cL_holds 3 = .ok (.iconst 0, 1) := by decide +kernel
theorem dL_holds_4 : decode cL_holds 4 = .ok (.iconst 0, 1) := by decide +kernel
theorem dL_holds_5 : decode cL_holds 5 = .ok (.invokestatic 191, 3) := by decide +kernel
theorem dL_holds_8 : decode cL_holds 8 = .ok (.istore_n 1, 1) := by decide +kernel
theorem dL_holds_9 : decode cL_holds 9 = .ok (.aload_n 0, 1) := by decide +kernel
theorem dL_holds_10 : decode cL_holds 10 = .ok (.iconst 2, 1) := by decide +kernel
theorem dL_holds_11 : decode cL_holds 11 = .ok (.iconst 1, 1) := by decide +kernel
theorem dL_holds_12 : decode cL_holds 12 = .ok (.iconst 0, 1) := by decide +kernel
theorem dL_holds_13 : decode cL_holds 13 = .ok (.iconst 0, 1) := by decide +kernel
theorem dL_holds_14 : decode cL_holds 14 = .ok (.invokestatic 191, 3) := by decide +kernel
theorem dL_holds_17 : decode cL_holds 17 = .ok (.istore_n 2, 1) := by decide +kernel
theorem dL_holds_18 : decode cL_holds 18 = .ok (.aload_n 0, 1) := by decide +kernel
theorem dL_holds_19 : decode cL_holds 19 = .ok (.iconst 2, 1) := by decide +kernel
theorem dL_holds_20 : decode cL_holds 20 = .ok (.iconst 2, 1) := by decide +kernel
theorem dL_holds_21 : decode cL_holds 21 = .ok (.iconst 0, 1) := by decide +kernel
theorem dL_holds_22 : decode cL_holds 22 = .ok (.iconst 0, 1) := by decide +kernel
theorem dL_holds_23 : decode cL_holds 23 = .ok (.invokestatic 191, 3) := by decide +kernel
theorem dL_holds_26 : decode cL_holds 26 = .ok (.istore_n 3, 1) := by decide +kernel
theorem dL_holds_27 : decode cL_holds 27 = .ok (.aload_n 0, 1) := by decide +kernel
theorem dL_holds_28 : decode cL_holds 28 = .ok (.iconst 2, 1) := by decide +kernel
theorem dL_holds_29 : decode cL_holds 29 = .ok (.iconst 3, 1) := by decide +kernel
theorem dL_holds_30 : decode cL_holds 30 = .ok (.iconst 0, 1) := by decide +kernel
theorem dL_holds_31 : decode cL_holds 31 = .ok (.iconst 0, 1) := by decide +kernel
theorem dL_holds_32 : decode cL_holds 32 = .ok (.invokestatic 191, 3) := by decide +kernel
theorem dL_holds_35 : decode cL_holds 35 = .ok (.istore 4, 2) := by decide +kernel
theorem dL_holds_37 : decode cL_holds 37 = .ok (.aload_n 0, 1) := by decide +kernel
theorem dL_holds_38 : decode cL_holds 38 = .ok (.iconst 2, 1) := by decide +kernel
theorem dL_holds_39 : decode cL_holds 39 = .ok (.iconst 4, 1) := by decide +kernel
theorem dL_holds_40 : decode cL_holds 40 = .ok (.iconst 0, 1) := by decide +kernel
theorem dL_holds_41 : decode cL_holds 41 = .ok (.iconst 0, 1) := by decide +kernel
theorem dL_holds_42 : decode cL_holds 42 = .ok (.invokestatic 191, 3) := by decide +kernel
theorem dL_holds_45 : decode cL_holds 45 = .ok (.istore 5, 2) := by decide +kernel
theorem dL_holds_47 : decode cL_holds 47 = .ok (.iload_n 1, 1) := by decide +kernel
theorem dL_holds_48 : decode cL_holds 48 = .ok (.iload_n 2, 1) := by decide +kernel
theorem dL_holds_49 : decode cL_holds 49 = .ok (.imul, 1) := by decide +kernel
theorem dL_holds_50 : decode cL_holds 50 = .ok (.istore 6, 2) := by decide +kernel
theorem dL_holds_52 : decode cL_holds 52 = .ok (.bipush 64, 2) := by decide +kernel
theorem dL_holds_54 : decode cL_holds 54 = .ok (.newarray .int, 2) := by decide +kernel
theorem dL_holds_56 : decode cL_holds 56 = .ok (.astore 7, 2) := by decide +kernel
theorem dL_holds_58 : decode cL_holds 58 = .ok (.bipush 64, 2) := by decide +kernel
theorem dL_holds_60 : decode cL_holds 60 = .ok (.newarray .int, 2) := by decide +kernel
theorem dL_holds_62 : decode cL_holds 62 = .ok (.astore 8, 2) := by decide +kernel
theorem dL_holds_64 : decode cL_holds 64 = .ok (.bipush 64, 2) := by decide +kernel
theorem dL_holds_66 : decode cL_holds 66 = .ok (.newarray .int, 2) := by decide +kernel
theorem dL_holds_68 : decode cL_holds 68 = .ok (.astore 9, 2) := by decide +kernel
theorem dL_holds_70 : decode cL_holds 70 = .ok (.bipush 6, 2) := by decide +kernel
theorem dL_holds_72 : decode cL_holds 72 = .ok (.newarray .int, 2) := by decide +kernel
theorem dL_holds_74 : decode cL_holds 74 = .ok (.astore 10, 2) := by decide +kernel
theorem dL_holds_76 : decode cL_holds 76 = .ok (.iconst 5, 1) := by decide +kernel
theorem dL_holds_77 : decode cL_holds 77 = .ok (.newarray .int, 2) := by decide +kernel
theorem dL_holds_79 : decode cL_holds 79 = .ok (.astore 11, 2) := by decide +kernel
theorem dL_holds_81 : decode cL_holds 81 = .ok (.iconst 0, 1) := by decide +kernel
theorem dL_holds_82 : decode cL_holds 82 = .ok (.istore 12, 2) := by decide +kernel
theorem dL_holds_84 : decode cL_holds 84 = .ok (.iconst 0, 1) := by decide +kernel
theorem dL_holds_85 : decode cL_holds 85 = .ok (.istore 13, 2) := by decide +kernel
theorem dL_holds_87 : decode cL_holds 87 = .ok (.iload_n 3, 1) := by decide +kernel
theorem dL_holds_88 : decode cL_holds 88 = .ok (.ifCond .lt 24, 3) := by decide +kernel
theorem dL_holds_91 : decode cL_holds 91 = .ok (.iload_n 3, 1) := by decide +kernel
theorem dL_holds_92 : decode cL_holds 92 = .ok (.iconst 5, 1) := by decide +kernel
theorem dL_holds_93 : decode cL_holds 93 = .ok (.if_icmp .gt 19, 3) := by decide +kernel
theorem dL_holds_96 : decode cL_holds 96 = .ok (.iload 5, 2) := by decide +kernel
theorem dL_holds_98 : decode cL_holds 98 = .ok (.ifCond .le 14, 3) := by decide +kernel
theorem dL_holds_101 : decode cL_holds 101 = .ok (.iload 5, 2) := by decide +kernel
theorem dL_holds_103 : decode cL_holds 103 = .ok (.iload 6, 2) := by decide +kernel
theorem dL_holds_105 : decode cL_holds 105 = .ok (.if_icmp .gt 7, 3) := by decide +kernel
theorem dL_holds_108 : decode cL_holds 108 = .ok (.iconst 1, 1) := by decide +kernel
theorem dL_holds_109 : decode cL_holds 109 = .ok (.goto 4, 3) := by decide +kernel
theorem dL_holds_112 : decode cL_holds 112 = .ok (.iconst 0, 1) := by decide +kernel
theorem dL_holds_113 : decode cL_holds 113 = .ok (.istore 14, 2) := by decide +kernel
theorem dL_holds_115 : decode cL_holds 115 = .ok (.iconst 0, 1) := by decide +kernel
theorem dL_holds_116 : decode cL_holds 116 = .ok (.istore 15, 2) := by decide +kernel
theorem dL_holds_118 : decode cL_holds 118 = .ok (.iload 15, 2) := by decide +kernel
theorem dL_holds_120 : decode cL_holds 120 = .ok (.iload_n 3, 1) := by decide +kernel
theorem dL_holds_121 : decode cL_holds 121 = .ok (.if_icmp .ge 69, 3) := by decide +kernel
theorem dL_holds_124 : decode cL_holds 124 = .ok (.iload 14, 2) := by decide +kernel
theorem dL_holds_126 : decode cL_holds 126 = .ok (.ifCond .eq 64, 3) := by decide +kernel
theorem dL_holds_129 : decode cL_holds 129 = .ok (.aload 11, 2) := by decide +kernel
theorem dL_holds_131 : decode cL_holds 131 = .ok (.iload 15, 2) := by decide +kernel
theorem dL_holds_133 : decode cL_holds 133 = .ok (.aload_n 0, 1) := by decide +kernel
theorem dL_holds_134 : decode cL_holds 134 = .ok (.iconst 4, 1) := by decide +kernel
theorem dL_holds_135 : decode cL_holds 135 = .ok (.iload 15, 2) := by decide +kernel
theorem dL_holds_137 : decode cL_holds 137 = .ok (.iconst 0, 1) := by decide +kernel
theorem dL_holds_138 : decode cL_holds 138 = .ok (.iconst 0, 1) := by decide +kernel
theorem dL_holds_139 : decode cL_holds 139 = .ok (.invokestatic 191, 3) := by decide +kernel
theorem dL_holds_142 : decode cL_holds 142 = .ok (.iastore, 1) := by decide +kernel
theorem dL_holds_143 : decode cL_holds 143 = .ok (.aload 11, 2) := by decide +kernel
theorem dL_holds_145 : decode cL_holds 145 = .ok (.iload 15, 2) := by decide +kernel
theorem dL_holds_147 : decode cL_holds 147 = .ok (.iaload, 1) := by decide +kernel
theorem dL_holds_148 : decode cL_holds 148 = .ok (.iload 15, 2) := by decide +kernel
theorem dL_holds_150 : decode cL_holds 150 = .ok (.ifCond .ne 7, 3) := by decide +kernel
theorem dL_holds_153 : decode cL_holds 153 = .ok (.iconst 0, 1) := by decide +kernel
theorem dL_holds_154 : decode cL_holds 154 = .ok (.goto 10, 3) := by decide +kernel
theorem dL_holds_157 : decode cL_holds 157 = .ok (.aload 11, 2) := by decide +kernel
theorem dL_holds_159 : decode cL_holds 159 = .ok (.iload 15, 2) := by decide +kernel
theorem dL_holds_161 : decode cL_holds 161 = .ok (.iconst 1, 1) := by decide +kernel
theorem dL_holds_162 : decode cL_holds 162 = .ok (.isub, 1) := by decide +kernel
theorem dL_holds_163 : decode cL_holds 163 = .ok (.iaload, 1) := by decide +kernel
theorem dL_holds_164 : decode cL_holds 164 = .ok (.if_icmp .le 17, 3) := by decide +kernel
theorem dL_holds_167 : decode cL_holds 167 = .ok (.aload 11, 2) := by decide +kernel
theorem dL_holds_169 : decode cL_holds 169 = .ok (.iload 15, 2) := by decide +kernel
theorem dL_holds_171 : decode cL_holds 171 = .ok (.iaload, 1) := by decide +kernel
theorem dL_holds_172 : decode cL_holds 172 = .ok (.bipush 100, 2) := by decide +kernel
theorem dL_holds_174 : decode cL_holds 174 = .ok (.if_icmp .ge 7, 3) := by decide +kernel
theorem dL_holds_177 : decode cL_holds 177 = .ok (.iconst 1, 1) := by decide +kernel
theorem dL_holds_178 : decode cL_holds 178 = .ok (.goto 4, 3) := by decide +kernel
theorem dL_holds_181 : decode cL_holds 181 = .ok (.iconst 0, 1) := by decide +kernel
theorem dL_holds_182 : decode cL_holds 182 = .ok (.istore 14, 2) := by decide +kernel
theorem dL_holds_184 : decode cL_holds 184 = .ok (.iinc 15 1, 3) := by decide +kernel
theorem dL_holds_187 : decode cL_holds 187 = .ok (.goto (-69), 3) := by decide +kernel
theorem dL_holds_190 : decode cL_holds 190 = .ok (.iconst 0, 1) := by decide +kernel
theorem dL_holds_191 : decode cL_holds 191 = .ok (.istore 15, 2) := by decide +kernel
theorem dL_holds_193 : decode cL_holds 193 = .ok (.iconst 0, 1) := by decide +kernel
theorem dL_holds_194 : decode cL_holds 194 = .ok (.istore 16, 2) := by decide +kernel
theorem dL_holds_196 : decode cL_holds 196 = .ok (.iload 16, 2) := by decide +kernel
theorem dL_holds_198 : decode cL_holds 198 = .ok (.iload 6, 2) := by decide +kernel
theorem dL_holds_200 : decode cL_holds 200 = .ok (.if_icmp .ge 246, 3) := by decide +kernel
theorem dL_holds_203 : decode cL_holds 203 = .ok (.iload 14, 2) := by decide +kernel
theorem dL_holds_205 : decode cL_holds 205 = .ok (.ifCond .eq 241, 3) := by decide +kernel
theorem dL_holds_208 : decode cL_holds 208 = .ok (.aload_n 0, 1) := by decide +kernel
theorem dL_holds_209 : decode cL_holds 209 = .ok (.iconst 3, 1) := by decide +kernel
theorem dL_holds_210 : decode cL_holds 210 = .ok (.iload 16, 2) := by decide +kernel
theorem dL_holds_212 : decode cL_holds 212 = .ok (.iload_n 1, 1) := by decide +kernel
theorem dL_holds_213 : decode cL_holds 213 = .ok (.irem, 1) := by decide +kernel
theorem dL_holds_214 : decode cL_holds 214 = .ok (.iload 16, 2) := by decide +kernel
theorem dL_holds_216 : decode cL_holds 216 = .ok (.iload_n 1, 1) := by decide +kernel
theorem dL_holds_217 : decode cL_holds 217 = .ok (.idiv, 1) := by decide +kernel
theorem dL_holds_218 : decode cL_holds 218 = .ok (.iconst 0, 1) := by decide +kernel
theorem dL_holds_219 : decode cL_holds 219 = .ok (.invokestatic 191, 3) := by decide +kernel
theorem dL_holds_222 : decode cL_holds 222 = .ok (.istore 17, 2) := by decide +kernel
theorem dL_holds_224 : decode cL_holds 224 = .ok (.iconst 0, 1) := by decide +kernel
theorem dL_holds_225 : decode cL_holds 225 = .ok (.istore 18, 2) := by decide +kernel
theorem dL_holds_227 : decode cL_holds 227 = .ok (.iconst 0, 1) := by decide +kernel
theorem dL_holds_228 : decode cL_holds 228 = .ok (.istore 19, 2) := by decide +kernel
theorem dL_holds_230 : decode cL_holds 230 = .ok (.iload 19, 2) := by decide +kernel
theorem dL_holds_232 : decode cL_holds 232 = .ok (.iload_n 3, 1) := by decide +kernel
theorem dL_holds_233 : decode cL_holds 233 = .ok (.if_icmp .ge 29, 3) := by decide +kernel
theorem dL_holds_236 : decode cL_holds 236 = .ok (.iload 18, 2) := by decide +kernel
theorem dL_holds_238 : decode cL_holds 238 = .ok (.aload 11, 2) := by decide +kernel
theorem dL_holds_240 : decode cL_holds 240 = .ok (.iload 19, 2) := by decide +kernel
theorem dL_holds_242 : decode cL_holds 242 = .ok (.iaload, 1) := by decide +kernel
theorem dL_holds_243 : decode cL_holds 243 = .ok (.iload 17, 2) := by decide +kernel
theorem dL_holds_245 : decode cL_holds 245 = .ok (.if_icmp .gt 7, 3) := by decide +kernel
theorem dL_holds_248 : decode cL_holds 248 = .ok (.iconst 1, 1) := by decide +kernel
theorem dL_holds_249 : decode cL_holds 249 = .ok (.goto 4, 3) := by decide +kernel
theorem dL_holds_252 : decode cL_holds 252 = .ok (.iconst 0, 1) := by decide +kernel
theorem dL_holds_253 : decode cL_holds 253 = .ok (.iadd, 1) := by decide +kernel
theorem dL_holds_254 : decode cL_holds 254 = .ok (.istore 18, 2) := by decide +kernel
theorem dL_holds_256 : decode cL_holds 256 = .ok (.iinc 19 1, 3) := by decide +kernel
theorem dL_holds_259 : decode cL_holds 259 = .ok (.goto (-29), 3) := by decide +kernel
theorem dL_holds_262 : decode cL_holds 262 = .ok (.aload 7, 2) := by decide +kernel
theorem dL_holds_264 : decode cL_holds 264 = .ok (.iload 16, 2) := by decide +kernel
theorem dL_holds_266 : decode cL_holds 266 = .ok (.aload_n 0, 1) := by decide +kernel
theorem dL_holds_267 : decode cL_holds 267 = .ok (.iconst 3, 1) := by decide +kernel
theorem dL_holds_268 : decode cL_holds 268 = .ok (.iload 16, 2) := by decide +kernel
theorem dL_holds_270 : decode cL_holds 270 = .ok (.iload_n 1, 1) := by decide +kernel
theorem dL_holds_271 : decode cL_holds 271 = .ok (.irem, 1) := by decide +kernel
theorem dL_holds_272 : decode cL_holds 272 = .ok (.iload 16, 2) := by decide +kernel
theorem dL_holds_274 : decode cL_holds 274 = .ok (.iload_n 1, 1) := by decide +kernel
theorem dL_holds_275 : decode cL_holds 275 = .ok (.idiv, 1) := by decide +kernel
theorem dL_holds_276 : decode cL_holds 276 = .ok (.iconst 2, 1) := by decide +kernel
theorem dL_holds_277 : decode cL_holds 277 = .ok (.invokestatic 191, 3) := by decide +kernel
theorem dL_holds_280 : decode cL_holds 280 = .ok (.iastore, 1) := by decide +kernel
theorem dL_holds_281 : decode cL_holds 281 = .ok (.aload 8, 2) := by decide +kernel
theorem dL_holds_283 : decode cL_holds 283 = .ok (.iload 16, 2) := by decide +kernel
theorem dL_holds_285 : decode cL_holds 285 = .ok (.aload_n 0, 1) := by decide +kernel
theorem dL_holds_286 : decode cL_holds 286 = .ok (.iconst 3, 1) := by decide +kernel
theorem dL_holds_287 : decode cL_holds 287 = .ok (.iload 16, 2) := by decide +kernel
theorem dL_holds_289 : decode cL_holds 289 = .ok (.iload_n 1, 1) := by decide +kernel
theorem dL_holds_290 : decode cL_holds 290 = .ok (.irem, 1) := by decide +kernel
theorem dL_holds_291 : decode cL_holds 291 = .ok (.iload 16, 2) := by decide +kernel
theorem dL_holds_293 : decode cL_holds 293 = .ok (.iload_n 1, 1) := by decide +kernel
theorem dL_holds_294 : decode cL_holds 294 = .ok (.idiv, 1) := by decide +kernel
theorem dL_holds_295 : decode cL_holds 295 = .ok (.iconst 3, 1) := by decide +kernel
theorem dL_holds_296 : decode cL_holds 296 = .ok (.invokestatic 191, 3) := by decide +kernel
theorem dL_holds_299 : decode cL_holds 299 = .ok (.iastore, 1) := by decide +kernel
theorem dL_holds_300 : decode cL_holds 300 = .ok (.iload 13, 2) := by decide +kernel
theorem dL_holds_302 : decode cL_holds 302 = .ok (.iload 17, 2) := by decide +kernel
theorem dL_holds_304 : decode cL_holds 304 = .ok (.iadd, 1) := by decide +kernel
theorem dL_holds_305 : decode cL_holds 305 = .ok (.istore 13, 2) := by decide +kernel
theorem dL_holds_307 : decode cL_holds 307 = .ok (.iload 12, 2) := by decide +kernel
theorem dL_holds_309 : decode cL_holds 309 = .ok (.iload 18, 2) := by decide +kernel
theorem dL_holds_311 : decode cL_holds 311 = .ok (.aload 7, 2) := by decide +kernel
theorem dL_holds_313 : decode cL_holds 313 = .ok (.iload 16, 2) := by decide +kernel
theorem dL_holds_315 : decode cL_holds 315 = .ok (.iaload, 1) := by decide +kernel
theorem dL_holds_316 : decode cL_holds 316 = .ok (.if_icmp .ne 7, 3) := by decide +kernel
theorem dL_holds_319 : decode cL_holds 319 = .ok (.iconst 0, 1) := by decide +kernel
theorem dL_holds_320 : decode cL_holds 320 = .ok (.goto 4, 3) := by decide +kernel
theorem dL_holds_323 : decode cL_holds 323 = .ok (.iconst 1, 1) := by decide +kernel
theorem dL_holds_324 : decode cL_holds 324 = .ok (.iadd, 1) := by decide +kernel
theorem dL_holds_325 : decode cL_holds 325 = .ok (.istore 12, 2) := by decide +kernel
theorem dL_holds_327 : decode cL_holds 327 = .ok (.iload 17, 2) := by decide +kernel
theorem dL_holds_329 : decode cL_holds 329 = .ok (.ifCond .lt 59, 3) := by decide +kernel
theorem dL_holds_332 : decode cL_holds 332 = .ok (.iload 17, 2) := by decide +kernel
theorem dL_holds_334 : decode cL_holds 334 = .ok (.bipush 100, 2) := by decide +kernel
theorem dL_holds_336 : decode cL_holds 336 = .ok (.if_icmp .ge 52, 3) := by decide +kernel
theorem dL_holds_339 : decode cL_holds 339 = .ok (.aload 7, 2) := by decide +kernel
theorem dL_holds_341 : decode cL_holds 341 = .ok (.iload 16, 2) := by decide +kernel
theorem dL_holds_343 : decode cL_holds 343 = .ok (.iaload, 1) := by decide +kernel
theorem dL_holds_344 : decode cL_holds 344 = .ok (.ifCond .lt 44, 3) := by decide +kernel
theorem dL_holds_347 : decode cL_holds 347 = .ok (.aload 7, 2) := by decide +kernel
theorem dL_holds_349 : decode cL_holds 349 = .ok (.iload 16, 2) := by decide +kernel
theorem dL_holds_351 : decode cL_holds 351 = .ok (.iaload, 1) := by decide +kernel
theorem dL_holds_352 : decode cL_holds 352 = .ok (.iload_n 3, 1) := by decide +kernel
theorem dL_holds_353 : decode cL_holds 353 = .ok (.if_icmp .gt 35, 3) := by decide +kernel
theorem dL_holds_356 : decode cL_holds 356 = .ok (.aload 8, 2) := by decide +kernel
theorem dL_holds_358 : decode cL_holds 358 = .ok (.iload 16, 2) := by decide +kernel
theorem dL_holds_360 : decode cL_holds 360 = .ok (.iaload, 1) := by decide +kernel
theorem dL_holds_361 : decode cL_holds 361 = .ok (.ifCond .lt 27, 3) := by decide +kernel
theorem dL_holds_364 : decode cL_holds 364 = .ok (.aload 8, 2) := by decide +kernel
theorem dL_holds_366 : decode cL_holds 366 = .ok (.iload 16, 2) := by decide +kernel
theorem dL_holds_368 : decode cL_holds 368 = .ok (.iaload, 1) := by decide +kernel
theorem dL_holds_369 : decode cL_holds 369 = .ok (.iload 15, 2) := by decide +kernel
theorem dL_holds_371 : decode cL_holds 371 = .ok (.if_icmp .gt 17, 3) := by decide +kernel
theorem dL_holds_374 : decode cL_holds 374 = .ok (.aload 8, 2) := by decide +kernel
theorem dL_holds_376 : decode cL_holds 376 = .ok (.iload 16, 2) := by decide +kernel
theorem dL_holds_378 : decode cL_holds 378 = .ok (.iaload, 1) := by decide +kernel
theorem dL_holds_379 : decode cL_holds 379 = .ok (.iload 5, 2) := by decide +kernel
theorem dL_holds_381 : decode cL_holds 381 = .ok (.if_icmp .ge 7, 3) := by decide +kernel
theorem dL_holds_384 : decode cL_holds 384 = .ok (.iconst 1, 1) := by decide +kernel
theorem dL_holds_385 : decode cL_holds 385 = .ok (.goto 4, 3) := by decide +kernel
theorem dL_holds_388 : decode cL_holds 388 = .ok (.iconst 0, 1) := by decide +kernel
theorem dL_holds_389 : decode cL_holds 389 = .ok (.istore 14, 2) := by decide +kernel
theorem dL_holds_391 : decode cL_holds 391 = .ok (.iload 14, 2) := by decide +kernel
theorem dL_holds_393 : decode cL_holds 393 = .ok (.ifCond .eq 47, 3) := by decide +kernel
theorem dL_holds_396 : decode cL_holds 396 = .ok (.iload 15, 2) := by decide +kernel
theorem dL_holds_398 : decode cL_holds 398 = .ok (.aload 8, 2) := by decide +kernel
theorem dL_holds_400 : decode cL_holds 400 = .ok (.iload 16, 2) := by decide +kernel
theorem dL_holds_402 : decode cL_holds 402 = .ok (.iaload, 1) := by decide +kernel
theorem dL_holds_403 : decode cL_holds 403 = .ok (.iload 15, 2) := by decide +kernel
theorem dL_holds_405 : decode cL_holds 405 = .ok (.if_icmp .ne 7, 3) := by decide +kernel
theorem dL_holds_408 : decode cL_holds 408 = .ok (.iconst 1, 1) := by decide +kernel
theorem dL_holds_409 : decode cL_holds 409 = .ok (.goto 4, 3) := by decide +kernel
theorem dL_holds_412 : decode cL_holds 412 = .ok (.iconst 0, 1) := by decide +kernel
theorem dL_holds_413 : decode cL_holds 413 = .ok (.iadd, 1) := by decide +kernel
theorem dL_holds_414 : decode cL_holds 414 = .ok (.istore 15, 2) := by decide +kernel
theorem dL_holds_416 : decode cL_holds 416 = .ok (.aload 9, 2) := by decide +kernel
theorem dL_holds_418 : decode cL_holds 418 = .ok (.aload 8, 2) := by decide +kernel
theorem dL_holds_420 : decode cL_holds 420 = .ok (.iload 16, 2) := by decide +kernel
theorem dL_holds_422 : decode cL_holds 422 = .ok (.iaload, 1) := by decide +kernel
theorem dL_holds_423 : decode cL_holds 423 = .ok (.dup2, 1) := by decide +kernel
theorem dL_holds_424 : decode cL_holds 424 = .ok (.iaload, 1) := by decide +kernel
theorem dL_holds_425 : decode cL_holds 425 = .ok (.iconst 1, 1) := by decide +kernel
theorem dL_holds_426 : decode cL_holds 426 = .ok (.iadd, 1) := by decide +kernel
theorem dL_holds_427 : decode cL_holds 427 = .ok (.iastore, 1) := by decide +kernel
theorem dL_holds_428 : decode cL_holds 428 = .ok (.aload 10, 2) := by decide +kernel
theorem dL_holds_430 : decode cL_holds 430 = .ok (.aload 7, 2) := by decide +kernel
theorem dL_holds_432 : decode cL_holds 432 = .ok (.iload 16, 2) := by decide +kernel
theorem dL_holds_434 : decode cL_holds 434 = .ok (.iaload, 1) := by decide +kernel
theorem dL_holds_435 : decode cL_holds 435 = .ok (.dup2, 1) := by decide +kernel
theorem dL_holds_436 : decode cL_holds 436 = .ok (.iaload, 1) := by decide +kernel
theorem dL_holds_437 : decode cL_holds 437 = .ok (.iconst 1, 1) := by decide +kernel
theorem dL_holds_438 : decode cL_holds 438 = .ok (.iadd, 1) := by decide +kernel
theorem dL_holds_439 : decode cL_holds 439 = .ok (.iastore, 1) := by decide +kernel
theorem dL_holds_440 : decode cL_holds 440 = .ok (.iinc 16 1, 3) := by decide +kernel
theorem dL_holds_443 : decode cL_holds 443 = .ok (.goto (-247), 3) := by decide +kernel
theorem dL_holds_446 : decode cL_holds 446 = .ok (.iconst 0, 1) := by decide +kernel
theorem dL_holds_447 : decode cL_holds 447 = .ok (.istore 16, 2) := by decide +kernel
theorem dL_holds_449 : decode cL_holds 449 = .ok (.iconst 0, 1) := by decide +kernel
theorem dL_holds_450 : decode cL_holds 450 = .ok (.istore 17, 2) := by decide +kernel
theorem dL_holds_452 : decode cL_holds 452 = .ok (.iload 17, 2) := by decide +kernel
theorem dL_holds_454 : decode cL_holds 454 = .ok (.iload 6, 2) := by decide +kernel
theorem dL_holds_456 : decode cL_holds 456 = .ok (.if_icmp .ge 152, 3) := by decide +kernel
theorem dL_holds_459 : decode cL_holds 459 = .ok (.iload 14, 2) := by decide +kernel
theorem dL_holds_461 : decode cL_holds 461 = .ok (.ifCond .eq 147, 3) := by decide +kernel
theorem dL_holds_464 : decode cL_holds 464 = .ok (.iload 17, 2) := by decide +kernel
theorem dL_holds_466 : decode cL_holds 466 = .ok (.iload_n 1, 1) := by decide +kernel
theorem dL_holds_467 : decode cL_holds 467 = .ok (.irem, 1) := by decide +kernel
theorem dL_holds_468 : decode cL_holds 468 = .ok (.iload_n 1, 1) := by decide +kernel
theorem dL_holds_469 : decode cL_holds 469 = .ok (.iconst 1, 1) := by decide +kernel
theorem dL_holds_470 : decode cL_holds 470 = .ok (.isub, 1) := by decide +kernel
theorem dL_holds_471 : decode cL_holds 471 = .ok (.if_icmp .ge 7, 3) := by decide +kernel
theorem dL_holds_474 : decode cL_holds 474 = .ok (.iconst 1, 1) := by decide +kernel
theorem dL_holds_475 : decode cL_holds 475 = .ok (.goto 4, 3) := by decide +kernel
theorem dL_holds_478 : decode cL_holds 478 = .ok (.iconst 0, 1) := by decide +kernel
theorem dL_holds_479 : decode cL_holds 479 = .ok (.istore 18, 2) := by decide +kernel
theorem dL_holds_481 : decode cL_holds 481 = .ok (.iload 17, 2) := by decide +kernel
theorem dL_holds_483 : decode cL_holds 483 = .ok (.iload 6, 2) := by decide +kernel
theorem dL_holds_485 : decode cL_holds 485 = .ok (.iload_n 1, 1) := by decide +kernel
theorem dL_holds_486 : decode cL_holds 486 = .ok (.isub, 1) := by decide +kernel
theorem dL_holds_487 : decode cL_holds 487 = .ok (.if_icmp .ge 7, 3) := by decide +kernel
theorem dL_holds_490 : decode cL_holds 490 = .ok (.iconst 1, 1) := by decide +kernel
theorem dL_holds_491 : decode cL_holds 491 = .ok (.goto 4, 3) := by decide +kernel
theorem dL_holds_494 : decode cL_holds 494 = .ok (.iconst 0, 1) := by decide +kernel
theorem dL_holds_495 : decode cL_holds 495 = .ok (.istore 19, 2) := by decide +kernel
theorem dL_holds_497 : decode cL_holds 497 = .ok (.iload 16, 2) := by decide +kernel
theorem dL_holds_499 : decode cL_holds 499 = .ok (.iload 18, 2) := by decide +kernel
theorem dL_holds_501 : decode cL_holds 501 = .ok (.ifCond .eq 22, 3) := by decide +kernel
theorem dL_holds_504 : decode cL_holds 504 = .ok (.aload 8, 2) := by decide +kernel
theorem dL_holds_506 : decode cL_holds 506 = .ok (.iload 17, 2) := by decide +kernel
theorem dL_holds_508 : decode cL_holds 508 = .ok (.iaload, 1) := by decide +kernel
theorem dL_holds_509 : decode cL_holds 509 = .ok (.aload 8, 2) := by decide +kernel
theorem dL_holds_511 : decode cL_holds 511 = .ok (.iload 17, 2) := by decide +kernel
theorem dL_holds_513 : decode cL_holds 513 = .ok (.iconst 1, 1) := by decide +kernel
theorem dL_holds_514 : decode cL_holds 514 = .ok (.iadd, 1) := by decide +kernel
theorem dL_holds_515 : decode cL_holds 515 = .ok (.iaload, 1) := by decide +kernel
theorem dL_holds_516 : decode cL_holds 516 = .ok (.if_icmp .eq 7, 3) := by decide +kernel
theorem dL_holds_519 : decode cL_holds 519 = .ok (.iconst 1, 1) := by decide +kernel
theorem dL_holds_520 : decode cL_holds 520 = .ok (.goto 4, 3) := by decide +kernel
theorem dL_holds_523 : decode cL_holds 523 = .ok (.iconst 0, 1) := by decide +kernel
theorem dL_holds_524 : decode cL_holds 524 = .ok (.iload 19, 2) := by decide +kernel
theorem dL_holds_526 : decode cL_holds 526 = .ok (.ifCond .eq 22, 3) := by decide +kernel
theorem dL_holds_529 : decode cL_holds 529 = .ok (.aload 8, 2) := by decide +kernel
theorem dL_holds_531 : decode cL_holds 531 = .ok (.iload 17, 2) := by decide +kernel
theorem dL_holds_533 : decode cL_holds 533 = .ok (.iaload, 1) := by decide +kernel
theorem dL_holds_534 : decode cL_holds 534 = .ok (.aload 8, 2) := by decide +kernel
theorem dL_holds_536 : decode cL_holds 536 = .ok (.iload 17, 2) := by decide +kernel
theorem dL_holds_538 : decode cL_holds 538 = .ok (.iload_n 1, 1) := by decide +kernel
theorem dL_holds_539 : decode cL_holds 539 = .ok (.iadd, 1) := by decide +kernel
theorem dL_holds_540 : decode cL_holds 540 = .ok (.iaload, 1) := by decide +kernel
theorem dL_holds_541 : decode cL_holds 541 = .ok (.if_icmp .eq 7, 3) := by decide +kernel
theorem dL_holds_544 : decode cL_holds 544 = .ok (.iconst 1, 1) := by decide +kernel
theorem dL_holds_545 : decode cL_holds 545 = .ok (.goto 4, 3) := by decide +kernel
theorem dL_holds_548 : decode cL_holds 548 = .ok (.iconst 0, 1) := by decide +kernel
theorem dL_holds_549 : decode cL_holds 549 = .ok (.iadd, 1) := by decide +kernel
theorem dL_holds_550 : decode cL_holds 550 = .ok (.iadd, 1) := by decide +kernel
theorem dL_holds_551 : decode cL_holds 551 = .ok (.istore 16, 2) := by decide +kernel
theorem dL_holds_553 : decode cL_holds 553 = .ok (.iload 18, 2) := by decide +kernel
theorem dL_holds_555 : decode cL_holds 555 = .ok (.ifCond .eq 19, 3) := by decide +kernel
theorem dL_holds_558 : decode cL_holds 558 = .ok (.aload 7, 2) := by decide +kernel
theorem dL_holds_560 : decode cL_holds 560 = .ok (.aload 8, 2) := by decide +kernel
theorem dL_holds_562 : decode cL_holds 562 = .ok (.iload 17, 2) := by decide +kernel
theorem dL_holds_564 : decode cL_holds 564 = .ok (.iload 17, 2) := by decide +kernel
theorem dL_holds_566 : decode cL_holds 566 = .ok (.iconst 1, 1) := by decide +kernel
theorem dL_holds_567 : decode cL_holds 567 = .ok (.iadd, 1) := by decide +kernel
theorem dL_holds_568 : decode cL_holds 568 = .ok (.invokestatic 219, 3) := by decide +kernel
theorem dL_holds_571 : decode cL_holds 571 = .ok (.ifCond .eq 28, 3) := by decide +kernel
theorem dL_holds_574 : decode cL_holds 574 = .ok (.iload 19, 2) := by decide +kernel
theorem dL_holds_576 : decode cL_holds 576 = .ok (.ifCond .eq 19, 3) := by decide +kernel
theorem dL_holds_579 : decode cL_holds 579 = .ok (.aload 7, 2) := by decide +kernel
theorem dL_holds_581 : decode cL_holds 581 = .ok (.aload 8, 2) := by decide +kernel
theorem dL_holds_583 : decode cL_holds 583 = .ok (.iload 17, 2) := by decide +kernel
theorem dL_holds_585 : decode cL_holds 585 = .ok (.iload 17, 2) := by decide +kernel
theorem dL_holds_587 : decode cL_holds 587 = .ok (.iload_n 1, 1) := by decide +kernel
theorem dL_holds_588 : decode cL_holds 588 = .ok (.iadd, 1) := by decide +kernel
theorem dL_holds_589 : decode cL_holds 589 = .ok (.invokestatic 219, 3) := by decide +kernel
theorem dL_holds_592 : decode cL_holds 592 = .ok (.ifCond .eq 7, 3) := by decide +kernel
theorem dL_holds_595 : decode cL_holds 595 = .ok (.iconst 1, 1) := by decide +kernel
theorem dL_holds_596 : decode cL_holds 596 = .ok (.goto 4, 3) := by decide +kernel
theorem dL_holds_599 : decode cL_holds 599 = .ok (.iconst 0, 1) := by decide +kernel
theorem dL_holds_600 : decode cL_holds 600 = .ok (.istore 14, 2) := by decide +kernel
theorem dL_holds_602 : decode cL_holds 602 = .ok (.iinc 17 1, 3) := by decide +kernel
theorem dL_holds_605 : decode cL_holds 605 = .ok (.goto (-153), 3) := by decide +kernel
theorem dL_holds_608 : decode cL_holds 608 = .ok (.aload_n 0, 1) := by decide +kernel
theorem dL_holds_609 : decode cL_holds 609 = .ok (.iconst 2, 1) := by decide +kernel
theorem dL_holds_610 : decode cL_holds 610 = .ok (.bipush 9, 2) := by decide +kernel
theorem dL_holds_612 : decode cL_holds 612 = .ok (.iconst 0, 1) := by decide +kernel
theorem dL_holds_613 : decode cL_holds 613 = .ok (.iconst 0, 1) := by decide +kernel
theorem dL_holds_614 : decode cL_holds 614 = .ok (.invokestatic 191, 3) := by decide +kernel
theorem dL_holds_617 : decode cL_holds 617 = .ok (.iload 16, 2) := by decide +kernel
theorem dL_holds_619 : decode cL_holds 619 = .ok (.imul, 1) := by decide +kernel
theorem dL_holds_620 : decode cL_holds 620 = .ok (.istore 17, 2) := by decide +kernel
theorem dL_holds_622 : decode cL_holds 622 = .ok (.iconst 0, 1) := by decide +kernel
theorem dL_holds_623 : decode cL_holds 623 = .ok (.istore 18, 2) := by decide +kernel
theorem dL_holds_625 : decode cL_holds 625 = .ok (.iload 18, 2) := by decide +kernel
theorem dL_holds_627 : decode cL_holds 627 = .ok (.iload_n 3, 1) := by decide +kernel
theorem dL_holds_628 : decode cL_holds 628 = .ok (.if_icmp .gt 60, 3) := by decide +kernel
theorem dL_holds_631 : decode cL_holds 631 = .ok (.iload 14, 2) := by decide +kernel
theorem dL_holds_633 : decode cL_holds 633 = .ok (.ifCond .eq 55, 3) := by decide +kernel
theorem dL_holds_636 : decode cL_holds 636 = .ok (.iload 17, 2) := by decide +kernel
theorem dL_holds_638 : decode cL_holds 638 = .ok (.aload 10, 2) := by decide +kernel
theorem dL_holds_640 : decode cL_holds 640 = .ok (.iload 18, 2) := by decide +kernel
theorem dL_holds_642 : decode cL_holds 642 = .ok (.iaload, 1) := by decide +kernel
theorem dL_holds_643 : decode cL_holds 643 = .ok (.aload_n 0, 1) := by decide +kernel
theorem dL_holds_644 : decode cL_holds 644 = .ok (.bipush 9, 2) := by decide +kernel
theorem dL_holds_646 : decode cL_holds 646 = .ok (.iload 18, 2) := by decide +kernel
theorem dL_holds_648 : decode cL_holds 648 = .ok (.iconst 0, 1) := by decide +kernel
theorem dL_holds_649 : decode cL_holds 649 = .ok (.iconst 0, 1) := by decide +kernel
theorem dL_holds_650 : decode cL_holds 650 = .ok (.invokestatic 191, 3) := by decide +kernel
theorem dL_holds_653 : decode cL_holds 653 = .ok (.imul, 1) := by decide +kernel
theorem dL_holds_654 : decode cL_holds 654 = .ok (.iadd, 1) := by decide +kernel
theorem dL_holds_655 : decode cL_holds 655 = .ok (.istore 17, 2) := by decide +kernel
theorem dL_holds_657 : decode cL_holds 657 = .ok (.aload_n 0, 1) := by decide +kernel
theorem dL_holds_658 : decode cL_holds 658 = .ok (.bipush 9, 2) := by decide +kernel
theorem dL_holds_660 : decode cL_holds 660 = .ok (.iload 18, 2) := by decide +kernel
theorem dL_holds_662 : decode cL_holds 662 = .ok (.iconst 1, 1) := by decide +kernel
theorem dL_holds_663 : decode cL_holds 663 = .ok (.iconst 0, 1) := by decide +kernel
theorem dL_holds_664 : decode cL_holds 664 = .ok (.invokestatic 191, 3) := by decide +kernel
theorem dL_holds_667 : decode cL_holds 667 = .ok (.aload 10, 2) := by decide +kernel
theorem dL_holds_669 : decode cL_holds 669 = .ok (.iload 18, 2) := by decide +kernel
theorem dL_holds_671 : decode cL_holds 671 = .ok (.iaload, 1) := by decide +kernel
theorem dL_holds_672 : decode cL_holds 672 = .ok (.if_icmp .ne 7, 3) := by decide +kernel
theorem dL_holds_675 : decode cL_holds 675 = .ok (.iconst 1, 1) := by decide +kernel
theorem dL_holds_676 : decode cL_holds 676 = .ok (.goto 4, 3) := by decide +kernel
theorem dL_holds_679 : decode cL_holds 679 = .ok (.iconst 0, 1) := by decide +kernel
theorem dL_holds_680 : decode cL_holds 680 = .ok (.istore 14, 2) := by decide +kernel
theorem dL_holds_682 : decode cL_holds 682 = .ok (.iinc 18 1, 3) := by decide +kernel
theorem dL_holds_685 : decode cL_holds 685 = .ok (.goto (-60), 3) := by decide +kernel
theorem dL_holds_688 : decode cL_holds 688 = .ok (.iconst 0, 1) := by decide +kernel
theorem dL_holds_689 : decode cL_holds 689 = .ok (.istore 18, 2) := by decide +kernel
theorem dL_holds_691 : decode cL_holds 691 = .ok (.iload 18, 2) := by decide +kernel
theorem dL_holds_693 : decode cL_holds 693 = .ok (.iload 5, 2) := by decide +kernel
theorem dL_holds_695 : decode cL_holds 695 = .ok (.if_icmp .ge 37, 3) := by decide +kernel
theorem dL_holds_698 : decode cL_holds 698 = .ok (.iload 14, 2) := by decide +kernel
theorem dL_holds_700 : decode cL_holds 700 = .ok (.ifCond .eq 32, 3) := by decide +kernel
theorem dL_holds_703 : decode cL_holds 703 = .ok (.iload 5, 2) := by decide +kernel
theorem dL_holds_705 : decode cL_holds 705 = .ok (.iconst 1, 1) := by decide +kernel
theorem dL_holds_706 : decode cL_holds 706 = .ok (.if_icmp .eq 13, 3) := by decide +kernel
theorem dL_holds_709 : decode cL_holds 709 = .ok (.aload 9, 2) := by decide +kernel
theorem dL_holds_711 : decode cL_holds 711 = .ok (.iload 18, 2) := by decide +kernel
theorem dL_holds_713 : decode cL_holds 713 = .ok (.iaload, 1) := by decide +kernel
theorem dL_holds_714 : decode cL_holds 714 = .ok (.iload 4, 2) := by decide +kernel
theorem dL_holds_716 : decode cL_holds 716 = .ok (.if_icmp .lt 7, 3) := by decide +kernel
theorem dL_holds_719 : decode cL_holds 719 = .ok (.iconst 1, 1) := by decide +kernel
theorem dL_holds_720 : decode cL_holds 720 = .ok (.goto 4, 3) := by decide +kernel
theorem dL_holds_723 : decode cL_holds 723 = .ok (.iconst 0, 1) := by decide +kernel
theorem dL_holds_724 : decode cL_holds 724 = .ok (.istore 14, 2) := by decide +kernel
theorem dL_holds_726 : decode cL_holds 726 = .ok (.iinc 18 1, 3) := by decide +kernel
theorem dL_holds_729 : decode cL_holds 729 = .ok (.goto (-38), 3) := by decide +kernel
theorem dL_holds_732 : decode cL_holds 732 = .ok (.iload 13, 2) := by decide +kernel
theorem dL_holds_734 : decode cL_holds 734 = .ok (.iload 5, 2) := by decide +kernel
theorem dL_holds_736 : decode cL_holds 736 = .ok (.irem, 1) := by decide +kernel
theorem dL_holds_737 : decode cL_holds 737 = .ok (.istore 18, 2) := by decide +kernel
theorem dL_holds_739 : decode cL_holds 739 = .ok (.aload_n 0, 1) := by decide +kernel
theorem dL_holds_740 : decode cL_holds 740 = .ok (.bipush 7, 2) := by decide +kernel
theorem dL_holds_742 : decode cL_holds 742 = .ok (.iload 18, 2) := by decide +kernel
theorem dL_holds_744 : decode cL_holds 744 = .ok (.iconst 2, 1) := by decide +kernel
theorem dL_holds_745 : decode cL_holds 745 = .ok (.iconst 0, 1) := by decide +kernel
theorem dL_holds_746 : decode cL_holds 746 = .ok (.invokestatic 191, 3) := by decide +kernel
theorem dL_holds_749 : decode cL_holds 749 = .ok (.istore 19, 2) := by decide +kernel
theorem dL_holds_751 : decode cL_holds 751 = .ok (.aload_n 0, 1) := by decide +kernel
theorem dL_holds_752 : decode cL_holds 752 = .ok (.iconst 5, 1) := by decide +kernel
theorem dL_holds_753 : decode cL_holds 753 = .ok (.iload 18, 2) := by decide +kernel
theorem dL_holds_755 : decode cL_holds 755 = .ok (.bipush 7, 2) := by decide +kernel
theorem dL_holds_757 : decode cL_holds 757 = .ok (.iconst 0, 1) := by decide +kernel
theorem dL_holds_758 : decode cL_holds 758 = .ok (.invokestatic 191, 3) := by decide +kernel
theorem dL_holds_761 : decode cL_holds 761 = .ok (.istore 20, 2) := by decide +kernel
theorem dL_holds_763 : decode cL_holds 763 = .ok (.iload 14, 2) := by decide +kernel
theorem dL_holds_765 : decode cL_holds 765 = .ok (.ifCond .eq 285, 3) := by decide +kernel
theorem dL_holds_768 : decode cL_holds 768 = .ok (.iload 15, 2) := by decide +kernel
theorem dL_holds_770 : decode cL_holds 770 = .ok (.iload 5, 2) := by decide +kernel
theorem dL_holds_772 : decode cL_holds 772 = .ok (.if_icmp .ne 278, 3) := by decide +kernel
theorem dL_holds_775 : decode cL_holds 775 = .ok (.aload_n 0, 1) := by decide +kernel
theorem dL_holds_776 : decode cL_holds 776 = .ok (.iconst 2, 1) := by decide +kernel
theorem dL_holds_777 : decode cL_holds 777 = .ok (.bipush 6, 2) := by decide +kernel
theorem dL_holds_779 : decode cL_holds 779 = .ok (.iconst 0, 1) := by decide +kernel
theorem dL_holds_780 : decode cL_holds 780 = .ok (.iconst 0, 1) := by decide +kernel
theorem dL_holds_781 : decode cL_holds 781 = .ok (.invokestatic 191, 3) := by decide +kernel
theorem dL_holds_784 : decode cL_holds 784 = .ok (.iload 12, 2) := by decide +kernel
theorem dL_holds_786 : decode cL_holds 786 = .ok (.if_icmp .ne 264, 3) := by decide +kernel
theorem dL_holds_789 : decode cL_holds 789 = .ok (.aload_n 0, 1) := by decide +kernel
theorem dL_holds_790 : decode cL_holds 790 = .ok (.iconst 2, 1) := by decide +kernel
theorem dL_holds_791 : decode cL_holds 791 = .ok (.bipush 7, 2) := by decide +kernel
theorem dL_holds_793 : decode cL_holds 793 = .ok (.iconst 0, 1) := by decide +kernel
theorem dL_holds_794 : decode cL_holds 794 = .ok (.iconst 0, 1) := by decide +kernel
theorem dL_holds_795 : decode cL_holds 795 = .ok (.invokestatic 191, 3) := by decide +kernel
theorem dL_holds_798 : decode cL_holds 798 = .ok (.iload 16, 2) := by decide +kernel
theorem dL_holds_800 : decode cL_holds 800 = .ok (.if_icmp .ne 250, 3) := by decide +kernel
theorem dL_holds_803 : decode cL_holds 803 = .ok (.aload_n 0, 1) := by decide +kernel
theorem dL_holds_804 : decode cL_holds 804 = .ok (.iconst 2, 1) := by decide +kernel
theorem dL_holds_805 : decode cL_holds 805 = .ok (.bipush 10, 2) := by decide +kernel
theorem dL_holds_807 : decode cL_holds 807 = .ok (.iconst 0, 1) := by decide +kernel
theorem dL_holds_808 : decode cL_holds 808 = .ok (.iconst 0, 1) := by decide +kernel
theorem dL_holds_809 : decode cL_holds 809 = .ok (.invokestatic 191, 3) := by decide +kernel
theorem dL_holds_812 : decode cL_holds 812 = .ok (.iload 13, 2) := by decide +kernel
theorem dL_holds_814 : decode cL_holds 814 = .ok (.if_icmp .ne 236, 3) := by decide +kernel
theorem dL_holds_817 : decode cL_holds 817 = .ok (.aload_n 0, 1) := by decide +kernel
theorem dL_holds_818 : decode cL_holds 818 = .ok (.invokevirtual 223, 3) := by decide +kernel
theorem dL_holds_821 : decode cL_holds 821 = .ok (.iload 17, 2) := by decide +kernel
theorem dL_holds_823 : decode cL_holds 823 = .ok (.if_icmp .ne 227, 3) := by decide +kernel
theorem dL_holds_826 : decode cL_holds 826 = .ok (.iload 5, 2) := by decide +kernel
theorem dL_holds_828 : decode cL_holds 828 = .ok (.aload_n 0, 1) := by decide +kernel
theorem dL_holds_829 : decode cL_holds 829 = .ok (.iconst 2, 1) := by decide +kernel
theorem dL_holds_830 : decode cL_holds 830 = .ok (.iconst 5, 1) := by decide +kernel
theorem dL_holds_831 : decode cL_holds 831 = .ok (.iconst 0, 1) := by decide +kernel
theorem dL_holds_832 : decode cL_holds 832 = .ok (.iconst 0, 1) := by decide +kernel
theorem dL_holds_833 : decode cL_holds 833 = .ok (.invokestatic 191, 3) := by decide +kernel
theorem dL_holds_836 : decode cL_holds 836 = .ok (.if_icmp .gt 214, 3) := by decide +kernel
theorem dL_holds_839 : decode cL_holds 839 = .ok (.aload_n 0, 1) := by decide +kernel
theorem dL_holds_840 : decode cL_holds 840 = .ok (.iconst 5, 1) := by decide +kernel
theorem dL_holds_841 : decode cL_holds 841 = .ok (.iload 18, 2) := by decide +kernel
theorem dL_holds_843 : decode cL_holds 843 = .ok (.iconst 1, 1) := by decide +kernel
theorem dL_holds_844 : decode cL_holds 844 = .ok (.iconst 0, 1) := by decide +kernel
theorem dL_holds_845 : decode cL_holds 845 = .ok (.invokestatic 191, 3) := by decide +kernel
theorem dL_holds_848 : decode cL_holds 848 = .ok (.aload 9, 2) := by decide +kernel
theorem dL_holds_850 : decode cL_holds 850 = .ok (.iload 18, 2) := by decide +kernel
theorem dL_holds_852 : decode cL_holds 852 = .ok (.iaload, 1) := by decide +kernel
theorem dL_holds_853 : decode cL_holds 853 = .ok (.if_icmp .ne 197, 3) := by decide +kernel
theorem dL_holds_856 : decode cL_holds 856 = .ok (.aload_n 0, 1) := by decide +kernel
theorem dL_holds_857 : decode cL_holds 857 = .ok (.bipush 7, 2) := by decide +kernel
theorem dL_holds_859 : decode cL_holds 859 = .ok (.iload 18, 2) := by decide +kernel
theorem dL_holds_861 : decode cL_holds 861 = .ok (.iconst 1, 1) := by decide +kernel
theorem dL_holds_862 : decode cL_holds 862 = .ok (.iconst 0, 1) := by decide +kernel
theorem dL_holds_863 : decode cL_holds 863 = .ok (.invokestatic 191, 3) := by decide +kernel
theorem dL_holds_866 : decode cL_holds 866 = .ok (.iload 19, 2) := by decide +kernel
theorem dL_holds_868 : decode cL_holds 868 = .ok (.iconst 4, 1) := by decide +kernel
theorem dL_holds_869 : decode cL_holds 869 = .ok (.iadd, 1) := by decide +kernel
theorem dL_holds_870 : decode cL_holds 870 = .ok (.if_icmp .ne 180, 3) := by decide +kernel
theorem dL_holds_873 : decode cL_holds 873 = .ok (.aload_n 0, 1) := by decide +kernel
theorem dL_holds_874 : decode cL_holds 874 = .ok (.bipush 7, 2) := by decide +kernel
theorem dL_holds_876 : decode cL_holds 876 = .ok (.iload 18, 2) := by decide +kernel
theorem dL_holds_878 : decode cL_holds 878 = .ok (.iconst 0, 1) := by decide +kernel
theorem dL_holds_879 : decode cL_holds 879 = .ok (.iconst 0, 1) := by decide +kernel
theorem dL_holds_880 : decode cL_holds 880 = .ok (.invokestatic 191, 3) := by decide +kernel
theorem dL_holds_883 : decode cL_holds 883 = .ok (.aload_n 0, 1) := by decide +kernel
theorem dL_holds_884 : decode cL_holds 884 = .ok (.iconst 5, 1) := by decide +kernel
theorem dL_holds_885 : decode cL_holds 885 = .ok (.iload 18, 2) := by decide +kernel
theorem dL_holds_887 : decode cL_holds 887 = .ok (.iconst 3, 1) := by decide +kernel
theorem dL_holds_888 : decode cL_holds 888 = .ok (.iconst 0, 1) := by decide +kernel
theorem dL_holds_889 : decode cL_holds 889 = .ok (.invokestatic 191, 3) := by decide +kernel
theorem dL_holds_892 : decode cL_holds 892 = .ok (.aload_n 0, 1) := by decide +kernel
theorem dL_holds_893 : decode cL_holds 893 = .ok (.iconst 5, 1) := by decide +kernel
theorem dL_holds_894 : decode cL_holds 894 = .ok (.iload 18, 2) := by decide +kernel
theorem dL_holds_896 : decode cL_holds 896 = .ok (.iconst 4, 1) := by decide +kernel
theorem dL_holds_897 : decode cL_holds 897 = .ok (.iconst 0, 1) := by decide +kernel
theorem dL_holds_898 : decode cL_holds 898 = .ok (.invokestatic 191, 3) := by decide +kernel
theorem dL_holds_901 : decode cL_holds 901 = .ok (.iadd, 1) := by decide +kernel
theorem dL_holds_902 : decode cL_holds 902 = .ok (.if_icmp .gt 148, 3) := by decide +kernel
theorem dL_holds_905 : decode cL_holds 905 = .ok (.aload_n 0, 1) := by decide +kernel
theorem dL_holds_906 : decode cL_holds 906 = .ok (.iconst 5, 1) := by decide +kernel
theorem dL_holds_907 : decode cL_holds 907 = .ok (.iload 18, 2) := by decide +kernel
theorem dL_holds_909 : decode cL_holds 909 = .ok (.bipush 6, 2) := by decide +kernel
theorem dL_holds_911 : decode cL_holds 911 = .ok (.iconst 0, 1) := by decide +kernel
theorem dL_holds_912 : decode cL_holds 912 = .ok (.invokestatic 191, 3) := by decide +kernel
theorem dL_holds_915 : decode cL_holds 915 = .ok (.ifCond .le 7, 3) := by decide +kernel
theorem dL_holds_918 : decode cL_holds 918 = .ok (.iconst 1, 1) := by decide +kernel
theorem dL_holds_919 : decode cL_holds 919 = .ok (.goto 4, 3) := by decide +kernel
theorem dL_holds_922 : decode cL_holds 922 = .ok (.iconst 0, 1) := by decide +kernel
theorem dL_holds_923 : decode cL_holds 923 = .ok (.aload_n 0, 1) := by decide +kernel
theorem dL_holds_924 : decode cL_holds 924 = .ok (.iconst 5, 1) := by decide +kernel
theorem dL_holds_925 : decode cL_holds 925 = .ok (.iload 18, 2) := by decide +kernel
theorem dL_holds_927 : decode cL_holds 927 = .ok (.bipush 8, 2) := by decide +kernel
theorem dL_holds_929 : decode cL_holds 929 = .ok (.iconst 0, 1) := by decide +kernel
theorem dL_holds_930 : decode cL_holds 930 = .ok (.invokestatic 191, 3) := by decide +kernel
theorem dL_holds_933 : decode cL_holds 933 = .ok (.ifCond .le 7, 3) := by decide +kernel
theorem dL_holds_936 : decode cL_holds 936 = .ok (.iconst 1, 1) := by decide +kernel
theorem dL_holds_937 : decode cL_holds 937 = .ok (.goto 4, 3) := by decide +kernel
theorem dL_holds_940 : decode cL_holds 940 = .ok (.iconst 0, 1) := by decide +kernel
theorem dL_holds_941 : decode cL_holds 941 = .ok (.if_icmp .ne 109, 3) := by decide +kernel
theorem dL_holds_944 : decode cL_holds 944 = .ok (.aload_n 0, 1) := by decide +kernel
theorem dL_holds_945 : decode cL_holds 945 = .ok (.iconst 5, 1) := by decide +kernel
theorem dL_holds_946 : decode cL_holds 946 = .ok (.iload 18, 2) := by decide +kernel
theorem dL_holds_948 : decode cL_holds 948 = .ok (.bipush 6, 2) := by decide +kernel
theorem dL_holds_950 : decode cL_holds 950 = .ok (.iconst 0, 1) := by decide +kernel
theorem dL_holds_951 : decode cL_holds 951 = .ok (.invokestatic 191, 3) := by decide +kernel
theorem dL_holds_954 : decode cL_holds 954 = .ok (.ifCond .le 7, 3) := by decide +kernel
theorem dL_holds_957 : decode cL_holds 957 = .ok (.iconst 1, 1) := by decide +kernel
theorem dL_holds_958 : decode cL_holds 958 = .ok (.goto 4, 3) := by decide +kernel
theorem dL_holds_961 : decode cL_holds 961 = .ok (.iconst 0, 1) := by decide +kernel
theorem dL_holds_962 : decode cL_holds 962 = .ok (.aload_n 0, 1) := by decide +kernel
theorem dL_holds_963 : decode cL_holds 963 = .ok (.bipush 7, 2) := by decide +kernel
theorem dL_holds_965 : decode cL_holds 965 = .ok (.iload 18, 2) := by decide +kernel
theorem dL_holds_967 : decode cL_holds 967 = .ok (.iconst 0, 1) := by decide +kernel
theorem dL_holds_968 : decode cL_holds 968 = .ok (.iconst 0, 1) := by decide +kernel
theorem dL_holds_969 : decode cL_holds 969 = .ok (.invokestatic 191, 3) := by decide +kernel
theorem dL_holds_972 : decode cL_holds 972 = .ok (.aload_n 0, 1) := by decide +kernel
theorem dL_holds_973 : decode cL_holds 973 = .ok (.iconst 5, 1) := by decide +kernel
theorem dL_holds_974 : decode cL_holds 974 = .ok (.iload 18, 2) := by decide +kernel
theorem dL_holds_976 : decode cL_holds 976 = .ok (.iconst 3, 1) := by decide +kernel
theorem dL_holds_977 : decode cL_holds 977 = .ok (.iconst 0, 1) := by decide +kernel
theorem dL_holds_978 : decode cL_holds 978 = .ok (.invokestatic 191, 3) := by decide +kernel
theorem dL_holds_981 : decode cL_holds 981 = .ok (.aload_n 0, 1) := by decide +kernel
theorem dL_holds_982 : decode cL_holds 982 = .ok (.iconst 5, 1) := by decide +kernel
theorem dL_holds_983 : decode cL_holds 983 = .ok (.iload 18, 2) := by decide +kernel
theorem dL_holds_985 : decode cL_holds 985 = .ok (.iconst 4, 1) := by decide +kernel
theorem dL_holds_986 : decode cL_holds 986 = .ok (.iconst 0, 1) := by decide +kernel
theorem dL_holds_987 : decode cL_holds 987 = .ok (.invokestatic 191, 3) := by decide +kernel
theorem dL_holds_990 : decode cL_holds 990 = .ok (.iadd, 1) := by decide +kernel
theorem dL_holds_991 : decode cL_holds 991 = .ok (.if_icmp .ge 7, 3) := by decide +kernel
theorem dL_holds_994 : decode cL_holds 994 = .ok (.iconst 1, 1) := by decide +kernel
theorem dL_holds_995 : decode cL_holds 995 = .ok (.goto 4, 3) := by decide +kernel
theorem dL_holds_998 : decode cL_holds 998 = .ok (.iconst 0, 1) := by decide +kernel
theorem dL_holds_999 : decode cL_holds 999 = .ok (.if_icmp .ne 51, 3) := by decide +kernel
theorem dL_holds_1002 : decode cL_holds 1002 = .ok (.iload 20, 2) := by decide +kernel
theorem dL_holds_1004 : decode cL_holds 1004 = .ok (.iconst (-1), 1) := by decide +kernel
theorem dL_holds_1005 : decode cL_holds 1005 = .ok (.if_icmp .eq 41, 3) := by decide +kernel
theorem dL_holds_1008 : decode cL_holds 1008 = .ok (.aload_n 0, 1) := by decide +kernel
theorem dL_holds_1009 : decode cL_holds 1009 = .ok (.iconst 5, 1) := by decide +kernel
theorem dL_holds_1010 : decode cL_holds 1010 = .ok (.iload 18, 2) := by decide +kernel
theorem dL_holds_1012 : decode cL_holds 1012 = .ok (.iconst 4, 1) := by decide +kernel
theorem dL_holds_1013 : decode cL_holds 1013 = .ok (.iconst 0, 1) := by decide +kernel
theorem dL_holds_1014 : decode cL_holds 1014 = .ok (.invokestatic 191, 3) := by decide +kernel
theorem dL_holds_1017 : decode cL_holds 1017 = .ok (.ifCond .ne 33, 3) := by decide +kernel
theorem dL_holds_1020 : decode cL_holds 1020 = .ok (.aload_n 0, 1) := by decide +kernel
theorem dL_holds_1021 : decode cL_holds 1021 = .ok (.iconst 5, 1) := by decide +kernel
theorem dL_holds_1022 : decode cL_holds 1022 = .ok (.iload 20, 2) := by decide +kernel
theorem dL_holds_1024 : decode cL_holds 1024 = .ok (.bipush 8, 2) := by decide +kernel
theorem dL_holds_1026 : decode cL_holds 1026 = .ok (.iconst 0, 1) := by decide +kernel
theorem dL_holds_1027 : decode cL_holds 1027 = .ok (.invokestatic 191, 3) := by decide +kernel
theorem dL_holds_1030 : decode cL_holds 1030 = .ok (.ifCond .le 20, 3) := by decide +kernel
theorem dL_holds_1033 : decode cL_holds 1033 = .ok (.aload_n 0, 1) := by decide +kernel
theorem dL_holds_1034 : decode cL_holds 1034 = .ok (.iconst 5, 1) := by decide +kernel
theorem dL_holds_1035 : decode cL_holds 1035 = .ok (.iload 20, 2) := by decide +kernel
theorem dL_holds_1037 : decode cL_holds 1037 = .ok (.iconst 1, 1) := by decide +kernel
theorem dL_holds_1038 : decode cL_holds 1038 = .ok (.iconst 0, 1) := by decide +kernel
theorem dL_holds_1039 : decode cL_holds 1039 = .ok (.invokestatic 191, 3) := by decide +kernel
theorem dL_holds_1042 : decode cL_holds 1042 = .ok (.iconst 1, 1) := by decide +kernel
theorem dL_holds_1043 : decode cL_holds 1043 = .ok (.if_icmp .le 7, 3) := by decide +kernel
theorem dL_holds_1046 : decode cL_holds 1046 = .ok (.iconst 1, 1) := by decide +kernel
theorem dL_holds_1047 : decode cL_holds 1047 = .ok (.goto 4, 3) := by decide +kernel
theorem dL_holds_1050 : decode cL_holds 1050 = .ok (.iconst 0, 1) := by decide +kernel
theorem dL_holds_1051 : decode cL_holds 1051 = .ok (.ireturn, 1) := by decide +kernel
theorem H_facts {A : Ob} (hA : VA A) (hB : VB A) : (1 ≤ sC (jS A) ∧ sC (jS A) ≤ 8) ∧ (1 ≤ sR (jS A) ∧ sR (jS A) ≤ 8) ∧ (1 ≤ sC (jS A) * sR (jS A) ∧ sC (jS A) * sR (jS A) ≤ 64) ∧ (0 ≤ (sN (jS A) : Int) ∧ (sN (jS A) : Int) ≤ 5) ∧ (1 ≤ sE (jS A) ∧ sE (jS A) ≤ 30) ∧ (1 ≤ mS (jS A) ∧ mS (jS A) ≤ sC (jS A) * sR (jS A)) := by
  obtain ⟨f1, f2, f3, f4, f5⟩ := VA_d hA
  have f6 := hB.1.1
  have f8 := dim_cells hA.1.1
  have f9 := mny_le (b := bS (jS A)) hA.1.1
  have f7 : sC (jS A) * sR (jS A) ≤ 8 * 8 := Int.mul_le_mul f6.1 f6.2 (by omega) (by omega)
  exact ⟨⟨f1.1, f6.1⟩, ⟨f2.1, f6.2⟩, ⟨f8.1, by omega⟩, f3, f4, ⟨f5.1, f9⟩⟩
