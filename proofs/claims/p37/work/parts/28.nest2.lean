/-! NEST: holes taken, explored. -/
section NF
variable {l : Launch} {c r ct L : Int} {B F S Br Q Fo No b Ho Mo In Sn Qn : Int → Int}
theorem up_up {f : Int → Int} {i v w : Int} : up (up f i v) i w = up f i w := by
  funext j; unfold up; split <;> rfl
theorem up_at {f : Int → Int} {i v : Int} : up f i v i = v := if_pos rfl
theorem up_ne {f : Int → Int} {i v j : Int} (h : j ≠ i) : up f i v j = f j := if_neg h
theorem dX2_reachesEdge_0 : decode cX2_reachesEdge 0 = .ok (.iconst 0, 1) := by decide +kernel
theorem dX2_reachesEdge_1 : decode cX2_reachesEdge 1 = .ok (.istore_n 3, 1) := by decide +kernel
theorem dX2_reachesEdge_2 : decode cX2_reachesEdge 2 = .ok (.iload_n 3, 1) := by decide +kernel
theorem dX2_reachesEdge_3 : decode cX2_reachesEdge 3 = .ok (.iload_n 2, 1) := by decide +kernel
theorem dX2_reachesEdge_4 : decode cX2_reachesEdge 4 = .ok (.if_icmp .ge 24, 3) := by decide +kernel
theorem dX2_reachesEdge_7 : decode cX2_reachesEdge 7 = .ok (.aload_n 1, 1) := by decide +kernel
theorem dX2_reachesEdge_8 : decode cX2_reachesEdge 8 = .ok (.aload_n 0, 1) := by decide +kernel
theorem dX2_reachesEdge_9 : decode cX2_reachesEdge 9 = .ok (.getfield 24, 3) := by decide +kernel
theorem dX2_reachesEdge_12 : decode cX2_reachesEdge 12 = .ok (.iload_n 3, 1) := by decide +kernel
theorem dX2_reachesEdge_13 : decode cX2_reachesEdge 13 = .ok (.iaload, 1) := by decide +kernel
theorem dX2_reachesEdge_14 : decode cX2_reachesEdge 14 = .ok (.invokevirtual 72, 3) := by decide +kernel
theorem dX2_reachesEdge_17 : decode cX2_reachesEdge 17 = .ok (.ifCond .eq 5, 3) := by decide +kernel
theorem dX2_reachesEdge_20 : decode cX2_reachesEdge 20 = .ok (.iconst 1, 1) := by decide +kernel
theorem dX2_reachesEdge_21 : decode cX2_reachesEdge 21 = .ok (.ireturn, 1) := by decide +kernel
theorem dX2_reachesEdge_22 : decode cX2_reachesEdge 22 = .ok (.iinc 3 1, 3) := by decide +kernel
theorem dX2_reachesEdge_25 : decode cX2_reachesEdge 25 = .ok (.goto (-23), 3) := by decide +kernel
theorem dX2_reachesEdge_28 : decode cX2_reachesEdge 28 = .ok (.iconst 0, 1) := by decide +kernel
theorem dX2_reachesEdge_29 : decode cX2_reachesEdge 29 = .ok (.ireturn, 1) := by decide +kernel
theorem c_reachesEdge {s had : Int} (hd : dim c r) (hs : cel c r s ∧ lw c r b s ≠ L) (hQ : BD (EH c r b L) s Qn had) (hh : had ≤ 144) :
    Cd l yX2_reachesEdge cX2_reachesEdge 4 (some .boolean) rmX2_reachesEdge [.ref 0, .ref 6, iv had] (nsM Ho Mo In Sn Qn ++ isA 6 c r (c * r) ct B F S Br Q Fo No) (some (iv (@bz (¬ inr c r b L s) (Classical.propDecidable _)))) (nsM Ho Mo In Sn Qn ++ isA 6 c r (c * r) ct B F S Br Q Fo No) := by
  refine Ct.of miX2_reachesEdge (Nat.le_of_ble_eq_true rfl) ?_
  intro X hXl hN ok
  refine AW.cast (L2 := [some (.ref 0), some (.ref 6), some (iv had), none]) ?_ rfl rfl rfl
  have hc := dim_cells hd
  obtain ⟨q1, q2, q3, q4⟩ := hQ
  have loop : ∀ k : Nat, ((k : Int) ≤ had ∧ ∀ i : Int, 0 ≤ i → i < k → ¬ edg c r (Qn i)) → AW X 0 0 2 [some (.ref 0), some (.ref 6), some (iv had), some (iv k)] [] (nsM Ho Mo In Sn Qn ++ isA 6 c r (c * r) ct B F S Br Q Fo No) := by
    refine wfl (fun k : Nat => 145 - k) _ _ ?_
    rintro k ⟨h1, h2⟩ ih
    by_cases hk : (k : Int) < had
    · have hcon := q1 k (by omega) hk
      have hcel := (EH_con hs hcon).1
      by_cases he : edg c r (Qn k)
      · skip
        refine a_iload_n (pc := 2) ok dX2_reachesEdge_2 rfl ?_
        refine a_iload_n (pc := 3) ok dX2_reachesEdge_3 rfl ?_
        refine a_icmp_ge (pc := 4) (tgt := 28) ok dX2_reachesEdge_4 (by decide) (by first | omega | (unfold rg; omega) | (simp only [rg] at *; omega) | exact bz_rg _ | grind [rg]) (by first | omega | (unfold rg; omega) | (simp only [rg] at *; omega) | exact bz_rg _ | grind [rg]) (fun c4 => ?_) (fun c4 => ?_)
        · exfalso; first | omega | grind
        · refine a_aload_n (pc := 7) ok dX2_reachesEdge_7 rfl ?_
          refine a_aload_n (pc := 8) ok dX2_reachesEdge_8 rfl ?_
          refine a_getf (pc := 9) ok dX2_reachesEdge_9 fl2_24 rfl rfl ?_
          refine a_iload_n (pc := 12) ok dX2_reachesEdge_12 rfl ?_
          refine a_iald (pc := 13) ok dX2_reachesEdge_13 rfl (by first | decide | omega) (by first | omega | (unfold rg; omega) | (simp only [rg] at *; omega) | exact bz_rg _ | grind [rg]) ?_
          refine a_callVp (pc := 14) ok [6, 7, 8, 9, 10, 11, 12, 13] dX2_reachesEdge_14 mv2_72 miX0_isAtEdge (c_isAtEdge hd hcel) ⟨by decide, by decide, rfl, rfl, Nat.zero_le _, Nat.zero_le _⟩ rfl rfl (Nat.le_of_ble_eq_true rfl) rfl (by decide) rfl rfl ?_
          refine a_if_eq (pc := 17) (tgt := 22) ok dX2_reachesEdge_17 (by decide) (by exact @bz_rg _ (Classical.propDecidable _)) (fun c17 => ?_) (fun c17 => ?_)
          · exact absurd c17 (by rw [@bz_pos _ (Classical.propDecidable _) he]; decide)
          · refine a_iconst (pc := 20) ok dX2_reachesEdge_20 ?_
            exact a_zret (pc := 21) ok dX2_reachesEdge_21 (by first | rfl | exact nb_bz _ | decide) (⟨by rw [@bz_pos _ (Classical.propDecidable _) (fun z => z _ hcon he)], rfl⟩)
      · skip
        refine a_iload_n (pc := 2) ok dX2_reachesEdge_2 rfl ?_
        refine a_iload_n (pc := 3) ok dX2_reachesEdge_3 rfl ?_
        refine a_icmp_ge (pc := 4) (tgt := 28) ok dX2_reachesEdge_4 (by decide) (by first | omega | (unfold rg; omega) | (simp only [rg] at *; omega) | exact bz_rg _ | grind [rg]) (by first | omega | (unfold rg; omega) | (simp only [rg] at *; omega) | exact bz_rg _ | grind [rg]) (fun c4 => ?_) (fun c4 => ?_)
        · exfalso; first | omega | grind
        · refine a_aload_n (pc := 7) ok dX2_reachesEdge_7 rfl ?_
          refine a_aload_n (pc := 8) ok dX2_reachesEdge_8 rfl ?_
          refine a_getf (pc := 9) ok dX2_reachesEdge_9 fl2_24 rfl rfl ?_
          refine a_iload_n (pc := 12) ok dX2_reachesEdge_12 rfl ?_
          refine a_iald (pc := 13) ok dX2_reachesEdge_13 rfl (by first | decide | omega) (by first | omega | (unfold rg; omega) | (simp only [rg] at *; omega) | exact bz_rg _ | grind [rg]) ?_
          refine a_callVp (pc := 14) ok [6, 7, 8, 9, 10, 11, 12, 13] dX2_reachesEdge_14 mv2_72 miX0_isAtEdge (c_isAtEdge hd hcel) ⟨by decide, by decide, rfl, rfl, Nat.zero_le _, Nat.zero_le _⟩ rfl rfl (Nat.le_of_ble_eq_true rfl) rfl (by decide) rfl rfl ?_
          refine a_if_eq (pc := 17) (tgt := 22) ok dX2_reachesEdge_17 (by decide) (by exact @bz_rg _ (Classical.propDecidable _)) (fun c17 => ?_) (fun c17 => ?_)
          · refine a_iinc (pc := 22) ok dX2_reachesEdge_22 rfl rfl (by rw [hN]; decide) ?_
            refine a_goto (pc := 25) (tgt := 2) ok dX2_reachesEdge_25 (by decide) ?_
            exact AW.cast (ih (k + 1) ⟨by omega, fun i a1 a2 => by
              by_cases e : i = k
              · rw [e]; exact he
              · exact h2 i a1 (by omega)⟩ (by omega)) rfl rfl rfl
          · exact absurd (@bz_neg _ (Classical.propDecidable _) he) c17
    · skip
      refine a_iload_n (pc := 2) ok dX2_reachesEdge_2 rfl ?_
      refine a_iload_n (pc := 3) ok dX2_reachesEdge_3 rfl ?_
      refine a_icmp_ge (pc := 4) (tgt := 28) ok dX2_reachesEdge_4 (by decide) (by first | omega | (unfold rg; omega) | (simp only [rg] at *; omega) | exact bz_rg _ | grind [rg]) (by first | omega | (unfold rg; omega) | (simp only [rg] at *; omega) | exact bz_rg _ | grind [rg]) (fun c4 => ?_) (fun c4 => ?_)
      · refine a_iconst (pc := 28) ok dX2_reachesEdge_28 ?_
        exact a_zret (pc := 29) ok dX2_reachesEdge_29 (by first | rfl | exact nb_bz _ | decide) (⟨by rw [@bz_neg _ (Classical.propDecidable _) (fun z => z (fun i hi => by obtain ⟨a, a1, a2, a3⟩ := q2 i hi; rw [← a3]; exact h2 a a1 (by omega)))], rfl⟩)
      · exfalso; first | omega | grind
  refine a_iconst (pc := 0) ok dX2_reachesEdge_0 ?_
  refine a_istore_n (pc := 1) ok dX2_reachesEdge_1 rfl (by rw [hN]; decide) ?_
  exact AW.cast (loop 0 ⟨by omega, fun i a1 a2 => by omega⟩) rfl rfl rfl
/-- a mother, told anew by an island with x in a hole -/
noncomputable def upm (c r : Int) (b : Int → Int) (L m : Int) : Int := if m = -1 ∨ siz c r b L < siz c r b (fo c r b m) then rk c r b L else m
theorem dX2_takeHole_0 : decode cX2_takeHole 0 = .ok (.aload_n 0, 1) := by decide +kernel
theorem dX2_takeHole_1 : decode cX2_takeHole 1 = .ok (.getfield 9, 3) := by decide +kernel
theorem dX2_takeHole_4 : decode cX2_takeHole 4 = .ok (.iload_n 2, 1) := by decide +kernel
theorem dX2_takeHole_5 : decode cX2_takeHole 5 = .ok (.dup2, 1) := by decide +kernel
theorem dX2_takeHole_6 : decode cX2_takeHole 6 = .ok (.iaload, 1) := by decide +kernel
theorem dX2_takeHole_7 : decode cX2_takeHole 7 = .ok (.iconst 1, 1) := by decide +kernel
theorem dX2_takeHole_8 : decode cX2_takeHole 8 = .ok (.iadd, 1) := by decide +kernel
theorem dX2_takeHole_9 : decode cX2_takeHole 9 = .ok (.iastore, 1) := by decide +kernel
theorem dX2_takeHole_10 : decode cX2_takeHole 10 = .ok (.iconst 0, 1) := by decide +kernel
theorem dX2_takeHole_11 : decode cX2_takeHole 11 = .ok (.istore 4, 2) := by decide +kernel
theorem dX2_takeHole_13 : decode cX2_takeHole 13 = .ok (.iload 4, 2) := by decide +kernel
theorem dX2_takeHole_15 : decode cX2_takeHole 15 = .ok (.iload_n 3, 1) := by decide +kernel
theorem dX2_takeHole_16 : decode cX2_takeHole 16 = .ok (.if_icmp .ge 83, 3) := by decide +kernel
theorem dX2_takeHole_19 : decode cX2_takeHole 19 = .ok (.aload_n 0, 1) := by decide +kernel
theorem dX2_takeHole_20 : decode cX2_takeHole 20 = .ok (.getfield 24, 3) := by decide +kernel
theorem dX2_takeHole_23 : decode cX2_takeHole 23 = .ok (.iload 4, 2) := by decide +kernel
theorem dX2_takeHole_25 : decode cX2_takeHole 25 = .ok (.iaload, 1) := by decide +kernel
theorem dX2_takeHole_26 : decode cX2_takeHole 26 = .ok (.istore 5, 2) := by decide +kernel
theorem dX2_takeHole_28 : decode cX2_takeHole 28 = .ok (.aload_n 1, 1) := by decide +kernel
theorem dX2_takeHole_29 : decode cX2_takeHole 29 = .ok (.iload 5, 2) := by decide +kernel
theorem dX2_takeHole_31 : decode cX2_takeHole 31 = .ok (.invokevirtual 76, 3) := by decide +kernel
theorem dX2_takeHole_34 : decode cX2_takeHole 34 = .ok (.ifCond .eq 59, 3) := by decide +kernel
theorem dX2_takeHole_37 : decode cX2_takeHole 37 = .ok (.aload_n 1, 1) := by decide +kernel
theorem dX2_takeHole_38 : decode cX2_takeHole 38 = .ok (.iload 5, 2) := by decide +kernel
theorem dX2_takeHole_40 : decode cX2_takeHole 40 = .ok (.invokevirtual 50, 3) := by decide +kernel
theorem dX2_takeHole_43 : decode cX2_takeHole 43 = .ok (.istore 6, 2) := by decide +kernel
theorem dX2_takeHole_45 : decode cX2_takeHole 45 = .ok (.aload_n 0, 1) := by decide +kernel
theorem dX2_takeHole_46 : decode cX2_takeHole 46 = .ok (.getfield 18, 3) := by decide +kernel
theorem dX2_takeHole_49 : decode cX2_takeHole 49 = .ok (.iload_n 2, 1) := by decide +kernel
theorem dX2_takeHole_50 : decode cX2_takeHole 50 = .ok (.dup2, 1) := by decide +kernel
theorem dX2_takeHole_51 : decode cX2_takeHole 51 = .ok (.iaload, 1) := by decide +kernel
theorem dX2_takeHole_52 : decode cX2_takeHole 52 = .ok (.iconst 1, 1) := by decide +kernel
theorem dX2_takeHole_53 : decode cX2_takeHole 53 = .ok (.iadd, 1) := by decide +kernel
theorem dX2_takeHole_54 : decode cX2_takeHole 54 = .ok (.iastore, 1) := by decide +kernel
theorem dX2_takeHole_55 : decode cX2_takeHole 55 = .ok (.aload_n 0, 1) := by decide +kernel
theorem dX2_takeHole_56 : decode cX2_takeHole 56 = .ok (.getfield 15, 3) := by decide +kernel
theorem dX2_takeHole_59 : decode cX2_takeHole 59 = .ok (.iload 6, 2) := by decide +kernel
theorem dX2_takeHole_61 : decode cX2_takeHole 61 = .ok (.iaload, 1) := by decide +kernel
theorem dX2_takeHole_62 : decode cX2_takeHole 62 = .ok (.iconst (-1), 1) := by decide +kernel
theorem dX2_takeHole_63 : decode cX2_takeHole 63 = .ok (.if_icmp .eq 22, 3) := by decide +kernel
theorem dX2_takeHole_66 : decode cX2_takeHole 66 = .ok (.aload_n 1, 1) := by decide +kernel
theorem dX2_takeHole_67 : decode cX2_takeHole 67 = .ok (.iload_n 2, 1) := by decide +kernel
theorem dX2_takeHole_68 : decode cX2_takeHole 68 = .ok (.invokevirtual 39, 3) := by decide +kernel
theorem dX2_takeHole_71 : decode cX2_takeHole 71 = .ok (.aload_n 1, 1) := by decide +kernel
theorem dX2_takeHole_72 : decode cX2_takeHole 72 = .ok (.aload_n 0, 1) := by decide +kernel
theorem dX2_takeHole_73 : decode cX2_takeHole 73 = .ok (.getfield 15, 3) := by decide +kernel
theorem dX2_takeHole_76 : decode cX2_takeHole 76 = .ok (.iload 6, 2) := by decide +kernel
theorem dX2_takeHole_78 : decode cX2_takeHole 78 = .ok (.iaload, 1) := by decide +kernel
theorem dX2_takeHole_79 : decode cX2_takeHole 79 = .ok (.invokevirtual 39, 3) := by decide +kernel
theorem dX2_takeHole_82 : decode cX2_takeHole 82 = .ok (.if_icmp .ge 11, 3) := by decide +kernel
theorem dX2_takeHole_85 : decode cX2_takeHole 85 = .ok (.aload_n 0, 1) := by decide +kernel
theorem dX2_takeHole_86 : decode cX2_takeHole 86 = .ok (.getfield 15, 3) := by decide +kernel
theorem dX2_takeHole_89 : decode cX2_takeHole 89 = .ok (.iload 6, 2) := by decide +kernel
theorem dX2_takeHole_91 : decode cX2_takeHole 91 = .ok (.iload_n 2, 1) := by decide +kernel
theorem dX2_takeHole_92 : decode cX2_takeHole 92 = .ok (.iastore, 1) := by decide +kernel
theorem dX2_takeHole_93 : decode cX2_takeHole 93 = .ok (.iinc 4 1, 3) := by decide +kernel
theorem dX2_takeHole_96 : decode cX2_takeHole 96 = .ok (.goto (-83), 3) := by decide +kernel
theorem dX2_takeHole_99 : decode cX2_takeHole 99 = .ok (.return_, 1) := by decide +kernel
theorem c_takeHole {s had : Int} (hd : dim c r) (hs : cel c r s ∧ lw c r b s ≠ L) (hL : cel c r L) (hl : lw c r b L = L) (hI : IW c r b ct B F S Fo No) (hQ : BD (EH c r b L) s Qn had) (hh : had ≤ 144) (hMo : ∀ x, cel c r x → lw c r b x = x → Mo (rk c r b x) = -1 ∨ (0 ≤ Mo (rk c r b x) ∧ Mo (rk c r b x) < mny c r b)) :
    Ct l yX2_takeHole cX2_takeHole 7 none rmX2_takeHole [.ref 0, .ref 6, iv (rk c r b L), iv had] (nsM Ho Mo In Sn Qn ++ isA 6 c r (c * r) ct B F S Br Q Fo No)
    (fun v M => v = none ∧ ∃ Mo' : Int → Int, M = nsM (up Ho (rk c r b L) (Ho (rk c r b L) + 1)) Mo' (up In (rk c r b L) (In (rk c r b L) + cntK (fun j => tr (lw c r b j = j ∧ con (EH c r b L) s j)) (c * r).toNat)) Sn Qn ++ isA 6 c r (c * r) ct B F S Br Q Fo No ∧ ∀ x, cel c r x → lw c r b x = x → (con (EH c r b L) s x → Mo' (rk c r b x) = upm c r b L (Mo (rk c r b x))) ∧ (¬ con (EH c r b L) s x → Mo' (rk c r b x) = Mo (rk c r b x))) := by
  refine Ct.of miX2_takeHole (Nat.le_of_ble_eq_true rfl) ?_
  intro X hXl hN ok
  refine AW.cast (L2 := [some (.ref 0), some (.ref 6), some (iv (rk c r b L)), some (iv had), none, none, none]) ?_ rfl rfl rfl
  have hc := dim_cells hd
  obtain ⟨q1, q2, q3, q4⟩ := hQ
  have hrk := rk_mny hd hL hl
  have hm := mny_1 (B := b) hd
  have hsL := siz_rg (B := b) hd L
  have loop : ∀ q : Nat × (Int → Int), ((q.1 : Int) ≤ had ∧ ∀ x, cel c r x → lw c r b x = x → ((∃ i : Int, 0 ≤ i ∧ i < q.1 ∧ Qn i = x) → q.2 (rk c r b x) = upm c r b L (Mo (rk c r b x))) ∧ (¬ (∃ i : Int, 0 ≤ i ∧ i < q.1 ∧ Qn i = x) → q.2 (rk c r b x) = Mo (rk c r b x))) →
      AW X 0 0 13 [some (.ref 0), some (.ref 6), some (iv (rk c r b L)), some (iv had), some (iv q.1), none, none] [] (nsM (up Ho (rk c r b L) (Ho (rk c r b L) + 1)) q.2 (up In (rk c r b L) (In (rk c r b L) + cntK (fun j => tr (lw c r b j = j ∧ ∃ i : Int, 0 ≤ i ∧ i < (q.1 : Int) ∧ Qn i = j)) (c * r).toNat)) Sn Qn ++ isA 6 c r (c * r) ct B F S Br Q Fo No) := by
    refine wfl (fun q : Nat × (Int → Int) => 145 - q.1) _ _ ?_
    rintro ⟨k, Mc⟩ ⟨h1, h2⟩ ih
    dsimp only at h1 h2 ih ⊢
    by_cases hk : (k : Int) < had
    · have hcon := q1 k (by omega) hk
      have hcel := (EH_con hs hcon).1
      obtain ⟨x, ex⟩ : ∃ x, x = Qn k := ⟨_, rfl⟩
      have hnew : ∀ i : Int, 0 ≤ i → i < k → Qn i ≠ x := fun i a1 a2 => by rw [ex]; exact q3 i k a1 a2 hk
      rw [← ex] at hcon hcel
      have hc1 := hcel.1
      have hc2 := hcel.2
      have split : ∀ j : Int, (∃ i : Int, 0 ≤ i ∧ i < ((k + 1 : Nat) : Int) ∧ Qn i = j) ↔ (j = x ∨ ∃ i : Int, 0 ≤ i ∧ i < (k : Int) ∧ Qn i = j) := fun j => by
        constructor
        · rintro ⟨i, a1, a2, a3⟩
          by_cases e : i = k
          · left; rw [ex, ← e]; exact a3.symm
          · exact Or.inr ⟨i, a1, by omega, a3⟩
        · rintro (e | ⟨i, a1, a2, a3⟩)
          · exact ⟨k, by omega, by omega, by rw [e, ex]⟩
          · exact ⟨i, a1, by omega, a3⟩
      by_cases hf : lw c r b x = x
      · have hxr := rk_mny hd hcel hf
        have hMx := hMo x hcel hf
        have hMc : Mc (rk c r b x) = Mo (rk c r b x) := (h2 x hcel hf).2 (fun ⟨i, a1, a2, a3⟩ => hnew i a1 a2 a3)
        have hct : cntK (fun j => tr (lw c r b j = j ∧ ∃ i : Int, 0 ≤ i ∧ i < ((k + 1 : Nat) : Int) ∧ Qn i = j)) (c * r).toNat = cntK (fun j => tr (lw c r b j = j ∧ ∃ i : Int, 0 ≤ i ∧ i < (k : Int) ∧ Qn i = j)) (c * r).toNat + 1 := by
          have e : ((x.toNat : Nat) : Int) = x := Int.toNat_of_nonneg hc1
          refine cntK_ins (b := x.toNat) (tr_t.mpr (by rw [e]; exact ⟨hf, (split x).mpr (Or.inl rfl)⟩)) (tr_f.mpr (by rw [e]; rintro ⟨_, i, a1, a2, a3⟩; exact hnew i a1 a2 a3)) (fun j hj => tr_iff (and_congr_right fun _ => ?_)) (by omega)
          rw [split]
          exact ⟨fun z => z.elim (fun y => absurd y (by omega)) id, Or.inr⟩
        have hsz := siz_rg (B := b) hd (fo c r b (Mo (rk c r b x)))
        have hfo : Mo (rk c r b x) ≠ -1 → cel c r (fo c r b (Mo (rk c r b x))) ∧ lw c r b (fo c r b (Mo (rk c r b x))) = fo c r b (Mo (rk c r b x)) ∧ rk c r b (fo c r b (Mo (rk c r b x))) = Mo (rk c r b x) := fun h => fo_ok hd (by omega) (by omega)
        have csz : Mo (rk c r b x) ≠ -1 → Cd X.1.2.1 yX0_size cX0_size 2 (some .int) rmX0_size [.ref 0, iv (Mo (rk c r b x))] (isM c r (c * r) ct B F S Br Q Fo No) (some (iv (siz c r b (fo c r b (Mo (rk c r b x)))))) (isM c r (c * r) ct B F S Br Q Fo No) := fun h => by
          have a := hfo h
          have d := c_size (l := X.1.2.1) (Br := Br) (Q := Q) hd a.1 a.2.1 hI
          rw [a.2.2] at d; exact d
        have keep : ∀ m : Int, m = upm c r b L (Mo (rk c r b x)) → ∀ y, cel c r y → lw c r b y = y → ((∃ i : Int, 0 ≤ i ∧ i < ((k + 1 : Nat) : Int) ∧ Qn i = y) → up Mc (rk c r b x) m (rk c r b y) = upm c r b L (Mo (rk c r b y))) ∧ (¬ (∃ i : Int, 0 ≤ i ∧ i < ((k + 1 : Nat) : Int) ∧ Qn i = y) → up Mc (rk c r b x) m (rk c r b y) = Mo (rk c r b y)) := fun m hm y hy hy2 => by
          by_cases e : y = x
          · subst e
            refine ⟨fun _ => ?_, fun z => absurd ((split y).mpr (Or.inl rfl)) z⟩
            rw [up_at]; exact hm
          · have hne : rk c r b y ≠ rk c r b x := fun z => e (rk_inj hy hy2 hcel hf z)
            rw [up_ne hne, split]
            have := h2 y hy hy2
            exact ⟨fun z => this.1 (z.elim (fun w => absurd w e) id), fun z => this.2 (fun w => z (Or.inr w))⟩
        have keep2 : Mo (rk c r b x) = upm c r b L (Mo (rk c r b x)) → ∀ y, cel c r y → lw c r b y = y → ((∃ i : Int, 0 ≤ i ∧ i < ((k + 1 : Nat) : Int) ∧ Qn i = y) → Mc (rk c r b y) = upm c r b L (Mo (rk c r b y))) ∧ (¬ (∃ i : Int, 0 ≤ i ∧ i < ((k + 1 : Nat) : Int) ∧ Qn i = y) → Mc (rk c r b y) = Mo (rk c r b y)) := fun hm y hy hy2 => by
          have := keep _ hm y hy hy2
          rw [show up Mc (rk c r b x) (Mo (rk c r b x)) = Mc by rw [← hMc]; exact up_self] at this
          exact this
        have hin2 : ∀ f : Int → Int, f = up In (rk c r b L) (In (rk c r b L) + cntK (fun j => tr (lw c r b j = j ∧ ∃ i : Int, 0 ≤ i ∧ i < (k : Int) ∧ Qn i = j)) (c * r).toNat) → up f (rk c r b L) (f (rk c r b L) + 1) = up In (rk c r b L) (In (rk c r b L) + cntK (fun j => tr (lw c r b j = j ∧ ∃ i : Int, 0 ≤ i ∧ i < ((k + 1 : Nat) : Int) ∧ Qn i = j)) (c * r).toNat) := fun f hf => by
          rw [hf, up_up, up_at, hct, Int.add_assoc]
        have tail : ∀ M2 : Int → Int, (∀ y, cel c r y → lw c r b y = y → ((∃ i : Int, 0 ≤ i ∧ i < ((k + 1 : Nat) : Int) ∧ Qn i = y) → M2 (rk c r b y) = upm c r b L (Mo (rk c r b y))) ∧ (¬ (∃ i : Int, 0 ≤ i ∧ i < ((k + 1 : Nat) : Int) ∧ Qn i = y) → M2 (rk c r b y) = Mo (rk c r b y))) → ∀ u v : Option Value, AW X 0 0 93 [some (.ref 0), some (.ref 6), some (iv (rk c r b L)), some (iv had), some (iv k), u, v] [] (nsM (up Ho (rk c r b L) (Ho (rk c r b L) + 1)) M2 (up In (rk c r b L) (In (rk c r b L) + cntK (fun j => tr (lw c r b j = j ∧ ∃ i : Int, 0 ≤ i ∧ i < ((k + 1 : Nat) : Int) ∧ Qn i = j)) (c * r).toNat)) Sn Qn ++ isA 6 c r (c * r) ct B F S Br Q Fo No) := by
          intro M2 hM2 u v
          refine a_iinc (pc := 93) ok dX2_takeHole_93 rfl rfl (by rw [hN]; decide) ?_
          refine a_goto (pc := 96) (tgt := 13) ok dX2_takeHole_96 (by decide) ?_
          exact AW.forget (ih (k + 1, M2) ⟨by dsimp only; omega, hM2⟩ (by dsimp only; omega)) (by repeat' (first | exact trivial | refine ⟨rfl, ?_⟩))
        refine a_iload (pc := 13) ok dX2_takeHole_13 rfl ?_
        refine a_iload_n (pc := 15) ok dX2_takeHole_15 rfl ?_
        refine a_icmp_ge (pc := 16) (tgt := 99) ok dX2_takeHole_16 (by decide) (by first | omega | (unfold rg; omega) | (simp only [rg] at *; omega) | exact bz_rg _ | grind [rg]) (by first | omega | (unfold rg; omega) | (simp only [rg] at *; omega) | exact bz_rg _ | grind [rg]) (fun c16 => ?_) (fun c16 => ?_)
        · exfalso; first | omega | grind
        · refine a_aload_n (pc := 19) ok dX2_takeHole_19 rfl ?_
          refine a_getf (pc := 20) ok dX2_takeHole_20 fl2_24 rfl rfl ?_
          refine a_iload (pc := 23) ok dX2_takeHole_23 rfl ?_
          refine a_iald (pc := 25) ok dX2_takeHole_25 rfl (by first | decide | omega) (by first | omega | (unfold rg; omega) | (simp only [rg] at *; omega) | exact bz_rg _ | grind [rg]) ?_
          rw [← ex]
          refine a_istore (pc := 26) ok dX2_takeHole_26 rfl (by rw [hN]; decide) ?_
          refine a_aload_n (pc := 28) ok dX2_takeHole_28 rfl ?_
          refine a_iload (pc := 29) ok dX2_takeHole_29 rfl ?_
          refine a_callVp (pc := 31) ok [6, 7, 8, 9, 10, 11, 12, 13] dX2_takeHole_31 mv2_76 miX0_isFirstCell (c_isFirstCell hd hcel hI) ⟨by decide, by decide, rfl, rfl, Nat.zero_le _, Nat.zero_le _⟩ rfl rfl (Nat.le_of_ble_eq_true rfl) rfl (by decide) rfl rfl ?_
          refine a_if_eq (pc := 34) (tgt := 93) ok dX2_takeHole_34 (by decide) (by exact bz_rg _) (fun c34 => ?_) (fun c34 => ?_)
          · first
            | exact absurd c34 (by rw [bz_pos hf]; decide)
            | exact AW.cast (tail _ (keep _ (by unfold upm; rw [if_pos (by first | exact Or.inl c63 | exact Or.inr (by omega))])) _ _) rfl rfl (congrArg (fun f => nsM (up Ho (rk c r b L) (Ho (rk c r b L) + 1)) (up Mc (rk c r b x) (rk c r b L)) f Sn Qn ++ isA 6 c r (c * r) ct B F S Br Q Fo No) (hin2 _ rfl))
            | exact AW.cast (tail _ (keep2 (by unfold upm; rw [if_neg (by omega)])) _ _) rfl rfl (congrArg (fun f => nsM (up Ho (rk c r b L) (Ho (rk c r b L) + 1)) Mc f Sn Qn ++ isA 6 c r (c * r) ct B F S Br Q Fo No) (hin2 _ rfl))
          · refine a_aload_n (pc := 37) ok dX2_takeHole_37 rfl ?_
            refine a_iload (pc := 38) ok dX2_takeHole_38 rfl ?_
            refine a_callVp (pc := 40) ok [6, 7, 8, 9, 10, 11, 12, 13] dX2_takeHole_40 mv2_50 miX0_islandAt (c_islandAt hd hcel hI) ⟨by decide, by decide, rfl, rfl, Nat.zero_le _, Nat.zero_le _⟩ rfl rfl (Nat.le_of_ble_eq_true rfl) rfl (by decide) rfl rfl ?_
            rw [hf]
            refine a_istore (pc := 43) ok dX2_takeHole_43 rfl (by rw [hN]; decide) ?_
            refine a_aload_n (pc := 45) ok dX2_takeHole_45 rfl ?_
            refine a_getf (pc := 46) ok dX2_takeHole_46 fl2_18 rfl rfl ?_
            refine a_iload_n (pc := 49) ok dX2_takeHole_49 rfl ?_
            refine a_dup2 (pc := 50) ok dX2_takeHole_50 rfl rfl ?_
            refine a_iald (pc := 51) ok dX2_takeHole_51 rfl (by first | decide | omega) (by first | omega | (unfold rg; omega) | (simp only [rg] at *; omega) | exact bz_rg _ | grind [rg]) ?_
            refine a_iconst (pc := 52) ok dX2_takeHole_52 ?_
            refine a_iadd (pc := 53) ok dX2_takeHole_53 ?_
            refine a_iast (pc := 54) ok dX2_takeHole_54 rfl (by first | decide | omega) (by first | omega | (unfold rg; omega) | (simp only [rg] at *; omega) | exact bz_rg _ | grind [rg]) ?_
            refine a_aload_n (pc := 55) ok dX2_takeHole_55 rfl ?_
            refine a_getf (pc := 56) ok dX2_takeHole_56 fl2_15 rfl rfl ?_
            refine a_iload (pc := 59) ok dX2_takeHole_59 rfl ?_
            refine a_iald (pc := 61) ok dX2_takeHole_61 rfl (by first | decide | omega) (by first | omega | (unfold rg; omega) | (simp only [rg] at *; omega) | exact bz_rg _ | grind [rg]) ?_
            rw [hMc]
            refine a_iconst (pc := 62) ok dX2_takeHole_62 ?_
            refine a_icmp_eq (pc := 63) (tgt := 85) ok dX2_takeHole_63 (by decide) (by unfold rg; omega) (by unfold rg; omega) (fun c63 => ?_) (fun c63 => ?_)
            · refine a_aload_n (pc := 85) ok dX2_takeHole_85 rfl ?_
              refine a_getf (pc := 86) ok dX2_takeHole_86 fl2_15 rfl rfl ?_
              refine a_iload (pc := 89) ok dX2_takeHole_89 rfl ?_
              refine a_iload_n (pc := 91) ok dX2_takeHole_91 rfl ?_
              refine a_iast (pc := 92) ok dX2_takeHole_92 rfl (by first | decide | omega) (by first | omega | (unfold rg; omega) | (simp only [rg] at *; omega) | exact bz_rg _ | grind [rg]) ?_
              first
              | exact absurd c34 (by rw [bz_pos hf]; decide)
              | exact AW.cast (tail _ (keep _ (by unfold upm; rw [if_pos (by first | exact Or.inl c63 | exact Or.inr (by omega))])) _ _) rfl rfl (congrArg (fun f => nsM (up Ho (rk c r b L) (Ho (rk c r b L) + 1)) (up Mc (rk c r b x) (rk c r b L)) f Sn Qn ++ isA 6 c r (c * r) ct B F S Br Q Fo No) (hin2 _ rfl))
              | exact AW.cast (tail _ (keep2 (by unfold upm; rw [if_neg (by omega)])) _ _) rfl rfl (congrArg (fun f => nsM (up Ho (rk c r b L) (Ho (rk c r b L) + 1)) Mc f Sn Qn ++ isA 6 c r (c * r) ct B F S Br Q Fo No) (hin2 _ rfl))
            · refine a_aload_n (pc := 66) ok dX2_takeHole_66 rfl ?_
              refine a_iload_n (pc := 67) ok dX2_takeHole_67 rfl ?_
              refine a_callVp (pc := 68) ok [6, 7, 8, 9, 10, 11, 12, 13] dX2_takeHole_68 mv2_39 miX0_size (c_size hd hL hl hI) ⟨by decide, by decide, rfl, rfl, Nat.zero_le _, Nat.zero_le _⟩ rfl rfl (Nat.le_of_ble_eq_true rfl) rfl (by decide) rfl rfl ?_
              refine a_aload_n (pc := 71) ok dX2_takeHole_71 rfl ?_
              refine a_aload_n (pc := 72) ok dX2_takeHole_72 rfl ?_
              refine a_getf (pc := 73) ok dX2_takeHole_73 fl2_15 rfl rfl ?_
              refine a_iload (pc := 76) ok dX2_takeHole_76 rfl ?_
              refine a_iald (pc := 78) ok dX2_takeHole_78 rfl (by first | decide | omega) (by first | omega | (unfold rg; omega) | (simp only [rg] at *; omega) | exact bz_rg _ | grind [rg]) ?_
              rw [hMc]
              refine a_callVp (pc := 79) ok [6, 7, 8, 9, 10, 11, 12, 13] dX2_takeHole_79 mv2_39 miX0_size (csz c63) ⟨by decide, by decide, rfl, rfl, Nat.zero_le _, Nat.zero_le _⟩ rfl rfl (Nat.le_of_ble_eq_true rfl) rfl (by decide) rfl rfl ?_
              refine a_icmp_ge (pc := 82) (tgt := 93) ok dX2_takeHole_82 (by decide) (by first | omega | (unfold rg; omega) | (simp only [rg] at *; omega) | exact bz_rg _ | grind [rg]) (by first | omega | (unfold rg; omega) | (simp only [rg] at *; omega) | exact bz_rg _ | grind [rg]) (fun c82 => ?_) (fun c82 => ?_)
              · first
                | exact absurd c34 (by rw [bz_pos hf]; decide)
                | exact AW.cast (tail _ (keep _ (by unfold upm; rw [if_pos (by first | exact Or.inl c63 | exact Or.inr (by omega))])) _ _) rfl rfl (congrArg (fun f => nsM (up Ho (rk c r b L) (Ho (rk c r b L) + 1)) (up Mc (rk c r b x) (rk c r b L)) f Sn Qn ++ isA 6 c r (c * r) ct B F S Br Q Fo No) (hin2 _ rfl))
                | exact AW.cast (tail _ (keep2 (by unfold upm; rw [if_neg (by omega)])) _ _) rfl rfl (congrArg (fun f => nsM (up Ho (rk c r b L) (Ho (rk c r b L) + 1)) Mc f Sn Qn ++ isA 6 c r (c * r) ct B F S Br Q Fo No) (hin2 _ rfl))
              · refine a_aload_n (pc := 85) ok dX2_takeHole_85 rfl ?_
                refine a_getf (pc := 86) ok dX2_takeHole_86 fl2_15 rfl rfl ?_
                refine a_iload (pc := 89) ok dX2_takeHole_89 rfl ?_
                refine a_iload_n (pc := 91) ok dX2_takeHole_91 rfl ?_
                refine a_iast (pc := 92) ok dX2_takeHole_92 rfl (by first | decide | omega) (by first | omega | (unfold rg; omega) | (simp only [rg] at *; omega) | exact bz_rg _ | grind [rg]) ?_
                first
                | exact absurd c34 (by rw [bz_pos hf]; decide)
                | exact AW.cast (tail _ (keep _ (by unfold upm; rw [if_pos (by first | exact Or.inl c63 | exact Or.inr (by omega))])) _ _) rfl rfl (congrArg (fun f => nsM (up Ho (rk c r b L) (Ho (rk c r b L) + 1)) (up Mc (rk c r b x) (rk c r b L)) f Sn Qn ++ isA 6 c r (c * r) ct B F S Br Q Fo No) (hin2 _ rfl))
                | exact AW.cast (tail _ (keep2 (by unfold upm; rw [if_neg (by omega)])) _ _) rfl rfl (congrArg (fun f => nsM (up Ho (rk c r b L) (Ho (rk c r b L) + 1)) Mc f Sn Qn ++ isA 6 c r (c * r) ct B F S Br Q Fo No) (hin2 _ rfl))
      · skip
        have hct : cntK (fun j => tr (lw c r b j = j ∧ ∃ i : Int, 0 ≤ i ∧ i < (k : Int) ∧ Qn i = j)) (c * r).toNat = cntK (fun j => tr (lw c r b j = j ∧ ∃ i : Int, 0 ≤ i ∧ i < ((k + 1 : Nat) : Int) ∧ Qn i = j)) (c * r).toNat := cntK_congr _ fun j _ => tr_iff (and_congr_right fun y => by
          rw [split]
          exact ⟨Or.inr, fun z => z.elim (fun w => absurd (w ▸ y) hf) id⟩)
        have keep3 : ∀ y, cel c r y → lw c r b y = y → ((∃ i : Int, 0 ≤ i ∧ i < ((k + 1 : Nat) : Int) ∧ Qn i = y) → Mc (rk c r b y) = upm c r b L (Mo (rk c r b y))) ∧ (¬ (∃ i : Int, 0 ≤ i ∧ i < ((k + 1 : Nat) : Int) ∧ Qn i = y) → Mc (rk c r b y) = Mo (rk c r b y)) := fun y hy hy2 => by
          have hne : y ≠ x := fun e => hf (e ▸ hy2)
          rw [split]
          have := h2 y hy hy2
          exact ⟨fun z => this.1 (z.elim (fun w => absurd w hne) id), fun z => this.2 (fun w => z (Or.inr w))⟩
        refine a_iload (pc := 13) ok dX2_takeHole_13 rfl ?_
        refine a_iload_n (pc := 15) ok dX2_takeHole_15 rfl ?_
        refine a_icmp_ge (pc := 16) (tgt := 99) ok dX2_takeHole_16 (by decide) (by first | omega | (unfold rg; omega) | (simp only [rg] at *; omega) | exact bz_rg _ | grind [rg]) (by first | omega | (unfold rg; omega) | (simp only [rg] at *; omega) | exact bz_rg _ | grind [rg]) (fun c16 => ?_) (fun c16 => ?_)
        · exfalso; first | omega | grind
        · refine a_aload_n (pc := 19) ok dX2_takeHole_19 rfl ?_
          refine a_getf (pc := 20) ok dX2_takeHole_20 fl2_24 rfl rfl ?_
          refine a_iload (pc := 23) ok dX2_takeHole_23 rfl ?_
          refine a_iald (pc := 25) ok dX2_takeHole_25 rfl (by first | decide | omega) (by first | omega | (unfold rg; omega) | (simp only [rg] at *; omega) | exact bz_rg _ | grind [rg]) ?_
          rw [← ex]
          refine a_istore (pc := 26) ok dX2_takeHole_26 rfl (by rw [hN]; decide) ?_
          refine a_aload_n (pc := 28) ok dX2_takeHole_28 rfl ?_
          refine a_iload (pc := 29) ok dX2_takeHole_29 rfl ?_
          refine a_callVp (pc := 31) ok [6, 7, 8, 9, 10, 11, 12, 13] dX2_takeHole_31 mv2_76 miX0_isFirstCell (c_isFirstCell hd hcel hI) ⟨by decide, by decide, rfl, rfl, Nat.zero_le _, Nat.zero_le _⟩ rfl rfl (Nat.le_of_ble_eq_true rfl) rfl (by decide) rfl rfl ?_
          refine a_if_eq (pc := 34) (tgt := 93) ok dX2_takeHole_34 (by decide) (by exact bz_rg _) (fun c34 => ?_) (fun c34 => ?_)
          · refine a_iinc (pc := 93) ok dX2_takeHole_93 rfl rfl (by rw [hN]; decide) ?_
            refine a_goto (pc := 96) (tgt := 13) ok dX2_takeHole_96 (by decide) ?_
            exact AW.forget (AW.cast (ih (k + 1, Mc) ⟨by dsimp only; omega, keep3⟩ (by dsimp only; omega)) rfl rfl (by rw [hct])) (by repeat' (first | exact trivial | refine ⟨rfl, ?_⟩))
          · exact absurd (bz_neg hf) c34
    · have ek : (k : Int) = had := by omega
      have hiff : ∀ j : Int, (∃ i : Int, 0 ≤ i ∧ i < (k : Int) ∧ Qn i = j) ↔ con (EH c r b L) s j := fun j => ⟨fun ⟨i, a1, a2, a3⟩ => a3 ▸ q1 i a1 (by omega), fun z => by rw [ek]; exact q2 j z⟩
      have hct : cntK (fun j => tr (lw c r b j = j ∧ ∃ i : Int, 0 ≤ i ∧ i < (k : Int) ∧ Qn i = j)) (c * r).toNat = cntK (fun j => tr (lw c r b j = j ∧ con (EH c r b L) s j)) (c * r).toNat := cntK_congr _ fun j _ => tr_iff (and_congr_right fun _ => hiff j)
      refine a_iload (pc := 13) ok dX2_takeHole_13 rfl ?_
      refine a_iload_n (pc := 15) ok dX2_takeHole_15 rfl ?_
      refine a_icmp_ge (pc := 16) (tgt := 99) ok dX2_takeHole_16 (by decide) (by first | omega | (unfold rg; omega) | (simp only [rg] at *; omega) | exact bz_rg _ | grind [rg]) (by first | omega | (unfold rg; omega) | (simp only [rg] at *; omega) | exact bz_rg _ | grind [rg]) (fun c16 => ?_) (fun c16 => ?_)
      · exact a_vret (pc := 99) ok dX2_takeHole_99 (⟨rfl, Mc, by rw [hct], fun x hx hx2 => by have := h2 x hx hx2; rw [hiff] at this; exact this⟩)
      · exfalso; first | omega | grind
  have hct0 : cntK (fun j => tr (lw c r b j = j ∧ ∃ i : Int, 0 ≤ i ∧ i < ((0 : Nat) : Int) ∧ Qn i = j)) (c * r).toNat = 0 := cntK_none fun j _ => tr_f.mpr fun ⟨_, i, a1, a2, _⟩ => by omega
  refine a_aload_n (pc := 0) ok dX2_takeHole_0 rfl ?_
  refine a_getf (pc := 1) ok dX2_takeHole_1 fl2_9 rfl rfl ?_
  refine a_iload_n (pc := 4) ok dX2_takeHole_4 rfl ?_
  refine a_dup2 (pc := 5) ok dX2_takeHole_5 rfl rfl ?_
  refine a_iald (pc := 6) ok dX2_takeHole_6 rfl (by first | decide | omega) (by first | omega | (unfold rg; omega) | (simp only [rg] at *; omega) | exact bz_rg _ | grind [rg]) ?_
  refine a_iconst (pc := 7) ok dX2_takeHole_7 ?_
  refine a_iadd (pc := 8) ok dX2_takeHole_8 ?_
  refine a_iast (pc := 9) ok dX2_takeHole_9 rfl (by first | decide | omega) (by first | omega | (unfold rg; omega) | (simp only [rg] at *; omega) | exact bz_rg _ | grind [rg]) ?_
  refine a_iconst (pc := 10) ok dX2_takeHole_10 ?_
  refine a_istore (pc := 11) ok dX2_takeHole_11 rfl (by rw [hN]; decide) ?_
  refine AW.cast (loop (0, Mo) ⟨by dsimp only; omega, fun x _ _ => ⟨fun ⟨i, a1, a2, _⟩ => by dsimp only at a2; omega, fun _ => rfl⟩⟩) rfl rfl ?_
  dsimp only
  rw [hct0, Int.add_zero, up_self]
  rfl
end NF
