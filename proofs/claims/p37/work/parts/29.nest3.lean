/-! NEST: the holes of an island, of all islands. -/
section NG
variable {l : Launch} {c r ct L : Int} {B F S Br Q Fo No b Ho Mo In Sn Qn : Int → Int}
/-- islands in holes of L whose lowest cell is below k -/
noncomputable def inK (c r : Int) (b : Int → Int) (L k : Int) : Int := cntK (fun j => tr (lw c r b j = j ∧ j ≠ L ∧ inr c r b L j ∧ hlw c r b L j < k)) (c * r).toNat
theorem EH_near {a d : Int} (h : con (EH c r b L) a d) (hn : a ≠ d) : lw c r b a ≠ L ∧ lw c r b d ≠ L := by
  have h1 := con_inv (P := fun x => a = x ∨ (lw c r b a ≠ L ∧ lw c r b x ≠ L)) (fun x y hx e => by
    rcases hx with hx | hx
    · subst hx; exact Or.inr ⟨e.1.2, e.2.1.2⟩
    · exact Or.inr ⟨hx.1, e.2.1.2⟩) (Or.inl rfl) h
  exact h1.elim (fun e => absurd e hn) id
/-- no new hole begins at k -/
theorem hlw_skip (hd : dim c r) {k : Int} (hs : lw c r b k = L ∨ hlw c r b L k ≠ k) : ∀ j, cel c r j → lw c r b j ≠ L → (hlw c r b L j < k + 1 ↔ hlw c r b L j < k) := fun j hj hl => by
  have : hlw c r b L j ≠ k := fun e => by
    have h1 := hlw_ok (b := b) (L := L) hd hj
    rcases hs with z | z
    · by_cases y : j = hlw c r b L j
      · exact hl (by rw [y, e]; exact z)
      · exact (EH_near h1.2.2 y).2 (by rw [e]; exact z)
    · exact z (by rw [← e]; exact hlw_hlw hd hj)
  omega
theorem rk_first {j : Int} (h : lw c r b j = j) (h0 : 0 ≤ j) : cel c r j := Classical.byContradiction fun z => by rw [lw_out z] at h; omega
theorem inK_skip (hd : dim c r) {k : Int} (hs : ∀ j, cel c r j → lw c r b j ≠ L → inr c r b L j → (hlw c r b L j < k + 1 ↔ hlw c r b L j < k)) : inK c r b L (k + 1) = inK c r b L k := by
  refine cntK_congr _ fun j hj => tr_iff (and_congr_right fun h1 => and_congr_right fun h2 => and_congr_right fun h3 => ?_)
  exact hs j (rk_first h1 (by omega)) (by rw [h1]; exact h2) h3
theorem inK_take (hd : dim c r) {k : Int} (hk : cel c r k) (hl : lw c r b k ≠ L) (h0 : hlw c r b L k = k) (hi : inr c r b L k) : inK c r b L (k + 1) = inK c r b L k + cntK (fun j => tr (lw c r b j = j ∧ con (EH c r b L) k j)) (c * r).toNat := by
  have h1 := cntK_or (p := fun j => tr (lw c r b j = j ∧ j ≠ L ∧ inr c r b L j ∧ hlw c r b L j < k)) (q := fun j => tr (lw c r b j = j ∧ con (EH c r b L) k j)) (N := (c * r).toNat) (fun j hj ⟨z1, z2⟩ => by
    have a := tr_t.mp z1
    have d := tr_t.mp z2
    have := hlw_eq d.2
    omega)
  unfold inK
  rw [← h1]
  refine cntK_congr _ fun j hj => ?_
  by_cases z : lw c r b j = j
  · have hcj := rk_first z (by omega)
    by_cases y : con (EH c r b L) k j
    · have e1 := hlw_eq y
      have e2 := EH_con ⟨hk, hl⟩ y
      have e3 := (inr_con y).mp hi
      rw [tr_t.mpr ⟨z, fun e => e2.2 (by rw [z]; exact e), e3, by omega⟩, tr_t.mpr (show lw c r b j = j ∧ con (EH c r b L) k j from ⟨z, y⟩), Bool.or_true]
    · rw [tr_f.mpr (show ¬ (lw c r b j = j ∧ con (EH c r b L) k j) from fun q => y q.2), Bool.or_false]
      have : hlw c r b L j ≠ k := fun e => y ((hlw_iff hd hk hcj).mp (by rw [h0, e]))
      exact tr_iff (and_congr_right fun _ => and_congr_right fun _ => and_congr_right fun _ => by omega)
  · rw [tr_f.mpr (fun q => z q.1), tr_f.mpr (fun q => z q.1), tr_f.mpr (fun q => z q.1)]; rfl
theorem inK_0 (hd : dim c r) : inK c r b L 0 = 0 := cntK_none fun j hj => tr_f.mpr fun z => by have := (hlw_ok (b := b) (L := L) hd (rk_first z.1 (by omega))).1; have := z.2.2.2; omega
theorem inK_N (hd : dim c r) {k : Int} (h : k = c * r) : inK c r b L k = inF c r b L := by
  refine cntK_congr _ fun j hj => tr_iff (and_congr_right fun h1 => and_congr_right fun h2 => ⟨fun z => z.1, fun z => ⟨z, ?_⟩⟩)
  have hc := rk_first h1 (by omega)
  have := (hlw_ok (b := b) (L := L) hd hc).2.1
  have := hc.2
  omega
theorem hoK_t {k : Nat} (h1 : lw c r b k ≠ L) (h2 : hlw c r b L k = k) (h3 : inr c r b L k) : hoK c r b L (k + 1) = hoK c r b L k + 1 := cntK_t (tr_t.mpr ⟨h1, h2, h3⟩)
theorem hoK_f {k : Nat} (h : ¬ (lw c r b k ≠ L ∧ hlw c r b L k = k ∧ inr c r b L k)) : hoK c r b L (k + 1) = hoK c r b L k := cntK_f (tr_f.mpr h)
def moOk (c r : Int) (b Mo : Int → Int) : Prop := ∀ x, cel c r x → lw c r b x = x → Mo (rk c r b x) = -1 ∨ (0 ≤ Mo (rk c r b x) ∧ Mo (rk c r b x) < mny c r b)
theorem upm_ok (hd : dim c r) (hL : cel c r L) (hl : lw c r b L = L) {m : Int} (h : m = -1 ∨ (0 ≤ m ∧ m < mny c r b)) : upm c r b L m = -1 ∨ (0 ≤ upm c r b L m ∧ upm c r b L m < mny c r b) := by
  have := rk_mny hd hL hl
  unfold upm; split
  · exact Or.inr this
  · exact h
theorem dX2_findHoles_0 : decode cX2_findHoles 0 = .ok (.aload_n 0, 1) := by decide +kernel
theorem dX2_findHoles_1 : decode cX2_findHoles 1 = .ok (.getfield 21, 3) := by decide +kernel
theorem dX2_findHoles_4 : decode cX2_findHoles 4 = .ok (.iconst 0, 1) := by decide +kernel
theorem dX2_findHoles_5 : decode cX2_findHoles 5 = .ok (.invokestatic 27, 3) := by decide +kernel
theorem dX2_findHoles_8 : decode cX2_findHoles 8 = .ok (.iconst 0, 1) := by decide +kernel
theorem dX2_findHoles_9 : decode cX2_findHoles 9 = .ok (.istore_n 3, 1) := by decide +kernel
theorem dX2_findHoles_10 : decode cX2_findHoles 10 = .ok (.iload_n 3, 1) := by decide +kernel
theorem dX2_findHoles_11 : decode cX2_findHoles 11 = .ok (.aload_n 1, 1) := by decide +kernel
theorem dX2_findHoles_12 : decode cX2_findHoles 12 = .ok (.getfield 47, 3) := by decide +kernel
theorem dX2_findHoles_15 : decode cX2_findHoles 15 = .ok (.if_icmp .ge 54, 3) := by decide +kernel
theorem dX2_findHoles_18 : decode cX2_findHoles 18 = .ok (.aload_n 0, 1) := by decide +kernel
theorem dX2_findHoles_19 : decode cX2_findHoles 19 = .ok (.getfield 21, 3) := by decide +kernel
theorem dX2_findHoles_22 : decode cX2_findHoles 22 = .ok (.iload_n 3, 1) := by decide +kernel
theorem dX2_findHoles_23 : decode cX2_findHoles 23 = .ok (.iaload, 1) := by decide +kernel
theorem dX2_findHoles_24 : decode cX2_findHoles 24 = .ok (.ifCond .ne 39, 3) := by decide +kernel
theorem dX2_findHoles_27 : decode cX2_findHoles 27 = .ok (.aload_n 1, 1) := by decide +kernel
theorem dX2_findHoles_28 : decode cX2_findHoles 28 = .ok (.iload_n 3, 1) := by decide +kernel
theorem dX2_findHoles_29 : decode cX2_findHoles 29 = .ok (.invokevirtual 50, 3) := by decide +kernel
theorem dX2_findHoles_32 : decode cX2_findHoles 32 = .ok (.iload_n 2, 1) := by decide +kernel
theorem dX2_findHoles_33 : decode cX2_findHoles 33 = .ok (.if_icmp .eq 30, 3) := by decide +kernel
theorem dX2_findHoles_36 : decode cX2_findHoles 36 = .ok (.aload_n 0, 1) := by decide +kernel
theorem dX2_findHoles_37 : decode cX2_findHoles 37 = .ok (.aload_n 1, 1) := by decide +kernel
theorem dX2_findHoles_38 : decode cX2_findHoles 38 = .ok (.iload_n 2, 1) := by decide +kernel
theorem dX2_findHoles_39 : decode cX2_findHoles 39 = .ok (.iload_n 3, 1) := by decide +kernel
theorem dX2_findHoles_40 : decode cX2_findHoles 40 = .ok (.invokevirtual 53, 3) := by decide +kernel
theorem dX2_findHoles_43 : decode cX2_findHoles 43 = .ok (.istore 4, 2) := by decide +kernel
theorem dX2_findHoles_45 : decode cX2_findHoles 45 = .ok (.aload_n 0, 1) := by decide +kernel
theorem dX2_findHoles_46 : decode cX2_findHoles 46 = .ok (.aload_n 1, 1) := by decide +kernel
theorem dX2_findHoles_47 : decode cX2_findHoles 47 = .ok (.iload 4, 2) := by decide +kernel
theorem dX2_findHoles_49 : decode cX2_findHoles 49 = .ok (.invokevirtual 57, 3) := by decide +kernel
theorem dX2_findHoles_52 : decode cX2_findHoles 52 = .ok (.ifCond .ne 11, 3) := by decide +kernel
theorem dX2_findHoles_55 : decode cX2_findHoles 55 = .ok (.aload_n 0, 1) := by decide +kernel
theorem dX2_findHoles_56 : decode cX2_findHoles 56 = .ok (.aload_n 1, 1) := by decide +kernel
theorem dX2_findHoles_57 : decode cX2_findHoles 57 = .ok (.iload_n 2, 1) := by decide +kernel
theorem dX2_findHoles_58 : decode cX2_findHoles 58 = .ok (.iload 4, 2) := by decide +kernel
theorem dX2_findHoles_60 : decode cX2_findHoles 60 = .ok (.invokevirtual 61, 3) := by decide +kernel
theorem dX2_findHoles_63 : decode cX2_findHoles 63 = .ok (.iinc 3 1, 3) := by decide +kernel
theorem dX2_findHoles_66 : decode cX2_findHoles 66 = .ok (.goto (-56), 3) := by decide +kernel
theorem dX2_findHoles_69 : decode cX2_findHoles 69 = .ok (.return_, 1) := by decide +kernel
theorem c_findHoles (hd : dim c r) (hL : cel c r L) (hl : lw c r b L = L) (hI : IW c r b ct B F S Fo No) (hMo : moOk c r b Mo) :
    Ct l yX2_findHoles cX2_findHoles 5 none rmX2_findHoles [.ref 0, .ref 6, iv (rk c r b L)] (nsM Ho Mo In Sn Qn ++ isA 6 c r (c * r) ct B F S Br Q Fo No)
    (fun v M => v = none ∧ ∃ Mo' Sn' Qn' : Int → Int, M = nsM (up Ho (rk c r b L) (Ho (rk c r b L) + hoF c r b L)) Mo' (up In (rk c r b L) (In (rk c r b L) + inF c r b L)) Sn' Qn' ++ isA 6 c r (c * r) ct B F S Br Q Fo No ∧ ∀ x, cel c r x → lw c r b x = x → (x ≠ L ∧ inr c r b L x → Mo' (rk c r b x) = upm c r b L (Mo (rk c r b x))) ∧ (¬ (x ≠ L ∧ inr c r b L x) → Mo' (rk c r b x) = Mo (rk c r b x))) := by
  refine Ct.of miX2_findHoles (Nat.le_of_ble_eq_true rfl) ?_
  intro X hXl hN ok
  refine AW.cast (L2 := [some (.ref 0), some (.ref 6), some (iv (rk c r b L)), none, none]) ?_ rfl rfl rfl
  have hc := dim_cells hd
  have hrk := rk_mny hd hL hl
  have hm := mny_1 (B := b) hd
  have loop : ∀ q : Nat × (Int → Int) × (Int → Int) × (Int → Int), ((q.1 : Int) ≤ c * r ∧ (∀ j, q.2.1 j = 0 ∨ q.2.1 j = 1) ∧ (∀ j, cel c r j → lw c r b j ≠ L → (q.2.1 j = 1 ↔ hlw c r b L j < q.1)) ∧ ∀ x, cel c r x → lw c r b x = x → (x ≠ L ∧ inr c r b L x ∧ hlw c r b L x < q.1 → q.2.2.2 (rk c r b x) = upm c r b L (Mo (rk c r b x))) ∧ (¬ (x ≠ L ∧ inr c r b L x ∧ hlw c r b L x < q.1) → q.2.2.2 (rk c r b x) = Mo (rk c r b x))) →
      AW X 0 0 10 [some (.ref 0), some (.ref 6), some (iv (rk c r b L)), some (iv q.1), none] [] (nsM (up Ho (rk c r b L) (Ho (rk c r b L) + hoK c r b L q.1)) q.2.2.2 (up In (rk c r b L) (In (rk c r b L) + inK c r b L q.1)) q.2.1 q.2.2.1 ++ isA 6 c r (c * r) ct B F S Br Q Fo No) := by
    refine wfl (fun q : Nat × (Int → Int) × (Int → Int) × (Int → Int) => 145 - q.1) _ _ ?_
    rintro ⟨k, Sn, Qn, Mc⟩ ⟨h1, h2, h3, h4⟩ ih
    dsimp only at h1 h2 h3 h4 ih ⊢
    have hSk := h2 k
    by_cases hk : (k : Int) < c * r
    · have hck : cel c r k := ⟨by omega, hk⟩
      have hlo := hlw_ok (b := b) (L := L) hd hck
      have hlk := lw_ok (B := b) hd hck
      have hir : rk c r b (lw c r b k) = rk c r b L ↔ lw c r b k = L := ⟨fun e => rk_inj hlk.1 (lw_lw hd hck) hL hl e, fun e => by rw [e]⟩
      have hir2 := rk_mny hd hlk.1 (lw_lw (B := b) hd hck)
      have ek : ((k + 1 : Nat) : Int) = (k : Int) + 1 := by omega
      have skip : (lw c r b k = L ∨ hlw c r b L k ≠ k) → ∀ u : Option Value, AW X 0 0 63 [some (.ref 0), some (.ref 6), some (iv (rk c r b L)), some (iv k), u] [] (nsM (up Ho (rk c r b L) (Ho (rk c r b L) + hoK c r b L k)) Mc (up In (rk c r b L) (In (rk c r b L) + inK c r b L k)) Sn Qn ++ isA 6 c r (c * r) ct B F S Br Q Fo No) := by
        intro hs u
        have hsk := hlw_skip hd hs
        have e1 : hoK c r b L (k + 1) = hoK c r b L k := hoK_f (fun z => hs.elim z.1 (fun y => y z.2.1))
        have e2 : inK c r b L ((k + 1 : Nat) : Int) = inK c r b L k := by rw [ek]; exact inK_skip hd (fun j a1 a2 _ => hsk j a1 a2)
        refine a_iinc (pc := 63) ok dX2_findHoles_63 rfl rfl (by rw [hN]; decide) ?_
        refine a_goto (pc := 66) (tgt := 10) ok dX2_findHoles_66 (by decide) ?_
        refine AW.forget (AW.cast (ih (k + 1, Sn, Qn, Mc) ⟨by dsimp only; omega, h2, fun j a1 a2 => by dsimp only; rw [ek, hsk j a1 a2]; exact h3 j a1 a2, fun x a1 a2 => ?_⟩ (by dsimp only; omega)) rfl rfl (by dsimp only; rw [e1, e2])) (by repeat' (first | exact trivial | refine ⟨rfl, ?_⟩))
        dsimp only
        rw [ek]
        have hh := h4 x a1 a2
        by_cases e : x = L
        · exact ⟨fun z => absurd e z.1, fun _ => hh.2 (fun z => z.1 e)⟩
        · rw [hsk x a1 (by rw [a2]; exact e)]; exact hh
      have edge : lw c r b k ≠ L → hlw c r b L k = k → ¬ inr c r b L k → ∀ (Qn : Int → Int) (u : Option Value), AW X 0 0 63 [some (.ref 0), some (.ref 6), some (iv (rk c r b L)), some (iv k), u] [] (nsM (up Ho (rk c r b L) (Ho (rk c r b L) + hoK c r b L k)) Mc (up In (rk c r b L) (In (rk c r b L) + inK c r b L k)) (mkF Sn (con (EH c r b L) k) 1) Qn ++ isA 6 c r (c * r) ct B F S Br Q Fo No) := by
        intro hl1 hl2 hni Qn u
        have e1 : hoK c r b L (k + 1) = hoK c r b L k := hoK_f (fun z => hni z.2.2)
        have hsk : ∀ j, cel c r j → lw c r b j ≠ L → inr c r b L j → (hlw c r b L j < (k : Int) + 1 ↔ hlw c r b L j < k) := fun j a1 a2 a3 => by
          have : hlw c r b L j ≠ k := fun e => hni ((inr_con ((hlw_iff hd a1 hck).mp (by rw [hl2]; exact e))).mp a3)
          omega
        have e2 : inK c r b L ((k + 1 : Nat) : Int) = inK c r b L k := by rw [ek]; exact inK_skip hd hsk
        refine a_iinc (pc := 63) ok dX2_findHoles_63 rfl rfl (by rw [hN]; decide) ?_
        refine a_goto (pc := 66) (tgt := 10) ok dX2_findHoles_66 (by decide) ?_
        refine AW.forget (AW.cast (ih (k + 1, mkF Sn (con (EH c r b L) k) 1, Qn, Mc) ⟨by dsimp only; omega, fun j => ?_, fun j a1 a2 => ?_, fun x a1 a2 => ?_⟩ (by dsimp only; omega)) rfl rfl (by dsimp only; rw [e1, e2])) (by repeat' (first | exact trivial | refine ⟨rfl, ?_⟩))
        · by_cases z : con (EH c r b L) k j
          · right; exact mkF_t z
          · dsimp only; rw [mkF_f z]; exact h2 j
        · dsimp only
          rw [ek]
          by_cases z : con (EH c r b L) k j
          · rw [mkF_t z]; have := hlw_eq z; omega
          · rw [mkF_f z, h3 j a1 a2]
            have : hlw c r b L j ≠ k := fun e => z ((hlw_iff hd hck a1).mp (by rw [hl2]; exact e.symm))
            omega
        · dsimp only
          rw [ek]
          have hh := h4 x a1 a2
          by_cases e : x = L
          · exact ⟨fun z => absurd e z.1, fun _ => hh.2 (fun z => z.1 e)⟩
          · by_cases f : inr c r b L x
            · rw [hsk x a1 (by rw [a2]; exact e) f]; exact hh
            · exact ⟨fun z => absurd z.2.1 f, fun _ => hh.2 (fun z => f z.2.1)⟩
      have take : lw c r b k ≠ L → hlw c r b L k = k → inr c r b L k → ∀ (Qn Mc2 : Int → Int) (u : Option Value), (∀ x, cel c r x → lw c r b x = x → (con (EH c r b L) k x → Mc2 (rk c r b x) = upm c r b L (Mc (rk c r b x))) ∧ (¬ con (EH c r b L) k x → Mc2 (rk c r b x) = Mc (rk c r b x))) → AW X 0 0 63 [some (.ref 0), some (.ref 6), some (iv (rk c r b L)), some (iv k), u] [] (nsM (up Ho (rk c r b L) (Ho (rk c r b L) + hoK c r b L (k + 1))) Mc2 (up In (rk c r b L) (In (rk c r b L) + inK c r b L ((k + 1 : Nat) : Int))) (mkF Sn (con (EH c r b L) k) 1) Qn ++ isA 6 c r (c * r) ct B F S Br Q Fo No) := by
        intro hl1 hl2 hni Qn Mc2 u hMc2
        refine a_iinc (pc := 63) ok dX2_findHoles_63 rfl rfl (by rw [hN]; decide) ?_
        refine a_goto (pc := 66) (tgt := 10) ok dX2_findHoles_66 (by decide) ?_
        refine AW.forget (ih (k + 1, mkF Sn (con (EH c r b L) k) 1, Qn, Mc2) ⟨by dsimp only; omega, fun j => ?_, fun j a1 a2 => ?_, fun x a1 a2 => ?_⟩ (by dsimp only; omega)) (by repeat' (first | exact trivial | refine ⟨rfl, ?_⟩))
        · by_cases z : con (EH c r b L) k j
          · right; exact mkF_t z
          · dsimp only; rw [mkF_f z]; exact h2 j
        · dsimp only
          rw [ek]
          by_cases z : con (EH c r b L) k j
          · rw [mkF_t z]; have := hlw_eq z; omega
          · rw [mkF_f z, h3 j a1 a2]
            have : hlw c r b L j ≠ k := fun e => z ((hlw_iff hd hck a1).mp (by rw [hl2]; exact e.symm))
            omega
        · dsimp only
          rw [ek]
          have hh := h4 x a1 a2
          have hm2 := hMc2 x a1 a2
          by_cases z : con (EH c r b L) k x
          · have e0 := hlw_eq z
            have e3 := EH_con ⟨hck, hl1⟩ z
            have hxL : x ≠ L := fun e => e3.2 (by rw [a2]; exact e)
            refine ⟨fun _ => ?_, fun y => absurd ⟨hxL, (inr_con z).mp hni, by omega⟩ y⟩
            rw [hm2.1 z, hh.2 (fun y => by have := y.2.2; omega)]
          · rw [hm2.2 z]
            have : hlw c r b L x ≠ k := fun e => z ((hlw_iff hd hck a1).mp (by rw [hl2]; exact e.symm))
            exact ⟨fun y => hh.1 ⟨y.1, y.2.1, by have := y.2.2; omega⟩, fun y => hh.2 (fun w => y ⟨w.1, w.2.1, by have := w.2.2; omega⟩)⟩
      have fresh : Sn k = 0 → lw c r b k ≠ L → hlw c r b L k = k := fun e1 e2 => by
        have := h3 k hck e2
        have a := hlo.2.1
        rw [e1] at this
        have : ¬ hlw c r b L k < k := fun z => by have := this.mpr z; omega
        omega
      have hS0 : Sn k = 0 → lw c r b k ≠ L → ∀ j, con (EH c r b L) k j → Sn j = 0 := fun e1 e2 j hj => by
        have a := EH_con ⟨hck, e2⟩ hj
        have e := hlw_eq hj
        have f := fresh e1 e2
        rcases h2 j with z | z
        · exact z
        · have := (h3 j a.1 a.2).mp z; omega
      have old : Sn k ≠ 0 → lw c r b k = L ∨ hlw c r b L k ≠ k := fun e1 => by
        by_cases e2 : lw c r b k = L
        · exact Or.inl e2
        · right
          have : Sn k = 1 := by omega
          have := (h3 k hck e2).mp this
          omega
      have hMc : moOk c r b Mc := fun x a1 a2 => by
        have hh := h4 x a1 a2
        by_cases z : x ≠ L ∧ inr c r b L x ∧ hlw c r b L x < k
        · rw [hh.1 z]; exact upm_ok hd hL hl (hMo x a1 a2)
        · rw [hh.2 z]; exact hMo x a1 a2
      refine a_iload_n (pc := 10) ok dX2_findHoles_10 rfl ?_
      refine a_aload_n (pc := 11) ok dX2_findHoles_11 rfl ?_
      refine a_getf (pc := 12) ok dX2_findHoles_12 fl2_47 rfl rfl ?_
      refine a_icmp_ge (pc := 15) (tgt := 69) ok dX2_findHoles_15 (by decide) (by first | omega | (unfold rg; omega) | (simp only [rg] at *; omega) | exact bz_rg _ | grind [rg]) (by first | omega | (unfold rg; omega) | (simp only [rg] at *; omega) | exact bz_rg _ | grind [rg]) (fun c15 => ?_) (fun c15 => ?_)
      · exfalso; first | omega | grind
      · refine a_aload_n (pc := 18) ok dX2_findHoles_18 rfl ?_
        refine a_getf (pc := 19) ok dX2_findHoles_19 fl2_21 rfl rfl ?_
        refine a_iload_n (pc := 22) ok dX2_findHoles_22 rfl ?_
        refine a_iald (pc := 23) ok dX2_findHoles_23 rfl (by first | decide | omega) (by first | omega | (unfold rg; omega) | (simp only [rg] at *; omega) | exact bz_rg _ | grind [rg]) ?_
        refine a_if_ne (pc := 24) (tgt := 63) ok dX2_findHoles_24 (by decide) (by first | omega | (unfold rg; omega) | (simp only [rg] at *; omega) | exact bz_rg _ | grind [rg]) (fun c24 => ?_) (fun c24 => ?_)
        · first
          | exact skip (old c24) _
          | exact skip (Or.inl (hir.mp c33)) _
          | exact take hlk2 (fresh c24 hlk2) hin _ _ _ hMc2
          | exact edge (fun z => c33 (hir.mpr z)) (fresh c24 (fun z => c33 (hir.mpr z))) (fun z => c52 (@bz_neg _ (Classical.propDecidable _) (fun y => y z))) _ _
        · refine a_aload_n (pc := 27) ok dX2_findHoles_27 rfl ?_
          refine a_iload_n (pc := 28) ok dX2_findHoles_28 rfl ?_
          refine a_callVp (pc := 29) ok [6, 7, 8, 9, 10, 11, 12, 13] dX2_findHoles_29 mv2_50 miX0_islandAt (c_islandAt hd hck hI) ⟨by decide, by decide, rfl, rfl, Nat.zero_le _, Nat.zero_le _⟩ rfl rfl (Nat.le_of_ble_eq_true rfl) rfl (by decide) rfl rfl ?_
          refine a_iload_n (pc := 32) ok dX2_findHoles_32 rfl ?_
          refine a_icmp_eq (pc := 33) (tgt := 63) ok dX2_findHoles_33 (by decide) (by first | omega | (unfold rg; omega) | (simp only [rg] at *; omega) | exact bz_rg _ | grind [rg]) (by first | omega | (unfold rg; omega) | (simp only [rg] at *; omega) | exact bz_rg _ | grind [rg]) (fun c33 => ?_) (fun c33 => ?_)
          · first
            | exact skip (old c24) _
            | exact skip (Or.inl (hir.mp c33)) _
            | exact take hlk2 (fresh c24 hlk2) hin _ _ _ hMc2
            | exact edge (fun z => c33 (hir.mpr z)) (fresh c24 (fun z => c33 (hir.mpr z))) (fun z => c52 (@bz_neg _ (Classical.propDecidable _) (fun y => y z))) _ _
          · refine a_aload_n (pc := 36) ok dX2_findHoles_36 rfl ?_
            refine a_aload_n (pc := 37) ok dX2_findHoles_37 rfl ?_
            refine a_iload_n (pc := 38) ok dX2_findHoles_38 rfl ?_
            refine a_iload_n (pc := 39) ok dX2_findHoles_39 rfl ?_
            refine a_callV (pc := 40) ok [0, 1, 2, 3, 4, 5, 6, 7, 8, 9, 10, 11, 12, 13] dX2_findHoles_40 mv2_53 miX2_gatherAround (c_gatherAround hd hck (fun z => c33 (hir.mpr z)) hL hl hI h2 (hS0 c24 (fun z => c33 (hir.mpr z)))) ⟨by decide, by decide, rfl, rfl, Nat.zero_le _, Nat.zero_le _⟩ rfl rfl (Nat.le_of_ble_eq_true rfl) rfl (by decide) rfl rfl (fun v M' h => by obtain ⟨_, _, _, h, _⟩ := h; rw [h]; rfl) ?_
            rintro v M' ⟨had, Qn2, rfl, rfl, hBD, hhad⟩
            refine AW.cast (st2 := [iv had]) (M2 := nsM (up Ho (rk c r b L) (Ho (rk c r b L) + hoK c r b L k)) Mc (up In (rk c r b L) (In (rk c r b L) + inK c r b L k)) (mkF Sn (con (EH c r b L) k) 1) Qn2 ++ isA 6 c r (c * r) ct B F S Br Q Fo No) ?_ rfl rfl rfl
            refine a_istore (pc := 43) ok dX2_findHoles_43 rfl (by rw [hN]; decide) ?_
            refine a_aload_n (pc := 45) ok dX2_findHoles_45 rfl ?_
            refine a_aload_n (pc := 46) ok dX2_findHoles_46 rfl ?_
            refine a_iload (pc := 47) ok dX2_findHoles_47 rfl ?_
            refine a_callVp (pc := 49) ok [0, 1, 2, 3, 4, 5, 6, 7, 8, 9, 10, 11, 12, 13] dX2_findHoles_49 mv2_57 miX2_reachesEdge (c_reachesEdge hd ⟨hck, fun z => c33 (hir.mpr z)⟩ hBD hhad) ⟨by decide, by decide, rfl, rfl, Nat.zero_le _, Nat.zero_le _⟩ rfl rfl (Nat.le_of_ble_eq_true rfl) rfl (by decide) rfl rfl ?_
            refine a_if_ne (pc := 52) (tgt := 63) ok dX2_findHoles_52 (by decide) (by exact @bz_rg _ (Classical.propDecidable _)) (fun c52 => ?_) (fun c52 => ?_)
            · first
              | exact skip (old c24) _
              | exact skip (Or.inl (hir.mp c33)) _
              | exact take hlk2 (fresh c24 hlk2) hin _ _ _ hMc2
              | exact edge (fun z => c33 (hir.mpr z)) (fresh c24 (fun z => c33 (hir.mpr z))) (fun z => c52 (@bz_neg _ (Classical.propDecidable _) (fun y => y z))) _ _
            · refine a_aload_n (pc := 55) ok dX2_findHoles_55 rfl ?_
              refine a_aload_n (pc := 56) ok dX2_findHoles_56 rfl ?_
              refine a_iload_n (pc := 57) ok dX2_findHoles_57 rfl ?_
              refine a_iload (pc := 58) ok dX2_findHoles_58 rfl ?_
              refine a_callV (pc := 60) ok [0, 1, 2, 3, 4, 5, 6, 7, 8, 9, 10, 11, 12, 13] dX2_findHoles_60 mv2_61 miX2_takeHole (c_takeHole hd ⟨hck, fun z => c33 (hir.mpr z)⟩ hL hl hI hBD hhad hMc) ⟨by decide, by decide, rfl, rfl, Nat.zero_le _, Nat.zero_le _⟩ rfl rfl (Nat.le_of_ble_eq_true rfl) rfl (by decide) rfl rfl (fun v M' h => by obtain ⟨_, _, h, _⟩ := h; rw [h]; rfl) ?_
              rintro v M' ⟨rfl, Mc2, rfl, hMc2⟩
              have hlk2 : lw c r b k ≠ L := fun z => c33 (hir.mpr z)
              have hin : inr c r b L k := Classical.byContradiction fun z => by rw [@bz_pos _ (Classical.propDecidable _) z] at c52; exact absurd c52 (by decide)
              have e1 : Ho (rk c r b L) + hoK c r b L k + 1 = Ho (rk c r b L) + hoK c r b L (k + 1) := by rw [hoK_t hlk2 (fresh c24 hlk2) hin]; omega
              have e2 : In (rk c r b L) + inK c r b L k + cntK (fun j => tr (lw c r b j = j ∧ con (EH c r b L) k j)) (c * r).toNat = In (rk c r b L) + inK c r b L ((k + 1 : Nat) : Int) := by rw [ek, inK_take hd hck hlk2 (fresh c24 hlk2) hin]; omega
              rw [up_up, up_up, up_at, up_at, e1, e2]
              refine AW.cast (st2 := []) (M2 := nsM (up Ho (rk c r b L) (Ho (rk c r b L) + hoK c r b L (k + 1))) Mc2 (up In (rk c r b L) (In (rk c r b L) + inK c r b L ((k + 1 : Nat) : Int))) (mkF Sn (con (EH c r b L) k) 1) Qn2 ++ isA 6 c r (c * r) ct B F S Br Q Fo No) ?_ rfl rfl rfl
              first
              | exact skip (old c24) _
              | exact skip (Or.inl (hir.mp c33)) _
              | exact take hlk2 (fresh c24 hlk2) hin _ _ _ hMc2
              | exact edge (fun z => c33 (hir.mpr z)) (fresh c24 (fun z => c33 (hir.mpr z))) (fun z => c52 (@bz_neg _ (Classical.propDecidable _) (fun y => y z))) _ _
    · have e : (k : Int) = c * r := by omega
      have ekN : k = (c * r).toNat := by omega
      refine a_iload_n (pc := 10) ok dX2_findHoles_10 rfl ?_
      refine a_aload_n (pc := 11) ok dX2_findHoles_11 rfl ?_
      refine a_getf (pc := 12) ok dX2_findHoles_12 fl2_47 rfl rfl ?_
      refine a_icmp_ge (pc := 15) (tgt := 69) ok dX2_findHoles_15 (by decide) (by first | omega | (unfold rg; omega) | (simp only [rg] at *; omega) | exact bz_rg _ | grind [rg]) (by first | omega | (unfold rg; omega) | (simp only [rg] at *; omega) | exact bz_rg _ | grind [rg]) (fun c15 => ?_) (fun c15 => ?_)
      · exact a_vret (pc := 69) ok dX2_findHoles_69 (⟨rfl, Mc, Sn, Qn, by rw [inK_N hd e]; unfold hoF; rw [← ekN], fun x a1 a2 => by
  have hh := h4 x a1 a2
  have a := (hlw_ok (b := b) (L := L) hd a1).2.1
  have d := a1.2
  exact ⟨fun z => hh.1 ⟨z.1, z.2, by omega⟩, fun z => hh.2 (fun y => z ⟨y.1, y.2.1⟩)⟩⟩)
      · exfalso; first | omega | grind
  refine a_aload_n (pc := 0) ok dX2_findHoles_0 rfl ?_
  refine a_getf (pc := 1) ok dX2_findHoles_1 fl2_21 rfl rfl ?_
  refine a_iconst (pc := 4) ok dX2_findHoles_4 ?_
  refine a_callSv (pc := 5) ok [4] dX2_findHoles_5 mv2_27 miAF_fill (c_fill (by omega)) ⟨by decide, by decide, rfl, rfl, Nat.zero_le _, Nat.zero_le _⟩ rfl rfl (Nat.le_of_ble_eq_true rfl) rfl (by decide) rfl ?_
  refine a_iconst (pc := 8) ok dX2_findHoles_8 ?_
  refine a_istore_n (pc := 9) ok dX2_findHoles_9 rfl (by rw [hN]; decide) ?_
  refine AW.cast (loop (0, (fun _ => 0), Qn, Mo) ⟨by dsimp only; omega, fun j => Or.inl rfl, fun j a1 a2 => ?_, fun x a1 a2 => ⟨fun z => ?_, fun _ => rfl⟩⟩) rfl rfl ?_
  · have := (hlw_ok (b := b) (L := L) hd a1).1
    dsimp only; omega
  · have := (hlw_ok (b := b) (L := L) hd a1).1
    have := z.2.2
    dsimp only at this; omega
  · dsimp only
    rw [show hoK c r b L 0 = 0 from rfl, show inK c r b L ((0 : Nat) : Int) = 0 from inK_0 hd, Int.add_zero, Int.add_zero, up_self, up_self]
    rfl
end NG
