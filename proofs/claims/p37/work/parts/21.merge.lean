/-! MERGES in the abstract. -/
section MG
/-- how many islands; the number of one; its cells -/
noncomputable def mny (c r : Int) (B : Int → Int) : Int := cntK (fun j => decide (lw c r B j = j)) (c * r).toNat
noncomputable def rk (c r : Int) (B : Int → Int) (k : Int) : Int := cntK (fun j => decide (lw c r B j = j)) k.toNat
noncomputable def siz (c r : Int) (B : Int → Int) (L : Int) : Int := cntK (fun j => decide (lw c r B j = L)) (c * r).toNat
/-- the smallest, below le, of the first k cells -/
noncomputable def smK (c r : Int) (B : Int → Int) (le : Int) : Nat → Int
  | 0 => -1
  | k + 1 => if lw c r B k = k ∧ siz c r B k < le ∧ (smK c r B le k = -1 ∨ siz c r B k < siz c r B (smK c r B le k)) then k else smK c r B le k
noncomputable def brd (c r : Int) (B : Int → Int) (s L : Int) : Int :=
  sumK (fun k => if lw c r B k = s then cntK (fun w => decide (nb c r k w ≠ -1 ∧ lw c r B (nb c r k w) ≠ s ∧ lw c r B (nb c r k w) = L)) 4 else 0) (c * r).toNat
def ab (z : Int) : Int := max z (-z)
abbrev bet (B : Int → Int) (V : Int → Int) (s a b : Int) : Prop := V b < V a ∨ (V a = V b ∧ (ab (B a - B s) < ab (B b - B s) ∨ (ab (B a - B s) = ab (B b - B s) ∧ B a < B b)))
noncomputable def tkK (c r : Int) (B : Int → Int) (s : Int) : Nat → Int
  | 0 => -1
  | k + 1 => if 0 < brd c r B s k ∧ (tkK c r B s k = -1 ∨ bet B (brd c r B s) s k (tkK c r B s k)) then k else tkK c r B s k
noncomputable def smL (c r : Int) (B : Int → Int) (le : Int) : Int := smK c r B le (c * r).toNat
noncomputable def tkL (c r : Int) (B : Int → Int) (s : Int) : Int := tkK c r B s (c * r).toNat
noncomputable def mstp (c r : Int) (B : Int → Int) (s : Int) : Int → Int := fun k => if lw c r B k = s then B (tkL c r B s) else B k
noncomputable def mrg (c r le : Int) : Nat → (Int → Int) → (Int → Int)
  | 0, B => B
  | n + 1, B => if 1 < mny c r B ∧ smL c r B le ≠ -1 then mrg c r le n (mstp c r B (smL c r B le)) else B
section
variable {c r : Int} {B B' : Int → Int}
theorem sumK_pos {f : Int → Int} (h0 : ∀ k : Nat, 0 ≤ f k) : ∀ {N : Nat}, 0 ≤ sumK f N ∧ (0 < sumK f N ↔ ∃ k : Nat, k < N ∧ 0 < f k)
  | 0 => ⟨by simp [sumK], by simp [sumK]⟩
  | N + 1 => by
    have ih := sumK_pos h0 (N := N)
    have := h0 N
    simp only [sumK]
    refine ⟨by omega, fun h => ?_, fun ⟨k, h1, h2⟩ => ?_⟩
    · by_cases z : 0 < f N
      · exact ⟨N, by omega, z⟩
      · obtain ⟨k, h1, h2⟩ := ih.2.mp (by omega); exact ⟨k, by omega, h2⟩
    · rcases (show k < N ∨ k = N by omega) with z | z
      · have := ih.2.mpr ⟨k, z, h2⟩; omega
      · subst z; omega
theorem cntK_ex {p : Int → Bool} {N : Nat} (h : 0 < cntK p N) : ∃ k : Nat, k < N ∧ p k = true := by
  refine Classical.byContradiction fun z => ?_
  have := cntK_none (p := p) (N := N) (fun j hj => by
    cases e : p j
    · rfl
    · exact absurd ⟨j, hj, e⟩ z)
  omega
theorem cntK_le {p q : Int → Bool} : ∀ {N : Nat}, (∀ j : Nat, j < N → p j = true → q j = true) → cntK p N ≤ cntK q N
  | 0, _ => Int.le_refl _
  | N + 1, h => by
    have ih := cntK_le (p := p) (q := q) (N := N) (fun j hj => h j (by omega))
    have := h N (by omega)
    simp only [cntK]
    by_cases hp : p N = true
    · rw [hp, this hp]; simp; exact ih
    · rw [if_neg hp]; split <;> omega
theorem cntK_split (p q : Int → Prop) [DecidablePred p] : ∀ N : Nat, cntK (fun j => decide (p j)) N = cntK (fun j => tr (q j ∧ p j)) N + cntK (fun j => tr (¬ q j ∧ p j)) N
  | 0 => rfl
  | N + 1 => by
    have ih := cntK_split p q N
    by_cases hp : p N
    · rw [cntK_t (p := fun j => decide (p j)) (decide_eq_true hp), ih]
      by_cases hq : q N
      · rw [cntK_t (p := fun j => tr (q j ∧ p j)) (tr_t.mpr ⟨hq, hp⟩), cntK_f (p := fun j => tr (¬ q j ∧ p j)) (tr_f.mpr (fun z => z.1 hq))]; omega
      · rw [cntK_f (p := fun j => tr (q j ∧ p j)) (tr_f.mpr (fun z => hq z.1)), cntK_t (p := fun j => tr (¬ q j ∧ p j)) (tr_t.mpr ⟨hq, hp⟩)]; omega
    · rw [cntK_f (p := fun j => decide (p j)) (decide_eq_false hp), ih, cntK_f (p := fun j => tr (q j ∧ p j)) (tr_f.mpr (fun z => hp z.2)), cntK_f (p := fun j => tr (¬ q j ∧ p j)) (tr_f.mpr (fun z => hp z.2))]
theorem lw_out {k : Int} (hk : ¬ cel c r k) : lw c r B k = -1 := by
  refine fstK_neg.mpr fun j hj => tr_f.mpr fun h => ?_
  have : k = j := con_inv (P := fun x => k = x) (fun x y hx e => absurd (hx ▸ e.1) hk) rfl h
  exact hk ⟨by omega, by rw [this]; omega⟩
theorem smK_ok {le : Int} : ∀ k : Nat, smK c r B le k = -1 ∨ (0 ≤ smK c r B le k ∧ smK c r B le k < k ∧ lw c r B (smK c r B le k) = smK c r B le k ∧ siz c r B (smK c r B le k) < le)
  | 0 => Or.inl rfl
  | k + 1 => by
    simp only [smK]
    split
    · rename_i h; exact Or.inr ⟨by omega, by omega, h.1, h.2.1⟩
    · rcases smK_ok (le := le) k with h | h
      · exact Or.inl h
      · exact Or.inr ⟨h.1, by omega, h.2.2⟩
theorem brd_pos (hd : dim c r) {s L : Int} : 0 ≤ brd c r B s L ∧ (0 < brd c r B s L ↔ ∃ k w : Int, cel c r k ∧ lw c r B k = s ∧ (0 ≤ w ∧ w < 4) ∧ nb c r k w ≠ -1 ∧ lw c r B (nb c r k w) ≠ s ∧ lw c r B (nb c r k w) = L) := by
  have hc := dim_cells hd
  have h := sumK_pos (f := fun k => if lw c r B k = s then cntK (fun w => decide (nb c r k w ≠ -1 ∧ lw c r B (nb c r k w) ≠ s ∧ lw c r B (nb c r k w) = L)) 4 else 0) (fun k => by split <;> first | exact (cntK_rg _ _).1 | exact Int.le_refl _) (N := (c * r).toNat)
  refine ⟨h.1, h.2.trans ⟨fun ⟨k, h1, h2⟩ => ?_, fun ⟨k, w, h1, h2, h3, h4⟩ => ?_⟩⟩
  · split at h2
    · rename_i e
      obtain ⟨w, w1, w2⟩ := cntK_ex h2
      have := of_decide_eq_true w2
      exact ⟨k, w, ⟨by omega, by omega⟩, e, ⟨by omega, by omega⟩, this⟩
    · omega
  · have e : ((k.toNat : Nat) : Int) = k := Int.toNat_of_nonneg h1.1
    have hk2 := h1.2
    refine ⟨k.toNat, by omega, ?_⟩
    rw [e, if_pos h2]
    exact cntK_pos (k := w.toNat) (by rw [Int.toNat_of_nonneg h3.1]; exact decide_eq_true h4) 4 (by omega)
theorem tkK_ok {s : Int} : ∀ k : Nat, (tkK c r B s k = -1 → ∀ j : Nat, j < k → ¬ 0 < brd c r B s j) ∧ (tkK c r B s k = -1 ∨ (0 ≤ tkK c r B s k ∧ tkK c r B s k < k ∧ 0 < brd c r B s (tkK c r B s k)))
  | 0 => ⟨fun _ j h => by omega, Or.inl rfl⟩
  | k + 1 => by
    obtain ⟨h1, h2⟩ := tkK_ok (s := s) k
    simp only [tkK]
    split
    · rename_i h; exact ⟨fun z => by omega, Or.inr ⟨by omega, by omega, h.1⟩⟩
    · rename_i h
      refine ⟨fun z j hj => ?_, h2.imp id (fun z => ⟨z.1, by omega, z.2.2⟩)⟩
      rcases (show j < k ∨ j = k by omega) with y | y
      · exact h1 z j y
      · subst y; exact fun q => h ⟨q, Or.inl z⟩
/-- with two islands or more, one that has sides in common is found -/
theorem tk_ex (hd : dim c r) {s : Int} (hs : cel c r s) (hf : lw c r B s = s) (hm : 1 < mny c r B) : cel c r (tkL c r B s) ∧ 0 < brd c r B s (tkL c r B s) := by
  have hc := dim_cells hd
  have key : ∃ L : Int, cel c r L ∧ 0 < brd c r B s L := by
    refine Classical.byContradiction fun hn => ?_
    have hall := adj_all hd (P := fun x => lw c r B x = s) (fun a b ha hla hab => by
      refine Classical.byContradiction fun z => hn ?_
      have hb := (adj_symm hd ha hab).1
      obtain ⟨w, w1, w2, w3⟩ := hab
      subst w2
      exact ⟨lw c r B (nb c r a w), (lw_ok hd hb).1, (brd_pos hd).2.mpr ⟨a, w, ha, hla, w1, w3, z, rfl⟩⟩) hs hf
    have : mny c r B ≤ 1 := by
      have h1 := cntK_one (N := (c * r).toNat) (b := s) (cel_N hd hs) (fun _ => True)
      rw [if_pos trivial] at h1
      rw [← h1]
      refine cntK_le fun j hj hp => tr_t.mpr ⟨?_, trivial⟩
      have := hall j ⟨by omega, by omega⟩
      have e := of_decide_eq_true hp
      omega
    omega
  obtain ⟨L, hL, hb⟩ := key
  have h := tkK_ok (c := c) (r := r) (B := B) (s := s) (c * r).toNat
  rcases h.2 with z | z
  · have h1 := hL.1
    have h2 := hL.2
    have := h.1 z L.toNat (by omega)
    rw [Int.toNat_of_nonneg h1] at this
    exact absurd hb this
  · exact ⟨⟨z.1, by have := z.2.1; unfold tkL; omega⟩, z.2.2⟩
/-- a merge: s gets the band of t, with which it has sides in common -/
theorem mg_con (hd : dim c r) {s v : Int} {a b : Int} (h : con (EB c r B) a b) : con (EB c r (fun k => if lw c r B k = s then v else B k)) a b := by
  refine con_mono (fun x y e => ⟨e.1, e.2.1, ?_⟩) h
  have : lw c r B x = lw c r B y := lw_eq hd (con_one e)
  dsimp only
  rw [this, e.2.2]
theorem mg_far (hd : dim c r) {s v : Int} (hs : cel c r s) (hf : lw c r B s = s) {k : Int} (hk : cel c r k) (hn : ¬ con (EB c r (fun k => if lw c r B k = s then v else B k)) s k) (j : Int) : con (EB c r (fun k => if lw c r B k = s then v else B k)) k j ↔ con (EB c r B) k j := by
  refine ⟨fun h => ?_, mg_con hd⟩
  have sy := EB_symm (c := c) (r := r) (B := fun k => if lw c r B k = s then v else B k) hd
  have own : ∀ x, cel c r x → con (EB c r (fun k => if lw c r B k = s then v else B k)) k x → (if lw c r B x = s then v else B x) = B x := by
    intro x hx hc
    refine if_neg fun e => hn ?_
    have h1 : con (EB c r B) s x := (lw_iff hd hs hx).mp (by rw [hf, e])
    exact con_trans (mg_con hd h1) (con_symm sy hc)
  refine (con_inv (P := fun x => cel c r x ∧ con (EB c r B) k x ∧ con (EB c r (fun k => if lw c r B k = s then v else B k)) k x) (fun x y hx e => ?_) ⟨hk, con_refl k, con_refl k⟩ h).2.1
  have hy := EB_cel hd e
  have hc2 := con_step hx.2.2 e
  refine ⟨hy, con_step hx.2.1 ⟨e.1, e.2.1, ?_⟩, hc2⟩
  have := e.2.2
  dsimp only at this
  rw [own x hx.1 hx.2.2, own y hy hc2] at this
  exact this
theorem mg_near (hd : dim c r) {s t : Int} (hs : cel c r s) (hf : lw c r B s = s) (ht : cel c r t) (hb : 0 < brd c r B s t) : lw c r B t = t ∧ t ≠ s ∧ con (EB c r (fun k => if lw c r B k = s then B t else B k)) s t := by
  obtain ⟨k, w, h1, h2, h3, h4, h5, h6⟩ := (brd_pos hd).2.mp hb
  have hn := (nb_back hd h1 h3 h4).1
  have e1 : lw c r B t = t := by rw [← h6]; exact lw_lw hd hn
  refine ⟨e1, fun e => h5 (by rw [h6, e]), ?_⟩
  have c1 : con (EB c r B) s k := (lw_iff hd hs h1).mp (by rw [hf, h2])
  have c2 : con (EB c r B) (nb c r k w) t := (lw_iff hd hn ht).mp (by rw [h6, e1])
  refine con_trans (con_step (mg_con hd c1) ⟨h1, ⟨w, h3, rfl, h4⟩, ?_⟩) (mg_con hd c2)
  dsimp only
  rw [if_pos h2, if_neg h5]
  exact (con_band c2).symm
theorem siz_con (hd : dim c r) {s : Int} (hs : cel c r s) : siz c r B (lw c r B s) = cntK (fun j => tr (con (EB c r B) s j)) (c * r).toNat := by
  have hc := dim_cells hd
  refine cntK_congr _ fun j hj => ?_
  have hj2 : cel c r j := ⟨by omega, by omega⟩
  by_cases z : con (EB c r B) s j
  · rw [tr_t.mpr z]; exact decide_eq_true (lw_eq hd z).symm
  · rw [tr_f.mpr z]; exact decide_eq_false fun e => z ((lw_iff hd hs hj2).mp e.symm)
/-- what is known of the labels behind a merge -/
theorem mg_lw (hd : dim c r) {s v : Int} (hs : cel c r s) (hf : lw c r B s = s) {k : Int} (hk : cel c r k) : lw c r (fun k => if lw c r B k = s then v else B k) k = mkF (lw c r B) (con (EB c r (fun k => if lw c r B k = s then v else B k)) s) (lw c r (fun k => if lw c r B k = s then v else B k) s) k := by
  by_cases z : con (EB c r (fun k => if lw c r B k = s then v else B k)) s k
  · rw [mkF_t z]; exact (lw_eq hd z).symm
  · rw [mkF_f z]
    exact fstK_congr _ fun j _ => tr_iff (mg_far hd hs hf hk z j)
theorem mg_siz (hd : dim c r) {s v : Int} (hs : cel c r s) (hf : lw c r B s = s) {L : Int} (hL : cel c r L) (hn : ¬ con (EB c r (fun k => if lw c r B k = s then v else B k)) s L) (hl : lw c r B L = L) : siz c r (fun k => if lw c r B k = s then v else B k) L = siz c r B L := by
  have e1 : lw c r (fun k => if lw c r B k = s then v else B k) L = L := by rw [mg_lw hd hs hf hL, mkF_f hn]; exact hl
  have a := siz_con (B := fun k => if lw c r B k = s then v else B k) hd hL
  have b := siz_con (B := B) hd hL
  rw [e1] at a
  rw [hl] at b
  rw [a, b]
  exact cntK_congr _ fun j _ => tr_iff (mg_far hd hs hf hL hn j)
theorem mg_mny (hd : dim c r) {s v : Int} (hs : cel c r s) (hf : lw c r B s = s) : mny c r (fun k => if lw c r B k = s then v else B k) = mny c r B - cntK (fun j => tr (con (EB c r (fun k => if lw c r B k = s then v else B k)) s j ∧ lw c r B j = j)) (c * r).toNat + 1 := by
  have hc := dim_cells hd
  have h1 := cntK_split (fun j => lw c r (fun k => if lw c r B k = s then v else B k) j = j) (con (EB c r (fun k => if lw c r B k = s then v else B k)) s) (c * r).toNat
  have h2 := cntK_split (fun j => lw c r B j = j) (con (EB c r (fun k => if lw c r B k = s then v else B k)) s) (c * r).toNat
  have hls := (lw_ok (B := fun k => if lw c r B k = s then v else B k) hd hs)
  have e1 : cntK (fun j => tr (con (EB c r (fun k => if lw c r B k = s then v else B k)) s j ∧ lw c r (fun k => if lw c r B k = s then v else B k) j = j)) (c * r).toNat = 1 := by
    have h3 := cntK_one (N := (c * r).toNat) (b := lw c r (fun k => if lw c r B k = s then v else B k) s) (cel_N hd hls.1) (fun _ => True)
    rw [if_pos trivial] at h3
    rw [← h3]
    refine cntK_congr _ fun j hj => tr_iff ⟨fun z => ⟨?_, trivial⟩, fun z => ?_⟩
    · rw [lw_eq hd z.1]; exact z.2.symm
    · rw [z.1]; exact ⟨hls.2.2.1, lw_lw hd hs⟩
  have e2 : cntK (fun j => tr (¬ con (EB c r (fun k => if lw c r B k = s then v else B k)) s j ∧ lw c r (fun k => if lw c r B k = s then v else B k) j = j)) (c * r).toNat = cntK (fun j => tr (¬ con (EB c r (fun k => if lw c r B k = s then v else B k)) s j ∧ lw c r B j = j)) (c * r).toNat := by
    refine cntK_congr _ fun j hj => tr_iff (and_congr_right fun z => ?_)
    rw [mg_lw hd hs hf ⟨by omega, by omega⟩, mkF_f z]
  unfold mny
  omega
theorem mg_less (hd : dim c r) {s t : Int} (hs : cel c r s) (hf : lw c r B s = s) (ht : cel c r t) (hb : 0 < brd c r B s t) : mny c r (fun k => if lw c r B k = s then B t else B k) < mny c r B := by
  rw [mg_mny hd hs hf]
  obtain ⟨t1, t2, t3⟩ := mg_near hd hs hf ht hb
  have h1 := cntK_one (N := (c * r).toNat) (b := s) (cel_N hd hs) (fun _ => True)
  rw [if_pos trivial] at h1
  have h2 := cntK_mk (N := (c * r).toNat) (b := t) (mk := fun j => j = s) (cel_N hd ht) t2 (fun _ => True)
  rw [if_pos trivial] at h2
  have h3 : cntK (fun j => tr ((j = t ∨ j = s) ∧ True)) (c * r).toNat ≤ cntK (fun j => tr (con (EB c r (fun k => if lw c r B k = s then B t else B k)) s j ∧ lw c r B j = j)) (c * r).toNat := by
    refine cntK_le fun j _ hp => tr_t.mpr ?_
    rcases (tr_t.mp hp).1 with e | e
    · rw [e]; exact ⟨t3, t1⟩
    · rw [e]; exact ⟨con_refl s, hf⟩
  omega
theorem mny_1 (hd : dim c r) : 1 ≤ mny c r B ∧ mny c r B ≤ 144 := by
  have hc := dim_cells hd
  have h0 : cel c r 0 := ⟨Int.le_refl _, by omega⟩
  have := (lw_ok (B := B) hd h0)
  have e : lw c r B 0 = 0 := by have a := this.1.1; have b := this.2.1; omega
  have h1 := cntK_pos (p := fun j => decide (lw c r B j = j)) (k := 0) (decide_eq_true e) (c * r).toNat (by omega)
  have h2 := cntK_rg (fun j => decide (lw c r B j = j)) (c * r).toNat
  unfold mny; omega
end
end MG
