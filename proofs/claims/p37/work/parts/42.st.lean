/-! A STATE as one value: what commands do to it, and what doesn't hang on thresholds that are none. -/
section SS
abbrev St : Type := Int × Int × (Int → Int) × (Int → Int) × Nat × Int × (Int → Int) × Int
abbrev sC (S : St) : Int := S.1
abbrev sR (S : St) : Int := S.2.1
abbrev sG (S : St) : Int → Int := S.2.2.1
abbrev sT (S : St) : Int → Int := S.2.2.2.1
abbrev sN (S : St) : Nat := S.2.2.2.2.1
abbrev sE (S : St) : Int := S.2.2.2.2.2.1
abbrev sH (S : St) : Int → Int := S.2.2.2.2.2.2.1
abbrev sI (S : St) : Int := S.2.2.2.2.2.2.2
abbrev rowS (S : St) : Int → Int := rowOf (sC S) (sR S) (sG S) (sT S) (sN S) (sE S) (sH S) (sI S)
abbrev stS (p : Nat) (S : St) : List va_E := stA p (sC S) (sR S) (sG S) (sT S) (sN S) (sE S) (sH S) (sI S)
def SV (S : St) : Prop := dim (sC S) (sR S) ∧ (∀ i, 0 ≤ sG S i ∧ sG S i ≤ 99) ∧ (∀ i, 0 ≤ sT S i ∧ sT S i ≤ 99) ∧ srt (sT S) (sN S) ∧ sN S ≤ 5 ∧ (1 ≤ sE S ∧ sE S ≤ 30)
abbrev setG (S : St) (G : Int → Int) : St := (sC S, sR S, G, sT S, sN S, sE S, sH S, sI S)
abbrev setT (S : St) (T : Int → Int) (n : Nat) : St := (sC S, sR S, sG S, T, n, sE S, sH S, sI S)
abbrev setE (S : St) (v : Int) : St := (sC S, sR S, sG S, sT S, sN S, v, sH S, sI S)
abbrev setH (S : St) (b v : Int) : St := (sC S, sR S, sG S, sT S, sN S, sE S, up (sH S) b v, sI S)
abbrev setI (S : St) (v : Int) : St := (sC S, sR S, sG S, sT S, sN S, sE S, sH S, v)
/-- a new plate; all as in a new object -/
abbrev stN (S : St) (c r : Int) : St := (c, r, fun _ => 0, sT S, sN S, sE S, sH S, sI S)
abbrev st0 (T : Int → Int) (c r : Int) : St := (c, r, fun _ => 0, up T 0 50, 1, 1, fun j => j, 1)
abbrev kP (S : St) (x y g : Int) : Prop := inP (sC S) (sR S) x y ∧ 0 ≤ g ∧ g ≤ 99
abbrev kB (S : St) (x0 x1 y0 y1 g : Int) : Prop := inBox (sC S) (sR S) x0 x1 y0 y1 g
abbrev kT (S : St) (v b : Int) : Prop := 1 ≤ v ∧ v ≤ 99 ∧ canT (sT S) (sN S) v b = true
abbrev gP (S : St) (x y g : Int) : St := setG S (up (sG S) (y * sC S + x) g)
abbrev gB (S : St) (x0 x1 y0 y1 g : Int) : St := setG S (boxF (sC S) g x0 (x1 - x0 + 1).toNat y0 (y1 - y0 + 1).toNat (sG S, 0)).1
abbrev gT (S : St) (v b : Int) : St := setT S (chT (sT S) (sN S) v b) (chN (sN S) b)
abbrev gU (S : St) : St := setG S (mapK (blF (sC S) (sR S) (sG S)) (sC S * sR S) (sG S))
abbrev gI (S : St) : St := setG S (mapK (fun j => 99 - sG S j) (sC S * sR S) (sG S))
abbrev gQ (S : St) (v : Int) : St := setG S (mapK (fun j => spF v (sG S j)) (sC S * sR S) (sG S))
abbrev gO (S : St) (x v : Int) : St := setG S (mapK (noF (sG S) x v) (sC S * sR S) (sG S))
abbrev gH (S : St) (m : Int) : St := setT S (shK (sG S) (sC S * sR S).toNat m (sT S) m.toNat).1 (shK (sG S) (sC S * sR S).toNat m (sT S) m.toNat).2
def stP (S : St) (x y g : Int) : St := if kP S x y g then gP S x y g else S
def stB (S : St) (x0 x1 y0 y1 g : Int) : St := if kB S x0 x1 y0 y1 g then gB S x0 x1 y0 y1 g else S
def stT (S : St) (v b : Int) : St := if kT S v b then gT S v b else S
def stL (S : St) (v : Int) : St := if 1 ≤ v ∧ v ≤ 30 then setE S v else S
def stQ (S : St) (v : Int) : St := if 1 ≤ v ∧ v ≤ 49 then gQ S v else S
variable {S S' : St}
theorem boxF_rg {c g x0 : Int} {w : Nat} (hg : 0 ≤ g ∧ g ≤ 99) : ∀ (h : Nat) (y : Int) (s : (Int → Int) × Int), (∀ i, 0 ≤ s.1 i ∧ s.1 i ≤ 99) → ∀ i, 0 ≤ (boxF c g x0 w y h s).1 i ∧ (boxF c g x0 w y h s).1 i ≤ 99 := by
  have row : ∀ (k : Nat) (y x : Int) (s : (Int → Int) × Int), (∀ i, 0 ≤ s.1 i ∧ s.1 i ≤ 99) → ∀ i, 0 ≤ (rowF c g y x k s).1 i ∧ (rowF c g y x k s).1 i ≤ 99 := by
    intro k
    induction k with
    | zero => exact fun y x s h => h
    | succ k ih =>
      intro y x s h i
      rw [rowF_end]
      dsimp only
      unfold up
      split
      · exact hg
      · exact ih y x s h i
  intro h
  induction h with
  | zero => exact fun y s hs => hs
  | succ h ih =>
    intro y s hs i
    rw [boxF_end]
    exact row _ _ _ _ (ih y s hs) i
theorem SV_G (h : SV S) {G : Int → Int} (hG : ∀ i, 0 ≤ G i ∧ G i ≤ 99) : SV (setG S G) := ⟨h.1, hG, h.2.2⟩
theorem SV_T (h : SV S) {T : Int → Int} {n : Nat} (h1 : ∀ i, 0 ≤ T i ∧ T i ≤ 99) (h2 : srt T n) (h3 : n ≤ 5) : SV (setT S T n) := ⟨h.1, h.2.1, h1, h2, h3, h.2.2.2.2.2⟩
theorem up_99 {G : Int → Int} {k g : Int} (h : ∀ i, 0 ≤ G i ∧ G i ≤ 99) (hg : 0 ≤ g ∧ g ≤ 99) : ∀ i, 0 ≤ up G k g i ∧ up G k g i ≤ 99 := fun i => by unfold up; split; exact hg; exact h i
theorem SV_gP (h : SV S) {x y g : Int} (hg : 0 ≤ g ∧ g ≤ 99) : SV (gP S x y g) := SV_G h (up_99 h.2.1 hg)
theorem SV_gB (h : SV S) {x0 x1 y0 y1 g : Int} (hg : 0 ≤ g ∧ g ≤ 99) : SV (gB S x0 x1 y0 y1 g) := SV_G h (boxF_rg hg _ _ _ h.2.1)
theorem SV_gU (h : SV S) : SV (gU S) := SV_G h (mapK_rg (fun i _ _ => blF_99 h.2.1 i) h.2.1)
theorem SV_gI (h : SV S) : SV (gI S) := SV_G h (mapK_rg (fun i _ _ => by have := h.2.1 i; omega) h.2.1)
theorem SV_gQ (h : SV S) {v : Int} (hv : 1 ≤ v ∧ v ≤ 49) : SV (gQ S v) := SV_G h (mapK_rg (fun i _ _ => spF_rg hv) h.2.1)
theorem SV_gO (h : SV S) {x v : Int} : SV (gO S x v) := SV_G h (mapK_rg (fun i _ _ => by unfold noF; omega) h.2.1)
theorem SV_gT (h : SV S) {v b : Int} (hk : kT S v b) : SV (gT S v b) := by
  obtain ⟨h1, h2, h3, h4, h5, h6⟩ := h
  obtain ⟨k1, k2, k3⟩ := hk
  have hc := canT
  refine ⟨h1, h2, ?_, ?_, ?_, h6⟩
  · intro i
    show 0 ≤ chT (sT S) (sN S) v b i ∧ chT (sT S) (sN S) v b i ≤ 99
    unfold chT
    split
    · exact remT_rg h3 i
    · exact insT_rg h3 ⟨by omega, k2⟩ i
  · show srt (chT (sT S) (sN S) v b) (chN (sN S) b)
    unfold chT chN
    unfold canT at k3
    by_cases z : b = 0
    · rw [if_pos z] at k3 ⊢
      rw [if_pos z]
      have := hasT_at k3
      exact srt_rem h4 ⟨this.1, this.2.1⟩
    · rw [if_neg z] at k3 ⊢
      rw [if_neg z]
      have : hasT (sT S) (sN S) v = false := by
        cases e : hasT (sT S) (sN S) v
        · rfl
        · rw [e] at k3; simp at k3
      exact srt_ins h4 this
  · show chN (sN S) b ≤ 5
    unfold chN
    unfold canT at k3
    by_cases z : b = 0
    · rw [if_pos z]; omega
    · rw [if_neg z] at k3 ⊢
      simp at k3
      omega
theorem SV_gH (h : SV S) {m : Int} (hm : 0 ≤ m ∧ m ≤ 5) : SV (gH S m) := by
  have := shK_ok (sG S) (sC S * sR S).toNat m h.2.2.1 m.toNat
  exact SV_T h this.2.2 this.2.1 (by omega)
theorem SV_setE (h : SV S) {v : Int} (hv : 1 ≤ v ∧ v ≤ 30) : SV (setE S v) := ⟨h.1, h.2.1, h.2.2.1, h.2.2.2.1, h.2.2.2.2.1, hv⟩
theorem SV_setH (h : SV S) {b v : Int} : SV (setH S b v) := h
theorem SV_setI (h : SV S) {v : Int} : SV (setI S v) := h
theorem SV_stN (h : SV S) {c r : Int} (hd : dim c r) : SV (stN S c r) := ⟨hd, fun _ => ⟨Int.le_refl _, by show (0 : Int) ≤ 99; omega⟩, h.2.2⟩
theorem SV_st0 {T : Int → Int} (hT : ∀ i, 0 ≤ T i ∧ T i ≤ 99) {c r : Int} (hd : dim c r) : SV (st0 T c r) := ⟨hd, fun _ => ⟨Int.le_refl _, by show (0 : Int) ≤ 99; omega⟩, up_99 hT (by omega), fun i j a d e => by have : (j : Int) < (1 : Nat) := e; omega, by show 1 ≤ 5; omega, by show (1 : Int) ≤ 1 ∧ (1 : Int) ≤ 30; omega⟩
theorem SV_stP (h : SV S) {x y g : Int} : SV (stP S x y g) := by unfold stP; split; rename_i k; exact SV_gP h k.2; exact h
theorem SV_stB (h : SV S) {x0 x1 y0 y1 g : Int} : SV (stB S x0 x1 y0 y1 g) := by unfold stB; split; rename_i k; exact SV_gB h k.2.2.2.2; exact h
theorem SV_stT (h : SV S) {v b : Int} : SV (stT S v b) := by unfold stT; split; rename_i k; exact SV_gT h k; exact h
theorem SV_stL (h : SV S) {v : Int} : SV (stL S v) := by unfold stL; split; rename_i k; exact SV_setE h k; exact h
theorem SV_stQ (h : SV S) {v : Int} : SV (stQ S v) := by unfold stQ; split; rename_i k; exact SV_gQ h k; exact h
/-- alike but for thresholds that are none -/
def StE (S S' : St) : Prop := sC S = sC S' ∧ sR S = sR S' ∧ sG S = sG S' ∧ sN S = sN S' ∧ sE S = sE S' ∧ sH S = sH S' ∧ sI S = sI S' ∧ ∀ j : Int, 0 ≤ j → j < sN S → sT S j = sT S' j
def TE (n : Nat) (T T' : Int → Int) : Prop := ∀ j : Int, 0 ≤ j → j < n → T j = T' j
section
variable {n : Nat} {T T' : Int → Int}
theorem TE_at (h : TE n T T') (j : Nat) (hj : j < n) : T j = T' j := h j (by omega) (by omega)
theorem TE_band (h : TE n T T') (g : Int) : bandN T n g = bandN T' n g := cntK_congr n fun j hj => by rw [TE_at h j hj]
theorem TE_fst (h : TE n T T') (v : Int) : fstK (fun k => T k == v) n = fstK (fun k => T' k == v) n := fstK_congr n fun j hj => by rw [TE_at h j hj]
theorem TE_has (h : TE n T T') (v : Int) : hasT T n v = hasT T' n v := by unfold hasT; rw [TE_fst h]
theorem TE_can (h : TE n T T') (v b : Int) : canT T n v b = canT T' n v b := by unfold canT; rw [TE_has h]
theorem TE_rem (h : TE n T T') {p : Int} (hp : 0 ≤ p) : TE (n - 1) (remT T n p) (remT T' n p) := fun j h1 h2 => by
  unfold remT
  split
  · exact h _ (by omega) (by omega)
  · exact h _ (by omega) (by omega)
theorem TE_ins (h : TE n T T') (v : Int) : TE (n + 1) (insT T n v) (insT T' n v) := by
  have e : cntK (fun k => decide (T k ≤ v)) n = cntK (fun k => decide (T' k ≤ v)) n := cntK_congr n fun j hj => by rw [TE_at h j hj]
  intro j h1 h2
  have hc := cntK_rg (fun k => decide (T' k ≤ v)) n
  unfold insT
  rw [e]
  repeat' split
  all_goals first | rfl | exact h _ (by omega) (by omega) | omega
theorem TE_ch (h : TE n T T') {v b : Int} (hc : canT T n v b = true) : TE (chN n b) (chT T n v b) (chT T' n v b) := by
  unfold chN chT
  by_cases z : b = 0
  · rw [if_pos z, if_pos z, if_pos z, ← TE_fst h]
    unfold canT at hc
    rw [if_pos z] at hc
    exact TE_rem h (hasT_at hc).1
  · rw [if_neg z, if_neg z, if_neg z]; exact TE_ins h v
theorem TE_dst (h : TE n T T') (g : Int) : ∀ k : Nat, k ≤ n → dstK T g k = dstK T' g k
  | 0, _ => rfl
  | k + 1, hk => by simp only [dstK]; rw [TE_dst h g k (by omega), TE_at h k (by omega)]
theorem TE_sh (G : Int → Int) (C : Nat) (m : Int) (T T' : Int → Int) : ∀ k : Nat, (shK G C m T k).2 = (shK G C m T' k).2 ∧ TE (shK G C m T k).2 (shK G C m T k).1 (shK G C m T' k).1
  | 0 => ⟨rfl, fun j h1 h2 => by have : (j : Int) < ((0 : Nat) : Int) := h2; omega⟩
  | k + 1 => by
    obtain ⟨h1, h2⟩ := TE_sh G C m T T' k
    simp only [shK]
    rw [← h1, ← TE_has h2]
    split
    · exact ⟨h1, h2⟩
    · exact ⟨rfl, TE_ins h2 _⟩
end
theorem StE_TE (h : StE S S') : TE (sN S) (sT S) (sT S') := h.2.2.2.2.2.2.2
theorem StE_refl (S : St) : StE S S := ⟨rfl, rfl, rfl, rfl, rfl, rfl, rfl, fun _ _ _ => rfl⟩
theorem StE_bnd (h : StE S S') : bnd (sT S) (sN S) (sG S) = bnd (sT S') (sN S') (sG S') := by
  funext k
  unfold bnd
  rw [← h.2.2.1, ← h.2.2.2.1, TE_band (StE_TE h)]
/-- two states alike: the second is the first with other thresholds -/
theorem StE_eq (h : StE S S') : S' = setT S (sT S') (sN S) := by
  obtain ⟨c, r, G, T, n, le, Hh, li⟩ := S
  obtain ⟨c', r', G', T', n', le', Hh', li'⟩ := S'
  obtain ⟨h1, h2, h3, h4, h5, h6, h7, h8⟩ := h
  have h1 : c = c' := h1
  have h2 : r = r' := h2
  have h3 : G = G' := h3
  have h4 : n = n' := h4
  have h5 : le = le' := h5
  have h6 : Hh = Hh' := h6
  have h7 : li = li' := h7
  subst h1; subst h2; subst h3; subst h4; subst h5; subst h6; subst h7
  rfl
theorem StE_of {T' : Int → Int} (h : TE (sN S) (sT S) T') : StE S (setT S T' (sN S)) := ⟨rfl, rfl, rfl, rfl, rfl, rfl, rfl, h⟩
theorem StE_G (h : StE S S') (f : Int → Int) : StE (setG S f) (setG S' f) := ⟨h.1, h.2.1, rfl, h.2.2.2⟩
theorem StE_kT (h : StE S S') (v b : Int) : kT S v b ↔ kT S' v b := by
  unfold kT
  rw [TE_can (StE_TE h), h.2.2.2.1]
theorem StE_gP (h : StE S S') (x y g : Int) : StE (gP S x y g) (gP S' x y g) := by
  have e := StE_eq h
  have t := StE_TE h
  rw [e]; exact ⟨rfl, rfl, rfl, rfl, rfl, rfl, rfl, t⟩
theorem StE_gB (h : StE S S') (x0 x1 y0 y1 g : Int) : StE (gB S x0 x1 y0 y1 g) (gB S' x0 x1 y0 y1 g) := by
  have e := StE_eq h
  have t := StE_TE h
  rw [e]; exact ⟨rfl, rfl, rfl, rfl, rfl, rfl, rfl, t⟩
theorem StE_gT (h : StE S S') {v b : Int} (hk : kT S v b) : StE (gT S v b) (gT S' v b) := by
  have e := StE_eq h
  rw [e]; exact ⟨rfl, rfl, rfl, rfl, rfl, rfl, rfl, TE_ch (StE_TE h) hk.2.2⟩
theorem StE_gU (h : StE S S') : StE (gU S) (gU S') := by have t := StE_TE h; rw [StE_eq h]; exact ⟨rfl, rfl, rfl, rfl, rfl, rfl, rfl, t⟩
theorem StE_gI (h : StE S S') : StE (gI S) (gI S') := by have t := StE_TE h; rw [StE_eq h]; exact ⟨rfl, rfl, rfl, rfl, rfl, rfl, rfl, t⟩
theorem StE_gQ (h : StE S S') (v : Int) : StE (gQ S v) (gQ S' v) := by have t := StE_TE h; rw [StE_eq h]; exact ⟨rfl, rfl, rfl, rfl, rfl, rfl, rfl, t⟩
theorem StE_gO (h : StE S S') (x v : Int) : StE (gO S x v) (gO S' x v) := by have t := StE_TE h; rw [StE_eq h]; exact ⟨rfl, rfl, rfl, rfl, rfl, rfl, rfl, t⟩
theorem StE_gH (h : StE S S') (m : Int) : StE (gH S m) (gH S' m) := by
  have e := StE_eq h
  rw [e]
  have := TE_sh (sG S) (sC S * sR S).toNat m (sT S) (sT S') m.toNat
  exact ⟨rfl, rfl, rfl, this.1, rfl, rfl, rfl, this.2⟩
theorem StE_stN (h : StE S S') (c r : Int) : StE (stN S c r) (stN S' c r) := by have t := StE_TE h; rw [StE_eq h]; exact ⟨rfl, rfl, rfl, rfl, rfl, rfl, rfl, t⟩
theorem StE_setE (h : StE S S') (v : Int) : StE (setE S v) (setE S' v) := by have t := StE_TE h; rw [StE_eq h]; exact ⟨rfl, rfl, rfl, rfl, rfl, rfl, rfl, t⟩
theorem StE_setH (h : StE S S') (b v : Int) : StE (setH S b v) (setH S' b v) := by have t := StE_TE h; rw [StE_eq h]; exact ⟨rfl, rfl, rfl, rfl, rfl, rfl, rfl, t⟩
theorem StE_setI (h : StE S S') (v : Int) : StE (setI S v) (setI S' v) := by have t := StE_TE h; rw [StE_eq h]; exact ⟨rfl, rfl, rfl, rfl, rfl, rfl, rfl, t⟩
theorem StE_st0 (T T' : Int → Int) (c r : Int) : StE (st0 T c r) (st0 T' c r) := ⟨rfl, rfl, rfl, rfl, rfl, rfl, rfl, fun j h1 h2 => by
  have e : j = 0 := by have : (j : Int) < ((1 : Nat) : Int) := h2; omega
  show up T 0 50 j = up T' 0 50 j
  rw [e, up_at, up_at]⟩
theorem StE_kP (h : StE S S') (x y g : Int) : kP S x y g ↔ kP S' x y g := by unfold kP; rw [h.1, h.2.1]
theorem StE_kB (h : StE S S') (x0 x1 y0 y1 g : Int) : kB S x0 x1 y0 y1 g ↔ kB S' x0 x1 y0 y1 g := by unfold kB; rw [h.1, h.2.1]
theorem StE_stP (h : StE S S') (x y g : Int) : StE (stP S x y g) (stP S' x y g) := by
  unfold stP
  by_cases k : kP S x y g
  · rw [if_pos k, if_pos ((StE_kP h x y g).mp k)]; exact StE_gP h x y g
  · rw [if_neg k, if_neg (fun z => k ((StE_kP h x y g).mpr z))]; exact h
theorem StE_stB (h : StE S S') (x0 x1 y0 y1 g : Int) : StE (stB S x0 x1 y0 y1 g) (stB S' x0 x1 y0 y1 g) := by
  unfold stB
  by_cases k : kB S x0 x1 y0 y1 g
  · rw [if_pos k, if_pos ((StE_kB h x0 x1 y0 y1 g).mp k)]; exact StE_gB h x0 x1 y0 y1 g
  · rw [if_neg k, if_neg (fun z => k ((StE_kB h x0 x1 y0 y1 g).mpr z))]; exact h
theorem StE_stT (h : StE S S') (v b : Int) : StE (stT S v b) (stT S' v b) := by
  unfold stT
  by_cases k : kT S v b
  · rw [if_pos k, if_pos ((StE_kT h v b).mp k)]; exact StE_gT h k
  · rw [if_neg k, if_neg (fun z => k ((StE_kT h v b).mpr z))]; exact h
theorem StE_stL (h : StE S S') (v : Int) : StE (stL S v) (stL S' v) := by unfold stL; split; exact StE_setE h v; exact h
theorem StE_stQ (h : StE S S') (v : Int) : StE (stQ S v) (stQ S' v) := by unfold stQ; split; exact StE_gQ h v; exact h
end SS
